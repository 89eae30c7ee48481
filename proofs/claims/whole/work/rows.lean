section
-- ===== PART A: goes FIRST, ahead of the names: the tables' words, and 'selects' of the private methods out of them =====
/-- a private method of a class that the tables say can be made, by its rows of tables_1 -/
def lw_okq (q : MethodName × Nat) : Prop := (q.1.cls ≠ "java/lang/invoke/MethodHandle" ∧ q.1.cls ≠ "java/lang/invoke/VarHandle") ∧ Cond.instantiable q.1.cls q.2 ∈ tables_1 ∧ Cond.privateMethod q.1 ∈ tables_1 ∧ Cond.instanceMethod q.1 ∈ tables_1
theorem lw_p0 : lw_okq (⟨"java/lang/Throwable", "fillInStackTrace", "(I)Ljava/lang/Throwable;"⟩, 6) := ⟨⟨by decide +kernel, by decide +kernel⟩, List.mem_of_getElem? (i := 271) (by decide +kernel), List.mem_of_getElem? (i := 269) (by decide +kernel), List.mem_of_getElem? (i := 270) (by decide +kernel)⟩
theorem lw_p1 : lw_okq (⟨"SaltMarket", "doMoves", "()I"⟩, 6) := ⟨⟨by decide +kernel, by decide +kernel⟩, List.mem_of_getElem? (i := 16) (by decide +kernel), List.mem_of_getElem? (i := 371) (by decide +kernel), List.mem_of_getElem? (i := 372) (by decide +kernel)⟩
theorem lw_p2 : lw_okq (⟨"SaltMarket", "doMove", "(I)Z"⟩, 6) := ⟨⟨by decide +kernel, by decide +kernel⟩, List.mem_of_getElem? (i := 16) (by decide +kernel), List.mem_of_getElem? (i := 375) (by decide +kernel), List.mem_of_getElem? (i := 376) (by decide +kernel)⟩
theorem lw_p3 : lw_okq (⟨"SaltMarket", "doCommand", "(I)Z"⟩, 6) := ⟨⟨by decide +kernel, by decide +kernel⟩, List.mem_of_getElem? (i := 16) (by decide +kernel), List.mem_of_getElem? (i := 752) (by decide +kernel), List.mem_of_getElem? (i := 753) (by decide +kernel)⟩
theorem lw_p4 : lw_okq (⟨"SaltMarket", "trialSets", "(II)Z"⟩, 6) := ⟨⟨by decide +kernel, by decide +kernel⟩, List.mem_of_getElem? (i := 16) (by decide +kernel), List.mem_of_getElem? (i := 756) (by decide +kernel), List.mem_of_getElem? (i := 757) (by decide +kernel)⟩
theorem lw_p5 : lw_okq (⟨"SaltMarket", "simulateTurn", "(I)V"⟩, 6) := ⟨⟨by decide +kernel, by decide +kernel⟩, List.mem_of_getElem? (i := 16) (by decide +kernel), List.mem_of_getElem? (i := 768) (by decide +kernel), List.mem_of_getElem? (i := 769) (by decide +kernel)⟩
theorem lw_p6 : lw_okq (⟨"SaltMarketModel", "settles", "()V"⟩, 24) := ⟨⟨by decide +kernel, by decide +kernel⟩, List.mem_of_getElem? (i := 795) (by decide +kernel), List.mem_of_getElem? (i := 801) (by decide +kernel), List.mem_of_getElem? (i := 802) (by decide +kernel)⟩
theorem lw_p7 : lw_okq (⟨"SaltMarketModel", "fails", "(I)I"⟩, 24) := ⟨⟨by decide +kernel, by decide +kernel⟩, List.mem_of_getElem? (i := 795) (by decide +kernel), List.mem_of_getElem? (i := 890) (by decide +kernel), List.mem_of_getElem? (i := 891) (by decide +kernel)⟩
theorem lw_p8 : lw_okq (⟨"SaltMarketModel", "reads", "()I"⟩, 24) := ⟨⟨by decide +kernel, by decide +kernel⟩, List.mem_of_getElem? (i := 795) (by decide +kernel), List.mem_of_getElem? (i := 902) (by decide +kernel), List.mem_of_getElem? (i := 903) (by decide +kernel)⟩
theorem lw_p9 : lw_okq (⟨"SaltMarketModel", "wants", "(II)I"⟩, 24) := ⟨⟨by decide +kernel, by decide +kernel⟩, List.mem_of_getElem? (i := 795) (by decide +kernel), List.mem_of_getElem? (i := 906) (by decide +kernel), List.mem_of_getElem? (i := 907) (by decide +kernel)⟩
theorem lw_p10 : lw_okq (⟨"SaltMarketModel", "letter", "()I"⟩, 24) := ⟨⟨by decide +kernel, by decide +kernel⟩, List.mem_of_getElem? (i := 795) (by decide +kernel), List.mem_of_getElem? (i := 910) (by decide +kernel), List.mem_of_getElem? (i := 911) (by decide +kernel)⟩
theorem lw_p11 : lw_okq (⟨"SaltMarketModel", "readsMove", "()V"⟩, 24) := ⟨⟨by decide +kernel, by decide +kernel⟩, List.mem_of_getElem? (i := 795) (by decide +kernel), List.mem_of_getElem? (i := 914) (by decide +kernel), List.mem_of_getElem? (i := 915) (by decide +kernel)⟩
theorem lw_p12 : lw_okq (⟨"SaltMarketModel", "begins", "(IJ)V"⟩, 24) := ⟨⟨by decide +kernel, by decide +kernel⟩, List.mem_of_getElem? (i := 795) (by decide +kernel), List.mem_of_getElem? (i := 925) (by decide +kernel), List.mem_of_getElem? (i := 926) (by decide +kernel)⟩
theorem lw_p13 : lw_okq (⟨"SaltMarketModel", "adds", "(III)V"⟩, 24) := ⟨⟨by decide +kernel, by decide +kernel⟩, List.mem_of_getElem? (i := 795) (by decide +kernel), List.mem_of_getElem? (i := 929) (by decide +kernel), List.mem_of_getElem? (i := 930) (by decide +kernel)⟩
theorem lw_p14 : lw_okq (⟨"SaltMarketModel", "throwsDie", "()V"⟩, 24) := ⟨⟨by decide +kernel, by decide +kernel⟩, List.mem_of_getElem? (i := 795) (by decide +kernel), List.mem_of_getElem? (i := 933) (by decide +kernel), List.mem_of_getElem? (i := 934) (by decide +kernel)⟩
theorem lw_p15 : lw_okq (⟨"SaltMarketModel", "leavesOut", "(II)I"⟩, 24) := ⟨⟨by decide +kernel, by decide +kernel⟩, List.mem_of_getElem? (i := 795) (by decide +kernel), List.mem_of_getElem? (i := 945) (by decide +kernel), List.mem_of_getElem? (i := 946) (by decide +kernel)⟩
def lw_privs_1 : List (MethodName × Nat) := [(⟨"java/lang/Throwable", "fillInStackTrace", "(I)Ljava/lang/Throwable;"⟩, 6), (⟨"SaltMarket", "doMoves", "()I"⟩, 6), (⟨"SaltMarket", "doMove", "(I)Z"⟩, 6), (⟨"SaltMarket", "doCommand", "(I)Z"⟩, 6), (⟨"SaltMarket", "trialSets", "(II)Z"⟩, 6), (⟨"SaltMarket", "simulateTurn", "(I)V"⟩, 6), (⟨"SaltMarketModel", "settles", "()V"⟩, 24), (⟨"SaltMarketModel", "fails", "(I)I"⟩, 24), (⟨"SaltMarketModel", "reads", "()I"⟩, 24), (⟨"SaltMarketModel", "wants", "(II)I"⟩, 24), (⟨"SaltMarketModel", "letter", "()I"⟩, 24), (⟨"SaltMarketModel", "readsMove", "()V"⟩, 24), (⟨"SaltMarketModel", "begins", "(IJ)V"⟩, 24), (⟨"SaltMarketModel", "adds", "(III)V"⟩, 24), (⟨"SaltMarketModel", "throwsDie", "()V"⟩, 24), (⟨"SaltMarketModel", "leavesOut", "(II)I"⟩, 24)]
theorem lw_r1 : ∀ q ∈ lw_privs_1, lw_okq q := List.forall_mem_cons.mpr ⟨lw_p0, List.forall_mem_cons.mpr ⟨lw_p1, List.forall_mem_cons.mpr ⟨lw_p2, List.forall_mem_cons.mpr ⟨lw_p3, List.forall_mem_cons.mpr ⟨lw_p4, List.forall_mem_cons.mpr ⟨lw_p5, List.forall_mem_cons.mpr ⟨lw_p6, List.forall_mem_cons.mpr ⟨lw_p7, List.forall_mem_cons.mpr ⟨lw_p8, List.forall_mem_cons.mpr ⟨lw_p9, List.forall_mem_cons.mpr ⟨lw_p10, List.forall_mem_cons.mpr ⟨lw_p11, List.forall_mem_cons.mpr ⟨lw_p12, List.forall_mem_cons.mpr ⟨lw_p13, List.forall_mem_cons.mpr ⟨lw_p14, List.forall_mem_cons.mpr ⟨lw_p15, fun _ h => absurd h List.not_mem_nil⟩⟩⟩⟩⟩⟩⟩⟩⟩⟩⟩⟩⟩⟩⟩⟩
theorem lw_p16 : lw_okq (⟨"SaltMarketModel", "isOn", "()Z"⟩, 24) := ⟨⟨by decide +kernel, by decide +kernel⟩, List.mem_of_getElem? (i := 795) (by decide +kernel), List.mem_of_getElem? (i := 949) (by decide +kernel), List.mem_of_getElem? (i := 950) (by decide +kernel)⟩
theorem lw_p17 : lw_okq (⟨"SaltMarketModel", "passes", "()V"⟩, 24) := ⟨⟨by decide +kernel, by decide +kernel⟩, List.mem_of_getElem? (i := 795) (by decide +kernel), List.mem_of_getElem? (i := 953) (by decide +kernel), List.mem_of_getElem? (i := 954) (by decide +kernel)⟩
theorem lw_p18 : lw_okq (⟨"SaltMarketModel", "goesTo", "()V"⟩, 24) := ⟨⟨by decide +kernel, by decide +kernel⟩, List.mem_of_getElem? (i := 795) (by decide +kernel), List.mem_of_getElem? (i := 957) (by decide +kernel), List.mem_of_getElem? (i := 958) (by decide +kernel)⟩
theorem lw_p19 : lw_okq (⟨"SaltMarketModel", "of", "(II)I"⟩, 24) := ⟨⟨by decide +kernel, by decide +kernel⟩, List.mem_of_getElem? (i := 795) (by decide +kernel), List.mem_of_getElem? (i := 961) (by decide +kernel), List.mem_of_getElem? (i := 962) (by decide +kernel)⟩
theorem lw_p20 : lw_okq (⟨"SaltMarketModel", "endsRound", "()V"⟩, 24) := ⟨⟨by decide +kernel, by decide +kernel⟩, List.mem_of_getElem? (i := 795) (by decide +kernel), List.mem_of_getElem? (i := 965) (by decide +kernel), List.mem_of_getElem? (i := 966) (by decide +kernel)⟩
theorem lw_p21 : lw_okq (⟨"SaltMarketModel", "ends", "(I)V"⟩, 24) := ⟨⟨by decide +kernel, by decide +kernel⟩, List.mem_of_getElem? (i := 795) (by decide +kernel), List.mem_of_getElem? (i := 969) (by decide +kernel), List.mem_of_getElem? (i := 970) (by decide +kernel)⟩
theorem lw_p22 : lw_okq (⟨"SaltMarketModel", "loss", "(II)I"⟩, 24) := ⟨⟨by decide +kernel, by decide +kernel⟩, List.mem_of_getElem? (i := 795) (by decide +kernel), List.mem_of_getElem? (i := 973) (by decide +kernel), List.mem_of_getElem? (i := 974) (by decide +kernel)⟩
theorem lw_p23 : lw_okq (⟨"SaltMarketModel", "canPlace", "(II)Z"⟩, 24) := ⟨⟨by decide +kernel, by decide +kernel⟩, List.mem_of_getElem? (i := 795) (by decide +kernel), List.mem_of_getElem? (i := 977) (by decide +kernel), List.mem_of_getElem? (i := 978) (by decide +kernel)⟩
theorem lw_p24 : lw_okq (⟨"SaltMarketModel", "isFull", "(I)Z"⟩, 24) := ⟨⟨by decide +kernel, by decide +kernel⟩, List.mem_of_getElem? (i := 795) (by decide +kernel), List.mem_of_getElem? (i := 981) (by decide +kernel), List.mem_of_getElem? (i := 982) (by decide +kernel)⟩
theorem lw_p25 : lw_okq (⟨"SaltMarketModel", "workersAt", "(I)I"⟩, 24) := ⟨⟨by decide +kernel, by decide +kernel⟩, List.mem_of_getElem? (i := 795) (by decide +kernel), List.mem_of_getElem? (i := 985) (by decide +kernel), List.mem_of_getElem? (i := 986) (by decide +kernel)⟩
theorem lw_p26 : lw_okq (⟨"SaltMarketModel", "bumpedAt", "(I)I"⟩, 24) := ⟨⟨by decide +kernel, by decide +kernel⟩, List.mem_of_getElem? (i := 795) (by decide +kernel), List.mem_of_getElem? (i := 989) (by decide +kernel), List.mem_of_getElem? (i := 990) (by decide +kernel)⟩
theorem lw_p27 : lw_okq (⟨"SaltMarketModel", "ownerAt", "(II)I"⟩, 24) := ⟨⟨by decide +kernel, by decide +kernel⟩, List.mem_of_getElem? (i := 795) (by decide +kernel), List.mem_of_getElem? (i := 993) (by decide +kernel), List.mem_of_getElem? (i := 994) (by decide +kernel)⟩
theorem lw_p28 : lw_okq (⟨"SaltMarketModel", "canWork", "(III)Z"⟩, 24) := ⟨⟨by decide +kernel, by decide +kernel⟩, List.mem_of_getElem? (i := 795) (by decide +kernel), List.mem_of_getElem? (i := 997) (by decide +kernel), List.mem_of_getElem? (i := 998) (by decide +kernel)⟩
theorem lw_p29 : lw_okq (⟨"SaltMarketModel", "places", "(II)I"⟩, 24) := ⟨⟨by decide +kernel, by decide +kernel⟩, List.mem_of_getElem? (i := 795) (by decide +kernel), List.mem_of_getElem? (i := 1001) (by decide +kernel), List.mem_of_getElem? (i := 1002) (by decide +kernel)⟩
theorem lw_p30 : lw_okq (⟨"SaltMarketModel", "works", "(II)V"⟩, 24) := ⟨⟨by decide +kernel, by decide +kernel⟩, List.mem_of_getElem? (i := 795) (by decide +kernel), List.mem_of_getElem? (i := 1005) (by decide +kernel), List.mem_of_getElem? (i := 1006) (by decide +kernel)⟩
theorem lw_p31 : lw_okq (⟨"SaltMarketModel", "sells", "(III)V"⟩, 24) := ⟨⟨by decide +kernel, by decide +kernel⟩, List.mem_of_getElem? (i := 795) (by decide +kernel), List.mem_of_getElem? (i := 1009) (by decide +kernel), List.mem_of_getElem? (i := 1010) (by decide +kernel)⟩
def lw_privs_2 : List (MethodName × Nat) := [(⟨"SaltMarketModel", "isOn", "()Z"⟩, 24), (⟨"SaltMarketModel", "passes", "()V"⟩, 24), (⟨"SaltMarketModel", "goesTo", "()V"⟩, 24), (⟨"SaltMarketModel", "of", "(II)I"⟩, 24), (⟨"SaltMarketModel", "endsRound", "()V"⟩, 24), (⟨"SaltMarketModel", "ends", "(I)V"⟩, 24), (⟨"SaltMarketModel", "loss", "(II)I"⟩, 24), (⟨"SaltMarketModel", "canPlace", "(II)Z"⟩, 24), (⟨"SaltMarketModel", "isFull", "(I)Z"⟩, 24), (⟨"SaltMarketModel", "workersAt", "(I)I"⟩, 24), (⟨"SaltMarketModel", "bumpedAt", "(I)I"⟩, 24), (⟨"SaltMarketModel", "ownerAt", "(II)I"⟩, 24), (⟨"SaltMarketModel", "canWork", "(III)Z"⟩, 24), (⟨"SaltMarketModel", "places", "(II)I"⟩, 24), (⟨"SaltMarketModel", "works", "(II)V"⟩, 24), (⟨"SaltMarketModel", "sells", "(III)V"⟩, 24)]
theorem lw_r2 : ∀ q ∈ lw_privs_2, lw_okq q := List.forall_mem_cons.mpr ⟨lw_p16, List.forall_mem_cons.mpr ⟨lw_p17, List.forall_mem_cons.mpr ⟨lw_p18, List.forall_mem_cons.mpr ⟨lw_p19, List.forall_mem_cons.mpr ⟨lw_p20, List.forall_mem_cons.mpr ⟨lw_p21, List.forall_mem_cons.mpr ⟨lw_p22, List.forall_mem_cons.mpr ⟨lw_p23, List.forall_mem_cons.mpr ⟨lw_p24, List.forall_mem_cons.mpr ⟨lw_p25, List.forall_mem_cons.mpr ⟨lw_p26, List.forall_mem_cons.mpr ⟨lw_p27, List.forall_mem_cons.mpr ⟨lw_p28, List.forall_mem_cons.mpr ⟨lw_p29, List.forall_mem_cons.mpr ⟨lw_p30, List.forall_mem_cons.mpr ⟨lw_p31, fun _ h => absurd h List.not_mem_nil⟩⟩⟩⟩⟩⟩⟩⟩⟩⟩⟩⟩⟩⟩⟩⟩
theorem lw_p32 : lw_okq (⟨"SaltMarketModel", "tells", "(I)I"⟩, 24) := ⟨⟨by decide +kernel, by decide +kernel⟩, List.mem_of_getElem? (i := 795) (by decide +kernel), List.mem_of_getElem? (i := 1017) (by decide +kernel), List.mem_of_getElem? (i := 1018) (by decide +kernel)⟩
theorem lw_p33 : lw_okq (⟨"SaltMarketModel", "atPlaces", "()I"⟩, 24) := ⟨⟨by decide +kernel, by decide +kernel⟩, List.mem_of_getElem? (i := 795) (by decide +kernel), List.mem_of_getElem? (i := 1021) (by decide +kernel), List.mem_of_getElem? (i := 1022) (by decide +kernel)⟩
theorem lw_p34 : lw_okq (⟨"SaltMarketModel", "isPlayer", "(I)Z"⟩, 24) := ⟨⟨by decide +kernel, by decide +kernel⟩, List.mem_of_getElem? (i := 795) (by decide +kernel), List.mem_of_getElem? (i := 1029) (by decide +kernel), List.mem_of_getElem? (i := 1030) (by decide +kernel)⟩
theorem lw_p35 : lw_okq (⟨"SaltMarketModel", "total", "(I)I"⟩, 24) := ⟨⟨by decide +kernel, by decide +kernel⟩, List.mem_of_getElem? (i := 795) (by decide +kernel), List.mem_of_getElem? (i := 1033) (by decide +kernel), List.mem_of_getElem? (i := 1034) (by decide +kernel)⟩
theorem lw_p36 : lw_okq (⟨"SaltMarketModel", "remembers", "()V"⟩, 24) := ⟨⟨by decide +kernel, by decide +kernel⟩, List.mem_of_getElem? (i := 795) (by decide +kernel), List.mem_of_getElem? (i := 1052) (by decide +kernel), List.mem_of_getElem? (i := 1053) (by decide +kernel)⟩
theorem lw_p37 : lw_okq (⟨"SaltMarketModel", "refuses", "(II)I"⟩, 24) := ⟨⟨by decide +kernel, by decide +kernel⟩, List.mem_of_getElem? (i := 795) (by decide +kernel), List.mem_of_getElem? (i := 1060) (by decide +kernel), List.mem_of_getElem? (i := 1061) (by decide +kernel)⟩
theorem lw_p38 : lw_okq (⟨"SaltMarketModel", "plays", "()I"⟩, 24) := ⟨⟨by decide +kernel, by decide +kernel⟩, List.mem_of_getElem? (i := 795) (by decide +kernel), List.mem_of_getElem? (i := 1075) (by decide +kernel), List.mem_of_getElem? (i := 1076) (by decide +kernel)⟩
theorem lw_p39 : lw_okq (⟨"SaltMarketModel", "findsBest", "()V"⟩, 24) := ⟨⟨by decide +kernel, by decide +kernel⟩, List.mem_of_getElem? (i := 795) (by decide +kernel), List.mem_of_getElem? (i := 1079) (by decide +kernel), List.mem_of_getElem? (i := 1080) (by decide +kernel)⟩
theorem lw_p40 : lw_okq (⟨"SaltMarketModel", "bringing", "(II)I"⟩, 24) := ⟨⟨by decide +kernel, by decide +kernel⟩, List.mem_of_getElem? (i := 795) (by decide +kernel), List.mem_of_getElem? (i := 1083) (by decide +kernel), List.mem_of_getElem? (i := 1084) (by decide +kernel)⟩
theorem lw_p41 : lw_okq (⟨"SaltMarketModel", "putsAside", "()V"⟩, 24) := ⟨⟨by decide +kernel, by decide +kernel⟩, List.mem_of_getElem? (i := 795) (by decide +kernel), List.mem_of_getElem? (i := 1087) (by decide +kernel), List.mem_of_getElem? (i := 1088) (by decide +kernel)⟩
theorem lw_p42 : lw_okq (⟨"SaltMarketModel", "takesBack", "()V"⟩, 24) := ⟨⟨by decide +kernel, by decide +kernel⟩, List.mem_of_getElem? (i := 795) (by decide +kernel), List.mem_of_getElem? (i := 1091) (by decide +kernel), List.mem_of_getElem? (i := 1092) (by decide +kernel)⟩
theorem lw_p43 : lw_okq (⟨"SaltMarketModel", "keeps", "()V"⟩, 24) := ⟨⟨by decide +kernel, by decide +kernel⟩, List.mem_of_getElem? (i := 795) (by decide +kernel), List.mem_of_getElem? (i := 1126) (by decide +kernel), List.mem_of_getElem? (i := 1127) (by decide +kernel)⟩
theorem lw_p44 : lw_okq (⟨"SaltMarketModel", "richest", "()I"⟩, 24) := ⟨⟨by decide +kernel, by decide +kernel⟩, List.mem_of_getElem? (i := 795) (by decide +kernel), List.mem_of_getElem? (i := 1130) (by decide +kernel), List.mem_of_getElem? (i := 1131) (by decide +kernel)⟩
theorem lw_p45 : lw_okq (⟨"SaltMarketModel", "takesKept", "()V"⟩, 24) := ⟨⟨by decide +kernel, by decide +kernel⟩, List.mem_of_getElem? (i := 795) (by decide +kernel), List.mem_of_getElem? (i := 1134) (by decide +kernel), List.mem_of_getElem? (i := 1135) (by decide +kernel)⟩
theorem lw_p46 : lw_okq (⟨"SaltMarketModel", "does", "(IIII)Z"⟩, 24) := ⟨⟨by decide +kernel, by decide +kernel⟩, List.mem_of_getElem? (i := 795) (by decide +kernel), List.mem_of_getElem? (i := 1147) (by decide +kernel), List.mem_of_getElem? (i := 1148) (by decide +kernel)⟩
theorem lw_p47 : lw_okq (⟨"SaltMarketModel", "doesPlace", "(II)Z"⟩, 24) := ⟨⟨by decide +kernel, by decide +kernel⟩, List.mem_of_getElem? (i := 795) (by decide +kernel), List.mem_of_getElem? (i := 1151) (by decide +kernel), List.mem_of_getElem? (i := 1152) (by decide +kernel)⟩
def lw_privs_3 : List (MethodName × Nat) := [(⟨"SaltMarketModel", "tells", "(I)I"⟩, 24), (⟨"SaltMarketModel", "atPlaces", "()I"⟩, 24), (⟨"SaltMarketModel", "isPlayer", "(I)Z"⟩, 24), (⟨"SaltMarketModel", "total", "(I)I"⟩, 24), (⟨"SaltMarketModel", "remembers", "()V"⟩, 24), (⟨"SaltMarketModel", "refuses", "(II)I"⟩, 24), (⟨"SaltMarketModel", "plays", "()I"⟩, 24), (⟨"SaltMarketModel", "findsBest", "()V"⟩, 24), (⟨"SaltMarketModel", "bringing", "(II)I"⟩, 24), (⟨"SaltMarketModel", "putsAside", "()V"⟩, 24), (⟨"SaltMarketModel", "takesBack", "()V"⟩, 24), (⟨"SaltMarketModel", "keeps", "()V"⟩, 24), (⟨"SaltMarketModel", "richest", "()I"⟩, 24), (⟨"SaltMarketModel", "takesKept", "()V"⟩, 24), (⟨"SaltMarketModel", "does", "(IIII)Z"⟩, 24), (⟨"SaltMarketModel", "doesPlace", "(II)Z"⟩, 24)]
theorem lw_r3 : ∀ q ∈ lw_privs_3, lw_okq q := List.forall_mem_cons.mpr ⟨lw_p32, List.forall_mem_cons.mpr ⟨lw_p33, List.forall_mem_cons.mpr ⟨lw_p34, List.forall_mem_cons.mpr ⟨lw_p35, List.forall_mem_cons.mpr ⟨lw_p36, List.forall_mem_cons.mpr ⟨lw_p37, List.forall_mem_cons.mpr ⟨lw_p38, List.forall_mem_cons.mpr ⟨lw_p39, List.forall_mem_cons.mpr ⟨lw_p40, List.forall_mem_cons.mpr ⟨lw_p41, List.forall_mem_cons.mpr ⟨lw_p42, List.forall_mem_cons.mpr ⟨lw_p43, List.forall_mem_cons.mpr ⟨lw_p44, List.forall_mem_cons.mpr ⟨lw_p45, List.forall_mem_cons.mpr ⟨lw_p46, List.forall_mem_cons.mpr ⟨lw_p47, fun _ h => absurd h List.not_mem_nil⟩⟩⟩⟩⟩⟩⟩⟩⟩⟩⟩⟩⟩⟩⟩⟩
theorem lw_p48 : lw_okq (⟨"SaltMarketModel", "doesTurn", "(Z)Z"⟩, 24) := ⟨⟨by decide +kernel, by decide +kernel⟩, List.mem_of_getElem? (i := 795) (by decide +kernel), List.mem_of_getElem? (i := 1155) (by decide +kernel), List.mem_of_getElem? (i := 1156) (by decide +kernel)⟩
theorem lw_p49 : lw_okq (⟨"SaltMarketModel", "doesSet", "(II)Z"⟩, 24) := ⟨⟨by decide +kernel, by decide +kernel⟩, List.mem_of_getElem? (i := 795) (by decide +kernel), List.mem_of_getElem? (i := 1159) (by decide +kernel), List.mem_of_getElem? (i := 1160) (by decide +kernel)⟩
theorem lw_p50 : lw_okq (⟨"SaltMarketModel", "simulates", "(I)V"⟩, 24) := ⟨⟨by decide +kernel, by decide +kernel⟩, List.mem_of_getElem? (i := 795) (by decide +kernel), List.mem_of_getElem? (i := 1167) (by decide +kernel), List.mem_of_getElem? (i := 1168) (by decide +kernel)⟩
def lw_privs_4 : List (MethodName × Nat) := [(⟨"SaltMarketModel", "doesTurn", "(Z)Z"⟩, 24), (⟨"SaltMarketModel", "doesSet", "(II)Z"⟩, 24), (⟨"SaltMarketModel", "simulates", "(I)V"⟩, 24)]
theorem lw_r4 : ∀ q ∈ lw_privs_4, lw_okq q := List.forall_mem_cons.mpr ⟨lw_p48, List.forall_mem_cons.mpr ⟨lw_p49, List.forall_mem_cons.mpr ⟨lw_p50, fun _ h => absurd h List.not_mem_nil⟩⟩⟩
def lw_privs : List (MethodName × Nat) := lw_privs_1 ++ (lw_privs_2 ++ (lw_privs_3 ++ (lw_privs_4)))
def lw_tbl : List Cond := k2_sels lw_privs ++ tables_1
theorem lw_privs_ok : ∀ q ∈ lw_privs, lw_okq q := by
  show ∀ q ∈ lw_privs_1 ++ (lw_privs_2 ++ (lw_privs_3 ++ (lw_privs_4))), lw_okq q
  exact List.forall_mem_append.mpr ⟨lw_r1, List.forall_mem_append.mpr ⟨lw_r2, List.forall_mem_append.mpr ⟨lw_r3, lw_r4⟩⟩⟩
/-! ===== BEGIN words of one list among another's, by their places ===== -/
theorem goodIn_r {big : List Cond} (ws : List Cond) (ps : List Nat) (hp : ws = ps.filterMap (fun i => big[i]?)) (h : ws.all goodWord = true) : GoodIn big ws := by
  intro w hw
  have h1 := List.all_eq_true.mp h w hw
  rw [hp] at hw
  obtain ⟨i, -, hi⟩ := List.mem_filterMap.mp hw
  have hm : w ∈ big := by first | exact List.mem_of_getElem? hi | exact List.getElem?_mem hi
  exact ⟨hm, good_of_word h1⟩
theorem goodIn_app {big a b : List Cond} (ha : GoodIn big a) (hb : GoodIn big b) : GoodIn big (a ++ b) := fun w h => (List.mem_append.mp h).elim (ha w) (hb w)
theorem goodIn_ca {big a b : List Cond} {c : Cond} (ha : GoodIn big (c :: a)) (hb : GoodIn big b) : GoodIn big (c :: (a ++ b)) := fun w h => (List.mem_cons.mp h).elim (fun e => ha w (List.mem_cons.mpr (Or.inl e))) (fun h => (List.mem_append.mp h).elim (fun h => ha w (List.mem_cons.mpr (Or.inr h))) (hb w))
theorem goodIn_sub {big ws : List Cond} (hm : ∀ w ∈ ws, w ∈ big) (h : ws.all goodWord = true) : GoodIn big ws := fun w hw => ⟨hm w hw, good_of_word (List.all_eq_true.mp h w hw)⟩
/-! ===== END ===== -/

/-! ===== BEGIN exceptions that leave a method, and their catching by the caller (launches without stack traces) ===== -/
section VXA
/-! The laws vx_back, vx_callV, vx_callS, vx_callSW, vx_throw0, vx_throwS follow proofs of the library, with one case more: JvmDerived/Free/Laws.lean (Back.of_free), Shelf42/LK1.lean (callV, callS), Shelf/KitTraced.lean (throwNew0V, throwNewS). -/
/-- where a method has thrown q: the class by its name, the cell, what was written, the world -/
def vx_T (XC : String → State → State → Prop) (st : State) (q : Addr) (t : State) (mc ms : Nat) (free : Addr → Prop) : Prop :=
  ∃ (E : String) (ce : Cell) (L : List Loc), XC E st t ∧ t.heap[q]? = some ce ∧ ce.vm = .none ∧ st.vm.findClass E = some ce.cls ∧ st.WarmedH t.vm ∧ st.sameButNew ({ t with vm := st.vm } : State) L mc ms ∧ ∀ z ∈ L, free z.base
def vx_Q (Qc : Array Value → State → Outcome → State → Prop) (XC : String → State → State → Prop) (mc ms : Nat) (free : Addr → Prop) : Array Value → State → Outcome → State → Prop := fun a st o t =>
  (Qc a st o t ∧ ∃ L, FrameEnd st o t L mc ms ∧ ∀ q ∈ L, free q.base) ∨ ∃ q, o = .threw q ∧ vx_T XC st q t mc ms free
/-- a callee that returns or throws -/
def vx_Met (l : Launch) (y : MethodName) (ws : List Cond) (rm : Room) (Pc : Array Value → State → Prop) (Qc : Array Value → State → Outcome → State → Prop) (XC : String → State → State → Prop) (mc ms : Nat) (free : Addr → Prop) : Prop :=
  MetFree l y (headSpec ws rm) Pc (fun _ _ _ _ _ => True) (vx_Q Qc XC mc ms free)
def vx_Post (XC : String → State → State → Prop) (mc ms : Nat) (free : Addr → Prop) : Pt → Array Value → Addr → Pt → Prop := fun A a q B =>
  ∃ (g : JFrame) (mk : MethodId) (t : State) (L : List Loc) (E : String) (ce : Cell), B.U.heap = t.heap ∧ B.U.vm = t.vm ∧ XC E (A.U.calling g mk a) t ∧ t.heap[q]? = some ce ∧ ce.vm = .none ∧ A.U.vm.findClass E = some ce.cls ∧ B.locs = A.locs ++ L ∧ (∀ z ∈ L, free z.base) ∧ B.cells = A.cells + mc ∧ B.slots = A.slots + ms
def vx_Back (l : Launch) (R : Room) (p : Program) (e : Env) (below : List Frame) (s : State) (sargs : Array Value) (y : MethodName) (len W9 : Nat)
    (Pre : Pt → Array Value → Prop) (Post : Pt → Array Value → Option Value → Pt → Prop) (PostX : Pt → Array Value → Addr → Pt → Prop) : Prop :=
  ∀ (m : MethodId) (meth : Method) (c : Code) (A : Pt) (g : JFrame) (ig : Instr) (mk : MethodId) (a : Array Value),
    Stand p l e R s m sargs below meth c A.U A.locs A.cells A.slots → g.method = m → g.locals.size = c.maxLocals → decode c.code g.pc = .ok (ig, len) →
    2 * g.monitorRoom + (g.stack.map fun v => v.category).sum ≤ W9 → A.U.methodNamed? y = some mk → Pre A a →
    (∃ (v : Option Value) (B : Pt), Stand p l e R s m sargs below meth c B.U B.locs B.cells B.slots ∧ Post A a v B ∧
      Steps p.tables e below (doInvoke e (A.U.setTop g) [] mk a).1 (B.U.setTop { g with pc := g.pc + len, stack := v.toList ++ g.stack })) ∨
    (∃ (q : Addr) (B : Pt), Stand p l e R s m sargs below meth c B.U B.locs B.cells B.slots ∧ PostX A a q B ∧
      Steps p.tables e below (doInvoke e (A.U.setTop g) [] mk a).1 ((B.U.setTop g).pushFrame (.throwing q)))
section Payer
variable {l : Launch} {R : Room} {p : Program} {e : Env} {below : List Frame} {s : State} {sargs : Array Value} {y : MethodName} {len W9 : Nat}
theorem vx_back {ws : List Cond} {rm : Room} {Pc : Array Value → State → Prop} {Qc : Array Value → State → Outcome → State → Prop} {XC : String → State → State → Prop} {mc ms : Nat} {free : Addr → Prop} {bytes : ByteArray} {maxL : Nat} {ret : Option FieldType}
    (hM : vx_Met l y ws rm Pc Qc XC mc ms free) (hblind : FrameBlind Pc) (hrc : rm.cells = mc) (hrs : rm.slots = ms)
    (hframes : rm.frames + 1 ≤ R.frames) (hlocals : W9 + (maxL + 11) + rm.locals ≤ R.locals)
    (hws : ∀ w ∈ ws, ∀ a' U, s.WarmedH U.vm → w.before a' U = true) (hcode : Cond.code y bytes maxL ret ∈ ws) (hinit : ∀ a' U, s.WarmedH U.vm → (Cond.initialized y.cls).before a' U = true) :
    vx_Back l R p e below s sargs y len W9 (PreOf R mc ms Pc) (PostOf Qc mc ms free) (vx_Post XC mc ms free) := by
  intro m meth c A g ig mk a X hg hsize hdg hW hn hp
  have h1 : (headSpec ws rm).pre.before a A.U = true := atoms_intro fun w hw => hws w hw _ _ X.warmed
  have h2 : (Cond.code y bytes maxL ret).before a A.U = true := hws _ hcode _ _ X.warmed
  have h3 : (Cond.initialized y.cls).before a A.U = true := hinit _ _ X.warmed
  have h4 : A.cells + (headSpec ws rm).room.cells ≤ R.cells := by rw [show (headSpec ws rm).room.cells = mc from hrc]; exact hp.1
  have h5 : A.slots + (headSpec ws rm).room.slots ≤ R.slots := by rw [show (headSpec ws rm).room.slots = ms from hrs]; exact hp.2.1
  have hPc : Pc a (A.U.calling g mk a) := hblind _ _ _ _ hp.2.2
  obtain ⟨U, Ls, c0, s0⟩ := A
  dsimp only [Pt.U, Pt.locs, Pt.cells, Pt.slots] at h1 h2 h3 h4 h5 X hn hPc ⊢
  obtain ⟨methY, cY, hmY, hcY, -, hlY, -, -, -, -⟩ := Cond.code_spec hn h2
  obtain ⟨kY, hkY, -⟩ := className_of_methodNamed hn
  have hinitY : kY.init = .initialized := Cond.initialized_spec (findClass_of_methodNamed hn) hkY h3
  have h : At U g.method c below := by rw [hg]; exact X.here
  have hlocals9 : W9 + (maxL + 11) + (headSpec ws rm).room.locals ≤ R.locals := hlocals
  have happ : (headSpec ws rm).appliesLoose y e.platform (U.calling g mk a) = true :=
    Spec.appliesLoose_calling (g := g) h hdg hn hkY hinitY
      (X.room_calling (g := g) (R' := (headSpec ws rm).room) hsize hmY hcY hframes (by rw [hlY]; omega) h4 h5) h1
  obtain ⟨mid, hmid⟩ := h.above
  have hfr : (U.setTop g).frames = (.java g :: mid) ++ below := by rw [State.frames_setTop' g h.top, hmid]; rfl
  obtain ⟨o, s₂, hsteps, -, hend, hq⟩ := Steps.callFree hM p X.admits X.cas X.clock (acts := []) hfr happ hPc trivial
  have hq' : vx_Q Qc XC mc ms free a (U.calling g mk a) o s₂ := hq
  rw [State.frames_setTop' g h.top] at hend
  obtain ⟨g₀, hg0⟩ := Option.isSome_iff_exists.mp h.top
  obtain ⟨r, hr⟩ := State.topJava?_eq_some.mp hg0
  have hr' : (({ U with heap := s₂.heap, slotsUsed := s₂.slotsUsed } : State).setVm s₂.vm).frames = .java g₀ :: r := hr
  rcases hq' with ⟨hqc, L, hfe, hL⟩ | ⟨q, rfl, E, ce, L, hx, hce, hcv, hcl, hW₂, hsm, hL⟩
  · obtain ⟨⟨v, rfl⟩, hW₂, e2, q2, q3, q4, q5, q6⟩ := id hfe
    have e3 : s₂ = ({ (U.calling g mk a).setFrames s₂.frames with heap := s₂.heap, slotsUsed := s₂.slotsUsed } : State).setVm s₂.vm := by
      have : s₂ = ({ s₂ with vm := (U.calling g mk a).vm } : State).setVm s₂.vm := rfl
      rw [e2] at this
      exact this
    obtain ⟨c₂, i₂, len₂, hc₂, hd₂, hf₂⟩ := hend
    have hW' : U.WarmedH s₂.vm := hW₂
    have hcc : c₂ = c := by
      have h1 : s₂.code? g.method = U.code? g.method := by
        rw [State.code?_eq, State.code?_eq, hW'.alike.method?]
      exact Option.some.inj (hc₂.symm.trans (h1.trans h.code))
    subst hcc
    have hlen : len₂ = len := by rw [hdg] at hd₂; cases hd₂; rfl
    subst hlen
    have hs₂ : s₂ = (({ U with heap := s₂.heap, slotsUsed := s₂.slotsUsed } : State).setVm s₂.vm).setTop { g with pc := g.pc + len₂, stack := v.toList ++ g.stack } := by
      refine e3.trans ?_
      rw [hf₂, State.calling_eq h.top, State.setFrames_setFrames, State.setTop_of_frames _ hr', hr]
      rfl
    have hsame : U.sameButNew ({ U with heap := s₂.heap, slotsUsed := s₂.slotsUsed } : State) L mc ms := by
      refine ⟨?_, q2, q3, q4, q5, q6⟩
      obtain ⟨t, ht, -⟩ := State.frames_cons hr
      show ({ U with heap := s₂.heap, slotsUsed := s₂.slotsUsed } : State) = { U.setFrames U.frames with heap := s₂.heap, slotsUsed := s₂.slotsUsed }
      rw [State.setFrames_self ht]
    subst hg
    refine Or.inl ⟨v, ⟨(({ U with heap := s₂.heap, slotsUsed := s₂.slotsUsed } : State).setVm s₂.vm), Ls ++ L, c0 + mc, s0 + ms⟩,
      ⟨X.admits, X.cas, X.clock, X.frames, X.room, X.hears, X.method, X.code, (X.here.setHeapUsed s₂.heap s₂.slotsUsed).setVm hW'.alike, X.tail, State.WarmedH.trans X.warmed hW', X.limits, X.bytes, X.same.trans (hsame.setVm s.vm)⟩,
      ⟨g, mk, s₂, L, rfl, rfl, hqc, rfl, hL, rfl, rfl⟩, ?_⟩
    show Steps p.tables e below _ ((({ U with heap := s₂.heap, slotsUsed := s₂.slotsUsed } : State).setVm s₂.vm).setTop { g with pc := g.pc + len₂, stack := v.toList ++ g.stack })
    rw [← hs₂]
    exact hsteps
  · obtain ⟨e2, q2, q3, q4, q5, q6⟩ := id hsm
    have e3 : s₂ = ({ (U.calling g mk a).setFrames s₂.frames with heap := s₂.heap, slotsUsed := s₂.slotsUsed } : State).setVm s₂.vm := by
      have : s₂ = ({ s₂ with vm := (U.calling g mk a).vm } : State).setVm s₂.vm := rfl
      rw [e2] at this
      exact this
    have hf₂ : s₂.frames = .throwing q :: .java g :: U.frames.tail := hend
    have hW' : U.WarmedH s₂.vm := hW₂
    have hs₂ : s₂ = ((({ U with heap := s₂.heap, slotsUsed := s₂.slotsUsed } : State).setVm s₂.vm).setTop g).pushFrame (.throwing q) := by
      refine e3.trans ?_
      rw [hf₂, State.calling_eq h.top, State.setFrames_setFrames, State.pushFrame, State.frames_setTop _ hr', State.setTop_of_frames _ hr', State.setFrames_setFrames, hr]
      rfl
    have hsame : U.sameButNew ({ U with heap := s₂.heap, slotsUsed := s₂.slotsUsed } : State) L mc ms := by
      refine ⟨?_, q2, q3, q4, q5, q6⟩
      obtain ⟨t, ht, -⟩ := State.frames_cons hr
      show ({ U with heap := s₂.heap, slotsUsed := s₂.slotsUsed } : State) = { U.setFrames U.frames with heap := s₂.heap, slotsUsed := s₂.slotsUsed }
      rw [State.setFrames_self ht]
    subst hg
    refine Or.inr ⟨q, ⟨(({ U with heap := s₂.heap, slotsUsed := s₂.slotsUsed } : State).setVm s₂.vm), Ls ++ L, c0 + mc, s0 + ms⟩,
      ⟨X.admits, X.cas, X.clock, X.frames, X.room, X.hears, X.method, X.code, (X.here.setHeapUsed s₂.heap s₂.slotsUsed).setVm hW'.alike, X.tail, State.WarmedH.trans X.warmed hW', X.limits, X.bytes, X.same.trans (hsame.setVm s.vm)⟩,
      ⟨g, mk, s₂, L, E, ce, rfl, rfl, hx, hce, hcv, hcl, rfl, hL, rfl, rfl⟩, ?_⟩
    show Steps p.tables e below _ (((({ U with heap := s₂.heap, slotsUsed := s₂.slotsUsed } : State).setVm s₂.vm).setTop g).pushFrame (.throwing q))
    rw [← hs₂]
    exact hsteps
end Payer
section Calls
variable {p : Program} {l : Launch} {e : Env} {R : Room} {s : State} {m : MethodId} {args : Array Value} {below : List Frame} {meth : Method} {c : Code} {T : State} {locs : List Loc} {cells slots : Nat}
theorem vx_callV (X : Stand p l e R s m args below meth c T locs cells slots) (hexec : p.tables.exec = Jvm.exec) {own C : String} {index : Nat} {y : MethodName} {bytes : ByteArray} {maxL : Nat} {ret : Option FieldType}
    (hown : s.vm.findClass own = some m.cls) (hlink : (Cond.methodLink own index y).before args s = true) (hinst : (Cond.instanceMethod y).before args s = true) (hsel : (Cond.selects C y y).before args s = true)
    (hcode : (Cond.code y bytes maxL ret).before args s = true) (hy : y.cls ≠ "java/lang/invoke/MethodHandle" ∧ y.cls ≠ "java/lang/invoke/VarHandle")
    {W9 : Nat} {Pre : Pt → Array Value → Prop} {Post : Pt → Array Value → Option Value → Pt → Prop} {PostX : Pt → Array Value → Addr → Pt → Prop} (hK : vx_Back l R p e below s args y 3 W9 Pre Post PostX)
    {b : Addr} {cellB : Cell} (hcell : T.heap[b]? = some cellB) (hobj : cellB.vm.isStatics = false) (hcls : s.vm.findClass C = some cellB.cls)
    {g : JFrame} (hg : g.method = m) (hsize : g.locals.size = c.maxLocals) {argsL rest : List Value} (hlen : ∀ sig, parseMethodDescriptor y.desc = some sig → argsL.length = sig.parameters.length)
    (hstack : g.stack = argsL.reverse ++ .ref b :: rest) (hW : 2 * g.monitorRoom + (rest.map fun v => v.category).sum ≤ W9) (hdg : decode c.code g.pc = .ok (.invokevirtual index, 3))
    (hpre : ∀ vm₁, s.WarmedH vm₁ → Pre ⟨T.setVm vm₁, locs, cells, slots⟩ (Value.ref b :: argsL).toArray) :
    (∃ (v : Option Value) (vm₁ : Vm) (B : Pt), s.WarmedH vm₁ ∧ Stand p l e R s m args below meth c B.U B.locs B.cells B.slots ∧ Post ⟨T.setVm vm₁, locs, cells, slots⟩ (Value.ref b :: argsL).toArray v B ∧
      ∀ target, Steps p.tables e below (B.U.setTop { g with pc := g.pc + 3, stack := v.toList ++ rest }) target → Steps p.tables e below (T.setTop g) target) ∨
    (∃ (q : Addr) (vm₁ : Vm) (B : Pt), s.WarmedH vm₁ ∧ Stand p l e R s m args below meth c B.U B.locs B.cells B.slots ∧ PostX ⟨T.setVm vm₁, locs, cells, slots⟩ (Value.ref b :: argsL).toArray q B ∧
      Steps p.tables e below (T.setTop g) ((B.U.setTop { g with stack := rest }).pushFrame (.throwing q))) := by
  obtain ⟨mk, methM, hnamed, hmethM, hstM, habM⟩ := Cond.instanceMethod_spec hinst
  obtain ⟨methM', cM, hmethM', -, -, -, -, -, -, hsigM⟩ := Cond.code_spec hnamed hcode
  cases hmethM.symm.trans hmethM'
  obtain ⟨c2, r2, m2, q1, q2, q3, q4, kP, hkP, hkPi⟩ := Cond.selects_spec hsel
  cases hcls.symm.trans q1
  cases (State.methodFound?_of_named hnamed hy).symm.trans q2
  cases hnamed.symm.trans q3
  have hselP : selectMethod e.platform s.vm cellB.cls mk = .method mk := by rw [Launch.admits_selectMethod X.admits]; exact q4
  obtain ⟨vm₁, X₁, hstep₁⟩ := X.invokevirtual hexec hown hlink hnamed hmethM hstM hkP hkPi hy (a := b) (cell := cellB) hcell
    (fun z h => by rw [h] at hobj; cases hobj) hselP hmethM habM hkP hkPi (g := g) hg (argsL := argsL) (rest := rest) (hlen _ hsigM) hstack hdg
  rcases hK m meth c ⟨T.setVm vm₁, locs, cells, slots⟩ { g with stack := rest } (.invokevirtual index) mk (Value.ref b :: argsL).toArray X₁ hg hsize hdg hW (X₁.named hnamed) (hpre vm₁ X₁.warmed) with ⟨v, B, X', hpost, hsteps⟩ | ⟨q, B, X', hpost, hsteps⟩
  · exact Or.inl ⟨v, vm₁, B, X₁.warmed, X', hpost, fun target h => hstep₁ _ fun acts => by rw [doInvoke_state]; exact hsteps.trans h⟩
  · exact Or.inr ⟨q, vm₁, B, X₁.warmed, X', hpost, hstep₁ _ fun acts => by rw [doInvoke_state]; exact hsteps⟩
theorem vx_callS (X : Stand p l e R s m args below meth c T locs cells slots) (hexec : p.tables.exec = Jvm.exec) {own : String} {index : Nat} {y : MethodName} {bytes : ByteArray} {maxL : Nat} {ret : Option FieldType}
    (hown : s.vm.findClass own = some m.cls) (hlink : (Cond.methodLink own index y).before args s = true) (hstat : (Cond.static y).before args s = true) (hinit : (Cond.initialized y.cls).before args s = true)
    (hcode : (Cond.code y bytes maxL ret).before args s = true) (hy : y.cls ≠ "java/lang/invoke/MethodHandle" ∧ y.cls ≠ "java/lang/invoke/VarHandle")
    {W9 : Nat} {Pre : Pt → Array Value → Prop} {Post : Pt → Array Value → Option Value → Pt → Prop} {PostX : Pt → Array Value → Addr → Pt → Prop} (hK : vx_Back l R p e below s args y 3 W9 Pre Post PostX)
    {g : JFrame} (hg : g.method = m) (hsize : g.locals.size = c.maxLocals) {argsL rest : List Value} (hlen : ∀ sig, parseMethodDescriptor y.desc = some sig → argsL.length = sig.parameters.length)
    (hstack : g.stack = argsL.reverse ++ rest) (hW : 2 * g.monitorRoom + (rest.map fun v => v.category).sum ≤ W9) (hdg : decode c.code g.pc = .ok (.invokestatic index, 3))
    (hpre : ∀ vm₁, s.WarmedH vm₁ → Pre ⟨T.setVm vm₁, locs, cells, slots⟩ argsL.toArray) :
    (∃ (v : Option Value) (vm₁ : Vm) (B : Pt), s.WarmedH vm₁ ∧ Stand p l e R s m args below meth c B.U B.locs B.cells B.slots ∧ Post ⟨T.setVm vm₁, locs, cells, slots⟩ argsL.toArray v B ∧
      ∀ target, Steps p.tables e below (B.U.setTop { g with pc := g.pc + 3, stack := v.toList ++ rest }) target → Steps p.tables e below (T.setTop g) target) ∨
    (∃ (q : Addr) (vm₁ : Vm) (B : Pt), s.WarmedH vm₁ ∧ Stand p l e R s m args below meth c B.U B.locs B.cells B.slots ∧ PostX ⟨T.setVm vm₁, locs, cells, slots⟩ argsL.toArray q B ∧
      Steps p.tables e below (T.setTop g) ((B.U.setTop { g with stack := rest }).pushFrame (.throwing q))) := by
  obtain ⟨mk, hnamed⟩ := Cond.code_named hcode
  obtain ⟨methM, cM, hmethM, -, -, -, -, -, -, hsigM⟩ := Cond.code_spec hnamed hcode
  have hstatic : methM.isStatic = true := Cond.static_spec hnamed hmethM hstat
  obtain ⟨kP, hkP, -⟩ := className_of_methodNamed hnamed
  have hinitP : kP.init = .initialized := Cond.initialized_spec (findClass_of_methodNamed hnamed) hkP hinit
  obtain ⟨vm₁, X₁, hstep₁⟩ := X.invokestatic hexec hown hlink hnamed hmethM hstatic hkP hinitP hy (g := g) hg (argsL := argsL) (rest := rest) (hlen _ hsigM) hstack hdg
  rcases hK m meth c ⟨T.setVm vm₁, locs, cells, slots⟩ { g with stack := rest } (.invokestatic index) mk argsL.toArray X₁ hg hsize hdg hW (X₁.named hnamed) (hpre vm₁ X₁.warmed) with ⟨v, B, X', hpost, hsteps⟩ | ⟨q, B, X', hpost, hsteps⟩
  · exact Or.inl ⟨v, vm₁, B, X₁.warmed, X', hpost, fun target h => hstep₁ _ fun acts => by rw [doInvoke_state]; exact hsteps.trans h⟩
  · exact Or.inr ⟨q, vm₁, B, X₁.warmed, X', hpost, hstep₁ _ fun acts => by rw [doInvoke_state]; exact hsteps⟩
end Calls
theorem vx_cls {s : State} {T : State} {vm₁ : Vm} {E : String} {k : ClassId} (hW : s.WarmedH vm₁) (h : (T.setVm vm₁).vm.findClass E = some k) : s.vm.findClass E = some k := by
  have h1 : vm₁.findClass E = some k := h
  rw [hW.alike.findClass] at h1
  exact h1
/-- the method's frame g, with q thrown over it -/
def vx_W (p : Program) (l : Launch) (e : Env) (R : Room) (s : State) (m : MethodId) (args : Array Value) (below : List Frame) (meth : Method) (c : Code) (H : Heap) (locs : List Loc) (cells slots : Nat) (Q : State → Prop) (g : JFrame) (q : Addr) : Prop :=
  ∀ T : State, T.heap = H → Stand p l e R s m args below meth c T locs cells slots → ∃ t, Steps p.tables e below ((T.setTop g).pushFrame (.throwing q)) t ∧ Q t
def vx_Run (p : Program) (l : Launch) (e : Env) (R : Room) (s : State) (m : MethodId) (args : Array Value) (below : List Frame) (meth : Method) (c : Code) (H : Heap) (locs : List Loc) (cells slots mc ms : Nat) (g : JFrame) (rest : List Value) (Qa : State → Outcome → State → Prop) (XC : String → State → State → Prop) (free : Addr → Prop) : Prop :=
  ∀ T : State, T.heap = H → Stand p l e R s m args below meth c T locs cells slots →
    (∃ (v : Option Value) (st₀ t T' : State) (L : List Loc), st₀.heap = H ∧ Stand p l e R s m args below meth c T' (locs ++ L) (cells + mc) (slots + ms) ∧ (∀ q ∈ L, free q.base) ∧ T'.heap = t.heap ∧ T'.vm = t.vm ∧ Qa st₀ (.returned v) t ∧
      Goes p e below T g T' { g with pc := g.pc + 3, stack := v.toList ++ rest }) ∨
    (∃ (q : Addr) (st₀ t T' : State) (L : List Loc) (E : String) (ce : Cell), st₀.heap = H ∧ Stand p l e R s m args below meth c T' (locs ++ L) (cells + mc) (slots + ms) ∧ (∀ z ∈ L, free z.base) ∧ T'.heap = t.heap ∧ T'.vm = t.vm ∧ XC E st₀ t ∧ t.heap[q]? = some ce ∧ ce.vm = .none ∧ s.vm.findClass E = some ce.cls ∧
      Steps p.tables e below (T.setTop g) ((T'.setTop { g with stack := rest }).pushFrame (.throwing q)))
def vx_X {S : Type} (px : S → Prop) (B : String → S → State → Prop) (A : Nat → Prop) : String → State → State → Prop := fun E st t => ∃ u : S, px u ∧ B E u t ∧ va_F A st t
section Runs
variable {p : Program} {l : Launch} {e : Env} {R : Room} {s : State} {m : MethodId} {args : Array Value} {below : List Frame} {meth : Method} {c : Code} {H : Heap} {locs : List Loc} {cells slots : Nat}
variable {y : MethodName} {bytes cc : ByteArray} {maxL nL mc ms n index : Nat} {ret : Option FieldType} {ws : List Cond} {rm : Room} {Pc : Array Value → State → Prop} {Qc : Array Value → State → Outcome → State → Prop} {XC : String → State → State → Prop} {free : Addr → Prop} {Ts : List Cond} {own C : String} {b : Addr} {As rest : List Value} {g : JFrame}
theorem vx_callBack (cb : CallB R s args own index y bytes maxL ret ws rm mc ms n) (hM : vx_Met l y ws rm Pc Qc XC mc ms free) (hbl : FrameBlind Pc) : vx_Back l R p e below s args y 3 8 (PreOf R mc ms Pc) (PostOf Qc mc ms free) (vx_Post XC mc ms free) := by
  obtain ⟨hrc, hrs, hfr, hlo, hws, hcw, -, hini, -⟩ := cb
  exact vx_back (bytes := bytes) (maxL := maxL) (ret := ret) hM hbl hrc hrs hfr hlo hws hcw (fun a' U hW => word_at hW (Or.inl (by first | rfl | simp [Cond.onTables, Cond.keeps, Cond.steady])) hini)
theorem vx_runV (S : CallFix p m c cc nL s args Ts own) (hM : vx_Met l y ws rm Pc Qc XC mc ms free) (cw : CallW R s args own C index y bytes maxL ret ws rm mc ms n) (hp : PreV s H C b Pc As)
    (hg : g.method = m) (hn : As.length = n) (hsize : g.locals.size = nL) (hstack : g.stack = As.reverse ++ .ref b :: rest) (hW : 2 * g.monitorRoom + (rest.map fun v => v.category).sum ≤ 8) (hdg : decode cc g.pc = .ok (.invokevirtual index, 3)) (hf : cells + mc ≤ R.cells ∧ slots + ms ≤ R.slots) :
    vx_Run p l e R s m args below meth c H locs cells slots mc ms g rest (Qc (Value.ref b :: As).toArray) XC free := by
  have hK : vx_Back l R p e below s args y 3 8 (PreOf R mc ms Pc) (PostOf Qc mc ms free) (vx_Post XC mc ms free) := vx_callBack cw.1 hM hp.1
  obtain ⟨⟨-, -, -, -, -, -, hcode, -, hy, hlen, hl⟩, hin, hse⟩ := cw
  obtain ⟨hx, hb, hml, ho, -⟩ := S
  obtain ⟨-, ⟨cellB, hcB, hoB, hclB⟩, hPc⟩ := hp
  intro T hT X
  rcases vx_callV X hx (C := C) (bytes := bytes) (maxL := maxL) (ret := ret) ho hl hin hse hcode hy hK (by rw [hT]; exact hcB) hoB hclB hg (hsize.trans hml.symm) (argsL := As) (rest := rest) (fun sig h => hn.trans (hlen sig h)) hstack hW (by rw [hb]; exact hdg)
    (fun vm₁ hW₁ => ⟨hf.1, hf.2, hPc (T.setVm vm₁) hT hW₁⟩) with ⟨v, vm₁, ⟨U', l2, c2, s2⟩, hW₁, X', ⟨g', mk, t, L, e1, e2, hq, h1, hL, h2, h3⟩, st⟩ | ⟨q, vm₁, ⟨U', l2, c2, s2⟩, hW₁, X', ⟨g', mk, t, L, E, ce, e1, e2, hq, hce, hcv, hcl, h1, hL, h2, h3⟩, st⟩
  · dsimp only [Pt.U, Pt.locs, Pt.cells, Pt.slots] at X' e1 e2 h1 h2 h3 st
    subst h1; subst h2; subst h3
    exact Or.inl ⟨v, (T.setVm vm₁).calling g' mk (Value.ref b :: As).toArray, t, U', L, hT, X', hL, e1, e2, hq, st⟩
  · dsimp only [Pt.U, Pt.locs, Pt.cells, Pt.slots] at X' e1 e2 h1 h2 h3 st hcl
    subst h1; subst h2; subst h3
    exact Or.inr ⟨q, (T.setVm vm₁).calling g' mk (Value.ref b :: As).toArray, t, U', L, E, ce, hT, X', hL, e1, e2, hq, hce, hcv, vx_cls hW₁ hcl, st⟩
theorem vx_runS (S : CallFix p m c cc nL s args Ts own) (hM : vx_Met l y ws rm Pc Qc XC mc ms free) (cw : CallB R s args own index y bytes maxL ret ws rm mc ms n ∧ (Cond.static y).before args s = true) (hp : PreS s H Pc As)
    (hg : g.method = m) (hn : As.length = n) (hsize : g.locals.size = nL) (hstack : g.stack = As.reverse ++ rest) (hW : 2 * g.monitorRoom + (rest.map fun v => v.category).sum ≤ 8) (hdg : decode cc g.pc = .ok (.invokestatic index, 3)) (hf : cells + mc ≤ R.cells ∧ slots + ms ≤ R.slots) :
    vx_Run p l e R s m args below meth c H locs cells slots mc ms g rest (Qc As.toArray) XC free := by
  have hK : vx_Back l R p e below s args y 3 8 (PreOf R mc ms Pc) (PostOf Qc mc ms free) (vx_Post XC mc ms free) := vx_callBack cw.1 hM hp.1
  obtain ⟨⟨-, -, -, -, -, -, hcode, hini, hy, hlen, hl⟩, hstt⟩ := cw
  obtain ⟨hx, hb, hml, ho, -⟩ := S
  intro T hT X
  rcases vx_callS X hx (bytes := bytes) (maxL := maxL) (ret := ret) ho hl hstt hini hcode hy hK hg (hsize.trans hml.symm) (argsL := As) (rest := rest) (fun sig h => hn.trans (hlen sig h)) hstack hW (by rw [hb]; exact hdg)
    (fun vm₁ hW₁ => ⟨hf.1, hf.2, hp.2 (T.setVm vm₁) hT hW₁⟩) with ⟨v, vm₁, ⟨U', l2, c2, s2⟩, hW₁, X', ⟨g', mk, t, L, e1, e2, hq, h1, hL, h2, h3⟩, st⟩ | ⟨q, vm₁, ⟨U', l2, c2, s2⟩, hW₁, X', ⟨g', mk, t, L, E, ce, e1, e2, hq, hce, hcv, hcl, h1, hL, h2, h3⟩, st⟩
  · dsimp only [Pt.U, Pt.locs, Pt.cells, Pt.slots] at X' e1 e2 h1 h2 h3 st
    subst h1; subst h2; subst h3
    exact Or.inl ⟨v, (T.setVm vm₁).calling g' mk As.toArray, t, U', L, hT, X', hL, e1, e2, hq, st⟩
  · dsimp only [Pt.U, Pt.locs, Pt.cells, Pt.slots] at X' e1 e2 h1 h2 h3 st hcl
    subst h1; subst h2; subst h3
    exact Or.inr ⟨q, (T.setVm vm₁).calling g' mk As.toArray, t, U', L, E, ce, hT, X', hL, e1, e2, hq, hce, hcv, vx_cls hW₁ hcl, st⟩
end Runs
section Rows
variable {p : Program} {l : Launch} {e : Env} {R : Room} {s : State} {m : MethodId} {args : Array Value} {below : List Frame} {meth : Method} {c : Code} {H : Heap} {locs : List Loc} {cells slots : Nat} {Q : State → Prop}
variable {mc ms : Nat} {free : Addr → Prop} {A0 A1 : Nat → Prop} {H0 : Heap} {a : Array Value} {pc : Nat} {ls : Array Slot} {st0 rest : List Value}
theorem vx_keep {st₀ t T' : State} {L : List Loc} (h0 : st₀.heap = H) (e1 : T'.heap = t.heap) (hS : va_S A0 H0 H locs) (hA : ∀ q, q < H.size → A1 q → A0 q) (hf : ∀ q, free q → A0 q) (hL : ∀ q ∈ L, free q.base) (hF : va_F A1 st₀ t) :
    H.size ≤ T'.heap.size ∧ (∀ q : Nat, q < H.size → ¬ A1 q → T'.heap[q]? = H[q]?) ∧ va_S A0 H0 T'.heap (locs ++ L) := by
  obtain ⟨hz, hk⟩ := hF
  rw [h0] at hz hk
  exact ⟨by rw [e1]; exact hz, fun q h1 h2 => by rw [e1]; exact hk q h1 h2,
    ⟨Nat.le_trans hS.1 (by rw [e1]; exact hz), fun q h1 h2 => by rw [e1, hk q (Nat.lt_of_lt_of_le h1 hS.1) (fun z => h2 (hA q (Nat.lt_of_lt_of_le h1 hS.1) z))]; exact hS.2.1 q h1 h2, fun q hq => by
      rcases List.mem_append.mp hq with h | h
      · exact hS.2.2 q h
      · exact hf _ (hL q h)⟩⟩
theorem vx_calli {S SX : Type} {post : Int32 → S → Prop} {px : SX → Prop} {B : S → State → Prop} {BX : String → SX → State → Prop} {AX : Nat → Prop} (hr : vx_Run p l e R s m args below meth c H locs cells slots mc ms (F0 m pc ls st0) rest (va_Qi post B A1 a) (vx_X px BX AX) free) (hS : va_S A0 H0 H locs) (hA : ∀ q, q < H.size → A1 q → A0 q) (hf : ∀ q, free q → A0 q) (hAX : ∀ q, q < H.size → AX q → A0 q)
    (kx : ∀ (E : String) (ce : Cell) (q9 : Addr) (u : SX) (t : State) (H1 : Heap) (locs1 : List Loc), t.heap = H1 → s.vm.Alike t.vm → px u → BX E u t → H.size ≤ H1.size → (∀ q : Nat, q < H.size → ¬ AX q → H1[q]? = H[q]?) → va_S A0 H0 H1 locs1 → H1[q9]? = some ce → ce.vm = .none → s.vm.findClass E = some ce.cls → vx_W p l e R s m args below meth c H1 locs1 (cells + mc) (slots + ms) Q (F0 m pc ls rest) q9)
    (kk : ∀ (r : Int32) (u : S) (t : State) (H1 : Heap) (locs1 : List Loc), t.heap = H1 → s.vm.Alike t.vm → post r u → B u t → H.size ≤ H1.size → (∀ q : Nat, q < H.size → ¬ A1 q → H1[q]? = H[q]?) → va_S A0 H0 H1 locs1 → W p l e R s m args below meth c H1 locs1 (cells + mc) (slots + ms) Q (F0 m (pc + 3) ls (.int r :: rest))) : W p l e R s m args below meth c H locs cells slots Q (F0 m pc ls st0) := by
  intro T hT X
  rcases hr T hT X with ⟨v, st₀, t, T', L, h0, X', hL, e1, e2, ⟨⟨r, u, hv, hp, hb⟩, hF⟩, st⟩ | ⟨q, st₀, t, T', L, E, ce, h0, X', hL, e1, e2, ⟨u, hp, hb, hF⟩, hce, hcv, hcl, st⟩
  · cases hv
    obtain ⟨k1, k2, k3⟩ := vx_keep h0 e1 hS hA hf hL hF
    obtain ⟨t2, a1, b1⟩ := kk r u t T'.heap (locs ++ L) e1.symm (by rw [← e2]; exact X'.warmed.alike) hp hb k1 k2 k3 T' rfl X'
    exact ⟨t2, st t2 a1, b1⟩
  · obtain ⟨k1, k2, k3⟩ := vx_keep h0 e1 hS hAX hf hL hF
    obtain ⟨t2, a1, b1⟩ := kx E ce q u t T'.heap (locs ++ L) e1.symm (by rw [← e2]; exact X'.warmed.alike) hp hb k1 k2 k3 (by rw [e1]; exact hce) hcv hcl T' rfl X'
    exact ⟨t2, st.trans a1, b1⟩
theorem vx_calll {S SX : Type} {post : Int64 → S → Prop} {px : SX → Prop} {B : S → State → Prop} {BX : String → SX → State → Prop} {AX : Nat → Prop} (hr : vx_Run p l e R s m args below meth c H locs cells slots mc ms (F0 m pc ls st0) rest (va_Ql post B A1 a) (vx_X px BX AX) free) (hS : va_S A0 H0 H locs) (hA : ∀ q, q < H.size → A1 q → A0 q) (hf : ∀ q, free q → A0 q) (hAX : ∀ q, q < H.size → AX q → A0 q)
    (kx : ∀ (E : String) (ce : Cell) (q9 : Addr) (u : SX) (t : State) (H1 : Heap) (locs1 : List Loc), t.heap = H1 → s.vm.Alike t.vm → px u → BX E u t → H.size ≤ H1.size → (∀ q : Nat, q < H.size → ¬ AX q → H1[q]? = H[q]?) → va_S A0 H0 H1 locs1 → H1[q9]? = some ce → ce.vm = .none → s.vm.findClass E = some ce.cls → vx_W p l e R s m args below meth c H1 locs1 (cells + mc) (slots + ms) Q (F0 m pc ls rest) q9)
    (kk : ∀ (r : Int64) (u : S) (t : State) (H1 : Heap) (locs1 : List Loc), t.heap = H1 → s.vm.Alike t.vm → post r u → B u t → H.size ≤ H1.size → (∀ q : Nat, q < H.size → ¬ A1 q → H1[q]? = H[q]?) → va_S A0 H0 H1 locs1 → W p l e R s m args below meth c H1 locs1 (cells + mc) (slots + ms) Q (F0 m (pc + 3) ls (.long r :: rest))) : W p l e R s m args below meth c H locs cells slots Q (F0 m pc ls st0) := by
  intro T hT X
  rcases hr T hT X with ⟨v, st₀, t, T', L, h0, X', hL, e1, e2, ⟨⟨r, u, hv, hp, hb⟩, hF⟩, st⟩ | ⟨q, st₀, t, T', L, E, ce, h0, X', hL, e1, e2, ⟨u, hp, hb, hF⟩, hce, hcv, hcl, st⟩
  · cases hv
    obtain ⟨k1, k2, k3⟩ := vx_keep h0 e1 hS hA hf hL hF
    obtain ⟨t2, a1, b1⟩ := kk r u t T'.heap (locs ++ L) e1.symm (by rw [← e2]; exact X'.warmed.alike) hp hb k1 k2 k3 T' rfl X'
    exact ⟨t2, st t2 a1, b1⟩
  · obtain ⟨k1, k2, k3⟩ := vx_keep h0 e1 hS hAX hf hL hF
    obtain ⟨t2, a1, b1⟩ := kx E ce q u t T'.heap (locs ++ L) e1.symm (by rw [← e2]; exact X'.warmed.alike) hp hb k1 k2 k3 (by rw [e1]; exact hce) hcv hcl T' rfl X'
    exact ⟨t2, st.trans a1, b1⟩
theorem vx_callf {S SX : Type} {post : UInt32 → S → Prop} {px : SX → Prop} {B : S → State → Prop} {BX : String → SX → State → Prop} {AX : Nat → Prop} (hr : vx_Run p l e R s m args below meth c H locs cells slots mc ms (F0 m pc ls st0) rest (va_Qf post B A1 a) (vx_X px BX AX) free) (hS : va_S A0 H0 H locs) (hA : ∀ q, q < H.size → A1 q → A0 q) (hf : ∀ q, free q → A0 q) (hAX : ∀ q, q < H.size → AX q → A0 q)
    (kx : ∀ (E : String) (ce : Cell) (q9 : Addr) (u : SX) (t : State) (H1 : Heap) (locs1 : List Loc), t.heap = H1 → s.vm.Alike t.vm → px u → BX E u t → H.size ≤ H1.size → (∀ q : Nat, q < H.size → ¬ AX q → H1[q]? = H[q]?) → va_S A0 H0 H1 locs1 → H1[q9]? = some ce → ce.vm = .none → s.vm.findClass E = some ce.cls → vx_W p l e R s m args below meth c H1 locs1 (cells + mc) (slots + ms) Q (F0 m pc ls rest) q9)
    (kk : ∀ (r : UInt32) (u : S) (t : State) (H1 : Heap) (locs1 : List Loc), t.heap = H1 → s.vm.Alike t.vm → post r u → B u t → H.size ≤ H1.size → (∀ q : Nat, q < H.size → ¬ A1 q → H1[q]? = H[q]?) → va_S A0 H0 H1 locs1 → W p l e R s m args below meth c H1 locs1 (cells + mc) (slots + ms) Q (F0 m (pc + 3) ls (.float r :: rest))) : W p l e R s m args below meth c H locs cells slots Q (F0 m pc ls st0) := by
  intro T hT X
  rcases hr T hT X with ⟨v, st₀, t, T', L, h0, X', hL, e1, e2, ⟨⟨r, u, hv, hp, hb⟩, hF⟩, st⟩ | ⟨q, st₀, t, T', L, E, ce, h0, X', hL, e1, e2, ⟨u, hp, hb, hF⟩, hce, hcv, hcl, st⟩
  · cases hv
    obtain ⟨k1, k2, k3⟩ := vx_keep h0 e1 hS hA hf hL hF
    obtain ⟨t2, a1, b1⟩ := kk r u t T'.heap (locs ++ L) e1.symm (by rw [← e2]; exact X'.warmed.alike) hp hb k1 k2 k3 T' rfl X'
    exact ⟨t2, st t2 a1, b1⟩
  · obtain ⟨k1, k2, k3⟩ := vx_keep h0 e1 hS hAX hf hL hF
    obtain ⟨t2, a1, b1⟩ := kx E ce q u t T'.heap (locs ++ L) e1.symm (by rw [← e2]; exact X'.warmed.alike) hp hb k1 k2 k3 (by rw [e1]; exact hce) hcv hcl T' rfl X'
    exact ⟨t2, st.trans a1, b1⟩
theorem vx_calld {S SX : Type} {post : UInt64 → S → Prop} {px : SX → Prop} {B : S → State → Prop} {BX : String → SX → State → Prop} {AX : Nat → Prop} (hr : vx_Run p l e R s m args below meth c H locs cells slots mc ms (F0 m pc ls st0) rest (va_Qd post B A1 a) (vx_X px BX AX) free) (hS : va_S A0 H0 H locs) (hA : ∀ q, q < H.size → A1 q → A0 q) (hf : ∀ q, free q → A0 q) (hAX : ∀ q, q < H.size → AX q → A0 q)
    (kx : ∀ (E : String) (ce : Cell) (q9 : Addr) (u : SX) (t : State) (H1 : Heap) (locs1 : List Loc), t.heap = H1 → s.vm.Alike t.vm → px u → BX E u t → H.size ≤ H1.size → (∀ q : Nat, q < H.size → ¬ AX q → H1[q]? = H[q]?) → va_S A0 H0 H1 locs1 → H1[q9]? = some ce → ce.vm = .none → s.vm.findClass E = some ce.cls → vx_W p l e R s m args below meth c H1 locs1 (cells + mc) (slots + ms) Q (F0 m pc ls rest) q9)
    (kk : ∀ (r : UInt64) (u : S) (t : State) (H1 : Heap) (locs1 : List Loc), t.heap = H1 → s.vm.Alike t.vm → post r u → B u t → H.size ≤ H1.size → (∀ q : Nat, q < H.size → ¬ A1 q → H1[q]? = H[q]?) → va_S A0 H0 H1 locs1 → W p l e R s m args below meth c H1 locs1 (cells + mc) (slots + ms) Q (F0 m (pc + 3) ls (.double r :: rest))) : W p l e R s m args below meth c H locs cells slots Q (F0 m pc ls st0) := by
  intro T hT X
  rcases hr T hT X with ⟨v, st₀, t, T', L, h0, X', hL, e1, e2, ⟨⟨r, u, hv, hp, hb⟩, hF⟩, st⟩ | ⟨q, st₀, t, T', L, E, ce, h0, X', hL, e1, e2, ⟨u, hp, hb, hF⟩, hce, hcv, hcl, st⟩
  · cases hv
    obtain ⟨k1, k2, k3⟩ := vx_keep h0 e1 hS hA hf hL hF
    obtain ⟨t2, a1, b1⟩ := kk r u t T'.heap (locs ++ L) e1.symm (by rw [← e2]; exact X'.warmed.alike) hp hb k1 k2 k3 T' rfl X'
    exact ⟨t2, st t2 a1, b1⟩
  · obtain ⟨k1, k2, k3⟩ := vx_keep h0 e1 hS hAX hf hL hF
    obtain ⟨t2, a1, b1⟩ := kx E ce q u t T'.heap (locs ++ L) e1.symm (by rw [← e2]; exact X'.warmed.alike) hp hb k1 k2 k3 (by rw [e1]; exact hce) hcv hcl T' rfl X'
    exact ⟨t2, st.trans a1, b1⟩
theorem vx_callv {S SX : Type} {post : S → Prop} {px : SX → Prop} {B : S → State → Prop} {BX : String → SX → State → Prop} {AX : Nat → Prop} (hr : vx_Run p l e R s m args below meth c H locs cells slots mc ms (F0 m pc ls st0) rest (va_Qv post B A1 a) (vx_X px BX AX) free) (hS : va_S A0 H0 H locs) (hA : ∀ q, q < H.size → A1 q → A0 q) (hf : ∀ q, free q → A0 q) (hAX : ∀ q, q < H.size → AX q → A0 q)
    (kx : ∀ (E : String) (ce : Cell) (q9 : Addr) (u : SX) (t : State) (H1 : Heap) (locs1 : List Loc), t.heap = H1 → s.vm.Alike t.vm → px u → BX E u t → H.size ≤ H1.size → (∀ q : Nat, q < H.size → ¬ AX q → H1[q]? = H[q]?) → va_S A0 H0 H1 locs1 → H1[q9]? = some ce → ce.vm = .none → s.vm.findClass E = some ce.cls → vx_W p l e R s m args below meth c H1 locs1 (cells + mc) (slots + ms) Q (F0 m pc ls rest) q9)
    (kk : ∀ (u : S) (t : State) (H1 : Heap) (locs1 : List Loc), t.heap = H1 → s.vm.Alike t.vm → post u → B u t → H.size ≤ H1.size → (∀ q : Nat, q < H.size → ¬ A1 q → H1[q]? = H[q]?) → va_S A0 H0 H1 locs1 → W p l e R s m args below meth c H1 locs1 (cells + mc) (slots + ms) Q (F0 m (pc + 3) ls (rest))) : W p l e R s m args below meth c H locs cells slots Q (F0 m pc ls st0) := by
  intro T hT X
  rcases hr T hT X with ⟨v, st₀, t, T', L, h0, X', hL, e1, e2, ⟨⟨u, hv, hp, hb⟩, hF⟩, st⟩ | ⟨q, st₀, t, T', L, E, ce, h0, X', hL, e1, e2, ⟨u, hp, hb, hF⟩, hce, hcv, hcl, st⟩
  · cases hv
    obtain ⟨k1, k2, k3⟩ := vx_keep h0 e1 hS hA hf hL hF
    obtain ⟨t2, a1, b1⟩ := kk u t T'.heap (locs ++ L) e1.symm (by rw [← e2]; exact X'.warmed.alike) hp hb k1 k2 k3 T' rfl X'
    exact ⟨t2, st t2 a1, b1⟩
  · obtain ⟨k1, k2, k3⟩ := vx_keep h0 e1 hS hAX hf hL hF
    obtain ⟨t2, a1, b1⟩ := kx E ce q u t T'.heap (locs ++ L) e1.symm (by rw [← e2]; exact X'.warmed.alike) hp hb k1 k2 k3 (by rw [e1]; exact hce) hcv hcl T' rfl X'
    exact ⟨t2, st.trans a1, b1⟩
/-- caught by the row x of this method's table; the rows ahead don't take it -/
theorem vx_catch {own name : String} {E : String} {ce : Cell} {q : Addr} (hown : s.vm.findClass own = some m.cls) (pre : List ExceptionTableEntry) (x : ExceptionTableEntry) (suf : List ExceptionTableEntry) (hsplit : c.exceptionTable.toList = pre ++ x :: suf)
    (hpass : ∀ z ∈ pre, covers z pc = false ∨ (z.catchType ≠ 0 ∧ ∃ nm : String, (Cond.classLink own z.catchType nm).before args s = true ∧ va_Nc E nm s)) (hx : covers x pc = true) (h0 : x.catchType ≠ 0)
    (hlink : (Cond.classLink own x.catchType name).before args s = true) (hcast : (Cond.castable E name).before args s = true) (hcell : H[q]? = some ce) (hv : ce.vm = .none) (hcl : s.vm.findClass E = some ce.cls)
    (kk : W p l e R s m args below meth c H locs cells slots Q (F0 m x.handlerPc ls [.ref q])) : vx_W p l e R s m args below meth c H locs cells slots Q (F0 m pc ls rest) q := by
  intro T hT X
  have hpl : e.platform.magicAccessors = ({} : Platform).magicAccessors := by rw [X.admits.platform]
  obtain ⟨c3, c4, hc3, hc4, hasg⟩ := Cond.castable_spec hcast
  cases Option.some.inj (hc3.symm.trans hcl)
  obtain ⟨c5, hc5, hcl5⟩ := Cond.classLink_spec hown hlink e.platform hpl
  cases Option.some.inj (hc4.symm.trans hc5)
  obtain ⟨vm', X', st⟩ := X.thenCaughtThrough q (g := F0 m pc ls rest) rfl (Steps.refl _) (by rw [hT]; exact hcell) (by rw [hv]; rfl) (by obtain ⟨k9, h9, -⟩ := Vm.findClass_spec hcl; exact ⟨k9, h9⟩) pre x suf hsplit
    (fun z hz => by
      rcases hpass z hz with h | ⟨hz0, nm, hl1, hn1⟩
      · exact Or.inl h
      · obtain ⟨c6, hc6, hcl6⟩ := Cond.classLink_spec hown hl1 e.platform hpl
        obtain ⟨a8, b8, h1, h2, h3⟩ := hn1
        cases Option.some.inj (h1.symm.trans hcl)
        cases Option.some.inj (h2.symm.trans hc6)
        exact Or.inr ⟨hz0, _, hcl6, h3⟩) hx (Or.inr ⟨h0, c4, hcl5, hasg⟩)
  obtain ⟨t, a1, b1⟩ := kk (T.setVm vm') hT X'
  exact ⟨t, st.trans a1, b1⟩
end Rows
section Ends
variable {p : Program} {l : Launch} {e : Env} {R : Room} {s : State} {m : MethodId} {args : Array Value} {below : List Frame} {meth : Method} {c : Code} {H : Heap} {locs : List Loc} {cells slots : Nat} {Q : State → Prop}
variable {mc ms : Nat} {free : Addr → Prop} {A0 A1 : Nat → Prop} {H0 : Heap} {a : Array Value} {ls : Array Slot} {st0 rest : List Value}
variable {Qc : Array Value → State → Outcome → State → Prop} {XC : String → State → State → Prop}
/-- what a body that may throw owes at its end -/
def vx_MQ (below : List Frame) (Qc : Array Value → State → Outcome → State → Prop) (XC : String → State → State → Prop) (a : Array Value) (s : State) (mc ms : Nat) (free : Addr → Prop) : State → Prop := fun t =>
  ∃ o, t.status = .running ∧ Ended t below o ∧ vx_Q Qc XC mc ms free a s o t
theorem vx_ret {g : JFrame} {mc ms : Nat} (k : W p l e R s m args below meth c H locs cells slots (MQ below Qc args s mc ms free) g) : W p l e R s m args below meth c H locs cells slots (vx_MQ below Qc XC args s mc ms free) g := by
  intro T hT X
  obtain ⟨t, a1, o, b1, b2, b3, b4⟩ := k T hT X
  exact ⟨t, a1, o, b1, b2, Or.inl ⟨b3, b4⟩⟩
/-- not caught here: it goes on to the caller -/
theorem vx_widen {g : JFrame} {q : Addr} {k n : Nat} (h1 : cells ≤ k) (h2 : slots ≤ n) (kk : vx_W p l e R s m args below meth c H locs k n Q g q) : vx_W p l e R s m args below meth c H locs cells slots Q g q := fun T hT X => kk T hT (stand_widen X h1 h2)
theorem vx_out {pc : Nat} {E : String} {ce : Cell} {q : Addr} {mc ms : Nat} (hout : ∀ x ∈ c.exceptionTable.toList, covers x pc = false) (hlocks : meth.locks = false) (hcell : H[q]? = some ce) (hv : ce.vm = .none) (hcl : s.vm.findClass E = some ce.cls)
    (hx : ∀ t : State, t.heap = H → s.vm.Alike t.vm → XC E s t) (hf : ∀ z ∈ locs, free z.base) (hc : cells ≤ mc) (hs : slots ≤ ms) :
    vx_W p l e R s m args below meth c H locs cells slots (vx_MQ below Qc XC args s mc ms free) (F0 m pc ls rest) q := by
  intro T hT X
  obtain ⟨st1, hrun, hend, hW, hsm⟩ := X.leaveThrown q (g := F0 m pc ls rest) rfl rfl rfl hout hlocks
  have hcell9 : (T.setFrames (.throwing q :: below)).heap[q]? = some ce := by
    show T.heap[q]? = some ce
    rw [hT]; exact hcell
  exact ⟨_, st1, .threw q, hrun, hend, Or.inr ⟨q, rfl, E, ce, locs, hx _ hT hW.alike, hcell9, hv, hcl, hW, hsm.mono hc hs, hf⟩⟩
theorem vx_frame {U : State} {k n : Nat} (h : s.sameButNew ({ U with vm := s.vm } : State) locs k n) : s.heap.size ≤ U.heap.size ∧ ∀ q : Nat, q < s.heap.size → (∀ z ∈ locs, z.base ≠ q) → U.heap[q]? = s.heap[q]? := by
  obtain ⟨-, h2, -, -, -, h6⟩ := h
  refine ⟨h2, fun q hq hz => ?_⟩
  obtain ⟨c9, e1, e2, e3, e4⟩ := h6 q _ (Array.getElem?_eq_getElem hq)
  have hs : c9.slots = (s.heap[q]).slots := Array.ext_getElem? fun i => e4 i fun hm => hz _ hm rfl
  have h9 : c9 = s.heap[q] := by
    rw [hs] at e2
    exact e2
  have e5 : U.heap[q]? = some c9 := e1
  rw [e5, h9, Array.getElem?_eq_getElem hq]
/-- the words of a throw but the four that speak of the heap -/
def vx_no (w : Cond) : Bool := decide (w ≠ .isRef (.static Bundle.tN "UNASSIGNED_STACK" Bundle.steD)) && decide (w ≠ .isRef (.static Bundle.tN "SUPPRESSED_SENTINEL" Bundle.listD)) && decide (w ≠ .laysStatic Bundle.tN "UNASSIGNED_STACK" Bundle.steD) && decide (w ≠ .laysStatic Bundle.tN "SUPPRESSED_SENTINEL" Bundle.listD)
def vx_at0 (own : String) (ic : Nat) (X : String) (names : List String) : List Cond := (Bundle.ownAtoms0 own ic X names).filter vx_no
def vx_atS (own : String) (ic : Nat) (X : String) (names : List String) : List Cond := (Bundle.ownAtoms own ic X names).filter vx_no
/-- a word that the tables alone decide, or a good one -/
def vx_ot (w : Cond) : Bool := w.onTables || goodWord w
theorem vx_ot_at {args a' : Array Value} {s U : State} {w : Cond} (hW : s.WarmedH U.vm) (hvm : s.vm = U.vm) (hg : vx_ot w = true) (h : w.before args s = true) : w.before a' U = true := by
  simp only [vx_ot, Bool.or_eq_true] at hg
  rcases hg with hg | hg
  · exact va_tabs hg hvm h
  · exact word_at hW (good_of_word hg) h
/-- a list's words: the good ones out of the method's own list, the others by premises of their own -/
theorem vx_hat {args : Array Value} {s : State} {L B : List Cond} (h1 : ∀ w ∈ L.filter goodWord, w.before args s = true) (h2 : ∀ w ∈ L.filter (fun w => !goodWord w), w ∈ B) (h3 : ∀ w ∈ B, w.before args s = true) : ∀ w ∈ L, w.before args s = true := by
  intro w hw
  by_cases g : goodWord w = true
  · exact h1 w (List.mem_filter.mpr ⟨hw, g⟩)
  · refine h3 w (h2 w (List.mem_filter.mpr ⟨hw, ?_⟩))
    show (!goodWord w) = true
    cases hgw : goodWord w
    · rfl
    · exact absurd hgw g
theorem vx_c {args : Array Value} {s : State} {w : Cond} {B : List Cond} (h : w.before args s = true) (t : ∀ w ∈ B, w.before args s = true) : ∀ w' ∈ w :: B, w'.before args s = true := fun w' h' => (List.mem_cons.mp h').elim (fun e => by rw [e]; exact h) (t w')
theorem vx_n {args : Array Value} {s : State} : ∀ w ∈ ([] : List Cond), w.before args s = true := fun _ h => nomatch h
theorem vx_own {args : Array Value} {s : State} {L : List Cond} (h1 : ∀ w ∈ L.filter vx_no, w.before args s = true)
    (hU : (Cond.isRef (.static Bundle.tN "UNASSIGNED_STACK" Bundle.steD)).before args s = true) (hN : (Cond.isRef (.static Bundle.tN "SUPPRESSED_SENTINEL" Bundle.listD)).before args s = true)
    (lU : (Cond.laysStatic Bundle.tN "UNASSIGNED_STACK" Bundle.steD).before args s = true) (lN : (Cond.laysStatic Bundle.tN "SUPPRESSED_SENTINEL" Bundle.listD).before args s = true) : ∀ w ∈ L, w.before args s = true := by
  intro w hw
  by_cases e1 : w = .isRef (.static Bundle.tN "UNASSIGNED_STACK" Bundle.steD)
  · rw [e1]; exact hU
  · by_cases e2 : w = .isRef (.static Bundle.tN "SUPPRESSED_SENTINEL" Bundle.listD)
    · rw [e2]; exact hN
    · by_cases e3 : w = .laysStatic Bundle.tN "UNASSIGNED_STACK" Bundle.steD
      · rw [e3]; exact lU
      · by_cases e4 : w = .laysStatic Bundle.tN "SUPPRESSED_SENTINEL" Bundle.listD
        · rw [e4]; exact lN
        · exact h1 w (List.mem_filter.mpr ⟨hw, by unfold vx_no; rw [decide_eq_true e1, decide_eq_true e2, decide_eq_true e3, decide_eq_true e4]; rfl⟩)
/-- where a static field lies, its class's statics cell in H -/
def vx_L (C n d : String) (A : Nat → Prop) (U : State) (H : Heap) : Prop := ∃ (c : ClassId) (k : Class) (i : Nat) (f : Field) (a : Nat) (cell : Cell), U.vm.findClass C = some c ∧ U.fieldFound? C n d = some (c, k, i, f) ∧ f.isStatic = true ∧ k.statics = some a ∧ H[a]? = some cell ∧ cell.vm.isStatics = true ∧ cell.cls = c ∧ f.slot < cell.slots.size ∧ k.staticTypes[f.slot]? = some f.type ∧ ¬ A a
theorem vx_L.moved {C n d : String} {A : Nat → Prop} {u U : State} {H : Heap} (hvm : u.vm.Alike U.vm) (h : vx_L C n d A u H) : vx_L C n d A U H := by
  obtain ⟨c, k, i, f, a, cell, h1, h2, h3, h4, h5, h6, h7, h8, h9, h10⟩ := h
  obtain ⟨k', hi', he⟩ := State.fieldFound?_setVm hvm h2
  exact ⟨c, k', i, f, a, cell, by rw [hvm.findClass]; exact h1, hi', h3, by rw [he]; exact h4, h5, h6, h7, h8, by rw [he]; exact h9, h10⟩
theorem vx_L.kept {C n d : String} {A : Nat → Prop} {U : State} {H H1 : Heap} (h : vx_L C n d A U H) (hq : ∀ a : Nat, a < H.size → ¬ A a → H1[a]? = H[a]?) : vx_L C n d A U H1 := by
  obtain ⟨c, k, i, f, a, cell, h1, h2, h3, h4, h5, h6, h7, h8, h9, h10⟩ := h
  exact ⟨c, k, i, f, a, cell, h1, h2, h3, h4, by rw [hq a (Array.getElem?_eq_some_iff.mp h5).1 h10]; exact h5, h6, h7, h8, h9, h10⟩
theorem vx_L.narrow {C n d : String} {A B : Nat → Prop} {U : State} {H : Heap} (h : vx_L C n d A U H) (hAB : ∀ q, B q → A q) : vx_L C n d B U H := by
  obtain ⟨c, k, i, f, a, cell, h1, h2, h3, h4, h5, h6, h7, h8, h9, h10⟩ := h
  exact ⟨c, k, i, f, a, cell, h1, h2, h3, h4, h5, h6, h7, h8, h9, fun z => h10 (hAB _ z)⟩
theorem vx_L.word {C n d : String} {A : Nat → Prop} {s : State} {args : Array Value} (h : vx_L C n d A s s.heap) : (Cond.laysStatic C n d).before args s = true := by
  obtain ⟨c, k, i, f, a, cell, h1, h2, h3, h4, h5, h6, h7, h8, h9, -⟩ := h
  show (Cond.laysStatic C n d).holds args s none s [] = true
  exact Cond.laysStatic_of h1 h2 h3 h4 h5 h6 h7 h8 h9
/-- .. and what it holds: null or some reference -/
def vx_Zq (C n d : String) (A : Nat → Prop) (U : State) (H : Heap) : Prop := va_Zq C n d A U H ∧ vx_L C n d A U H
theorem vx_Zq.moved {C n d : String} {A : Nat → Prop} {u U : State} {H : Heap} (hvm : u.vm.Alike U.vm) (h : vx_Zq C n d A u H) : vx_Zq C n d A U H := ⟨va_Zq.moved hvm h.1, vx_L.moved hvm h.2⟩
theorem vx_Zq.kept {C n d : String} {A : Nat → Prop} {U : State} {H H1 : Heap} (h : vx_Zq C n d A U H) (hq : ∀ a : Nat, a < H.size → ¬ A a → H1[a]? = H[a]?) : vx_Zq C n d A U H1 := ⟨va_Zq.kept h.1 hq, vx_L.kept h.2 hq⟩
theorem vx_Zq.narrow {C n d : String} {A B : Nat → Prop} {U : State} {H : Heap} (h : vx_Zq C n d A U H) (hAB : ∀ q, B q → A q) : vx_Zq C n d B U H := ⟨va_Zq.narrow h.1 hAB, vx_L.narrow h.2 hAB⟩
theorem vx_Zqof {args : Array Value} {s : State} {C n d : String} {A : Nat → Prop} (hl : (Cond.laysStatic C n d).before args s = true) (hini : (Cond.initialized C).before args s = true) (h : (Cond.isRef (.static C n d)).before args s = true) (hA : ∀ a : Nat, a < s.heap.size → ¬ A a) : vx_Zq C n d A s s.heap := by
  refine ⟨va_Zqof hl hini h hA, ?_⟩
  obtain ⟨c, k, i, f, a, cell, h1, h2, h3, h4, h5, h6, h7, h8, h9⟩ := Cond.laysStatic_spec hl
  exact ⟨c, k, i, f, a, cell, h1, h2, h3, h4, h5, h6, h7, h8, h9, hA a (Array.getElem?_eq_some_iff.mp h5).1⟩
theorem vx_isRef {C n d : String} {v : Value} {A : Nat → Prop} {s : State} {args : Array Value} (h : va_Z C n d v A s s.heap) (hv : v.isRef = true) : (Cond.isRef (.static C n d)).before args s = true := by
  obtain ⟨cf, kf, fi, f, a, cell, h1, h2, h3, h4, h5, h6, h7, -⟩ := h
  have he : (Term.static C n d).eval args s none [] s = some v := by
    simp [Term.eval, State.fieldNamed?, h1, h2, h4, h5, h6, h7]
  simp only [Cond.before, Cond.holds, Cond.value, he]
  cases v <;> simp_all [Value.isRef]
theorem vx_isRefq {C n d : String} {A : Nat → Prop} {s : State} {args : Array Value} (h : va_Zq C n d A s s.heap) : (Cond.isRef (.static C n d)).before args s = true := by
  rcases h with h | ⟨t, h⟩
  · exact vx_isRef h rfl
  · exact vx_isRef h rfl
/-- the same frame, seen from here: as if the method were called anew in this heap -/
theorem vx_rebase {T : State} (X : Stand p l e R s m args below meth c T locs cells slots) {R' : Room} (hf : R'.frames ≤ R.frames) (hl : R'.locals ≤ R.locals) (hc : cells + R'.cells ≤ R.cells) (hs : slots + R'.slots ≤ R.slots) :
    Stand p l e R' ((T.setVm s.vm).setFrames (.invoking m args :: below)) m args below meth c T [] 0 0 := by
  have htop : (T.setVm s.vm).topJava?.isSome := X.here.top
  have hF : ((T.setVm s.vm).setFrames (.invoking m args :: below)).frames = .invoking m args :: below := State.frames_setFrames _ (State.cur_lt_of_top htop)
  obtain ⟨g₀, hg0⟩ := Option.isSome_iff_exists.mp htop
  obtain ⟨r, hr⟩ := State.topJava?_eq_some.mp hg0
  have hl9 : e.platform.stackLimits (T.setVm s.vm).me = e.platform.stackLimits s.me := X.limits
  have hb9 : (T.setVm s.vm).me.stackBytes = s.me.stackBytes := X.bytes
  refine ⟨X.admits, X.cas, X.clock, hF, ?_, X.hears, X.method, X.code, X.here, X.tail, X.warmed, ?_, ?_, ?_⟩
  · have h := X.room
    have hU : ((T.setVm s.vm).setFrames (.invoking m args :: below)).localsInUse = s.localsInUse := by
      rw [State.localsInUse_invoking hF (meth := meth) (c := c) X.method X.code, State.localsInUse_invoking X.frames X.method X.code]
    simp only [State.hasRoom, Bool.and_eq_true, decide_eq_true_eq] at h ⊢
    obtain ⟨⟨⟨⟨h1, h2, h3, h4, h5, h6⟩, h7⟩, h8⟩, h9⟩ := h
    rw [X.frames, List.length_cons] at h2 h3
    have q1 := X.heapSize
    have q2 := X.used
    simp only [hF, hU, List.length_cons, State.stackLimits_setFrames, State.stackBytes_setFrames, hl9, hb9]
    refine ⟨⟨⟨⟨by omega, by omega, by omega, by omega, by omega, h6⟩, ?_⟩, ?_⟩, X.book⟩
    · show T.heap.size + R'.cells ≤ e.platform.maxCells
      omega
    · show T.slotsUsed + R'.slots ≤ e.platform.maxSlots
      omega
  · rw [State.stackLimits_setFrames]; rfl
  · rw [State.stackBytes_setFrames]; rfl
  · refine ⟨?_, Nat.le_refl _, Nat.le_refl _, ?_, ?_, fun a c9 h9 => ⟨c9, h9, rfl, rfl, fun _ _ => rfl⟩⟩
    · obtain ⟨t, ht, -⟩ := State.frames_cons hr
      show T.setVm s.vm = { ((T.setVm s.vm).setFrames (.invoking m args :: below)).setFrames (T.setVm s.vm).frames with heap := T.heap, slotsUsed := T.slotsUsed }
      rw [State.setFrames_setFrames, State.setFrames_self ht]
      rfl
    · show T.slotsUsed = T.slotsUsed + ((T.heap.toList.drop T.heap.size).map (·.slots.size)).sum
      rw [List.drop_eq_nil_of_le (Nat.le_of_eq Array.length_toList)]
      rfl
    · show ((T.heap.toList.drop T.heap.size).map (·.slots.size)).sum ≤ 0
      rw [List.drop_eq_nil_of_le (Nat.le_of_eq Array.length_toList)]
      exact Nat.le_refl _
/-- 'throw new E()': new; dup; invokespecial; athrow -/
theorem vx_throw0 {cc : ByteArray} {pc : Nat} (hexec : p.tables.exec = Jvm.exec) (hb : c.code = cc) (hl : l.stackTraces = false) {own cls : String} {names : List String} {ik ic mc ms : Nat} {A : Nat → Prop}
    (hown : s.vm.findClass own = some m.cls) (hcls : Bundle.fit cls = true) (hnames : ∀ n ∈ names, Bundle.fit n = true)
    (hk : (Cond.classLink own ik cls).before args s = true) (hini : (Cond.initialized cls).before args s = true) (hat : ∀ w ∈ vx_at0 own ic cls names, w.before args s = true)
    (hgood : ∀ w ∈ Cond.classLink own ik cls :: Cond.initialized cls :: vx_at0 own ic cls names, vx_ot w = true)
    (hU : vx_Zq Bundle.tN "UNASSIGNED_STACK" Bundle.steD A s s.heap) (hN : vx_Zq Bundle.tN "SUPPRESSED_SENTINEL" Bundle.listD A s s.heap) (hS : va_S A s.heap H locs) (hsize : ls.size = c.maxLocals)
    (d0 : decode cc pc = .ok (.new ik, 3)) (d3 : decode cc (pc + 3) = .ok (.dup, 1)) (d4 : decode cc (pc + 4) = .ok (.invokespecial ic, 3)) (d7 : decode cc (pc + 7) = .ok (.athrow, 1))
    (hout : ∀ x ∈ c.exceptionTable.toList, covers x (pc + 7) = false)
    (hRframes : names.length + 3 < R.frames) (hRlocals : (rest.map fun v => v.category).sum + (13 * (names.length + 1) + 42) ≤ R.locals) (hRcells : cells + 1 ≤ R.cells) (hRslots : slots + 6 ≤ R.slots) (hlocks : meth.locks = false)
    (hx : ∀ t : State, s.vm.Alike t.vm → H.size ≤ t.heap.size → (∀ q : Nat, q < H.size → t.heap[q]? = H[q]?) → XC cls s t)
    (hf : ∀ z ∈ locs, free z.base) (hc : cells + 1 ≤ mc) (hs : slots + 6 ≤ ms) :
    W p l e R s m args below meth c H locs cells slots (vx_MQ below Qc XC args s mc ms free) (F0 m pc ls rest) := by
  intro T hT X
  have htr : e.platform.stackTraces = false := (show e.platform.stackTraces = l.stackTraces by rw [X.admits.platform]).trans hl
  have Y := vx_rebase X (R' := { frames := R.frames, locals := R.locals, cells := 1, slots := 6 }) (Nat.le_refl _) (Nat.le_refl _) hRcells hRslots
  obtain ⟨s', hA⟩ : ∃ z, z = (T.setVm s.vm).setFrames (.invoking m args :: below) := ⟨_, rfl⟩
  rw [← hA] at Y
  have hvm : s'.vm = s.vm := by rw [hA]; rfl
  have hhp : s'.heap = H := by rw [hA]; exact hT
  have hW0 : s.WarmedH s'.vm := by rw [hvm]; exact State.WarmedH.refl s
  have hat' : ∀ w ∈ vx_at0 own ic cls names, w.before args s' = true := fun w hw => vx_ot_at hW0 hvm.symm (hgood w (List.mem_cons_of_mem _ (List.mem_cons_of_mem _ hw))) (hat w hw)
  have hk' : (Cond.classLink own ik cls).before args s' = true := vx_ot_at hW0 hvm.symm (hgood _ List.mem_cons_self) hk
  have hini' : (Cond.initialized cls).before args s' = true := vx_ot_at hW0 hvm.symm (hgood _ (List.mem_cons_of_mem _ List.mem_cons_self)) hini
  have hU' : vx_Zq Bundle.tN "UNASSIGNED_STACK" Bundle.steD A s' s'.heap := by rw [hhp]; exact vx_Zq.moved hW0.alike (hU.kept hS.2.1)
  have hN' : vx_Zq Bundle.tN "SUPPRESSED_SENTINEL" Bundle.listD A s' s'.heap := by rw [hhp]; exact vx_Zq.moved hW0.alike (hN.kept hS.2.1)
  have h : ∀ w ∈ Bundle.ownAtoms0 own ic cls names, w.before args s' = true := vx_own hat' (vx_isRefq hU'.1) (vx_isRefq hN'.1) hU'.2.word hN'.2.word
  have hown' : s'.vm.findClass own = some m.cls := by rw [hvm]; exact hown
  have hins : (Cond.instantiable cls 6).before args s' = true := h _ (by simp [Bundle.ownAtoms0])
  obtain ⟨vm₁, cX, kX, hfX, hkX, -, -, X₁, st1⟩ := Y.newCold hexec (own := own) (C := cls) (index := ik) (n := 6) hown' hk' hins hini'
    (g := F0 m pc ls rest) rfl (by rw [hb]; exact d0) (Nat.le_refl _) (Nat.le_refl _)
  generalize hT1 : (T.setVm vm₁).pushCell { cls := cX, slots := kX.instanceTypes.map defaultValue, vm := .none } = T1 at X₁ st1
  have hcat : (Value.ref T.heap.size).category = 1 := rfl
  have hcellA : T1.heap[T.heap.size]? = some (freshCell cX kX) := by rw [← hT1]; exact State.heap_pushCell_size _ _
  have d3' : decode c.code (pc + 3) = .ok (.dup, 1) := by rw [hb]; exact d3
  obtain ⟨U, hsteps, hrun, hend, hW, hsame, ce, hce, hO⟩ := X₁.ctorThrow0 hexec htr (own := own) (cls := cls) (names := names) (ic := ic) hown' hcls hnames h (fun x hx => nomatch hx) hfX hkX hcellA (by rw [hhp, hT]; exact Nat.le_refl _)
    (g := { method := m, pc := pc + 4, locals := ls, stack := .ref T.heap.size :: .ref T.heap.size :: rest, locked := none }) rfl hsize rfl rfl (rest := rest) rfl
    (by rw [hb]; exact d4) (by rw [hb]; exact d7) hout hRframes (by simp only [List.map_cons, List.sum_cons, hcat]; omega) hlocks
  obtain ⟨f1, f2⟩ := vx_frame hsame
  rw [hhp] at f1 f2
  have hWs : s.WarmedH U.vm := State.WarmedH.trans hW0 hW
  have hcl : s.vm.findClass cls = some ce.cls := by
    have h9 := hO.cls
    rw [hvm] at h9
    exact h9
  have hall : s.sameButNew ({ U with vm := s.vm } : State) locs mc ms := by
    subst hA
    obtain ⟨e1, e2⟩ := hsame
    rw [State.setFrames_setFrames] at e1
    have h2 : (T.setVm s.vm).sameButNew ({ U with vm := s.vm } : State) [] (0 + 1) (0 + 6) := ⟨e1, e2⟩
    have h3 := X.same.trans h2
    rw [List.append_nil] at h3
    exact h3.mono hc hs
  refine ⟨U, ?_, .threw T.heap.size, hrun, hend, Or.inr ⟨T.heap.size, rfl, cls, ce, locs, hx U hWs.alike f1 (fun q hq => f2 q hq (fun z hz => nomatch hz)), hce, hO.vm, hcl, hWs, hall, hf⟩⟩
  refine st1 _ ?_
  show Steps p.tables e below (T1.setTop { method := m, pc := pc + 3, locals := ls, stack := .ref T.heap.size :: rest, locked := none }) _
  jvm_step X₁.here [X₁.here.top, hexec, d3', Value.category]
  exact hsteps
/-- 'throw new E("text")': new; dup; ldc; invokespecial; athrow -/
theorem vx_throwS {cc : ByteArray} {pc : Nat} (hexec : p.tables.exec = Jvm.exec) (hb : c.code = cc) (hl : l.stackTraces = false) {own cls text : String} {names : List String} {ik is ic mc ms sa : Nat} {A : Nat → Prop}
    (hown : s.vm.findClass own = some m.cls) (hcls : Bundle.fit cls = true) (hnames : ∀ n ∈ names, Bundle.fit n = true)
    (hk : (Cond.classLink own ik cls).before args s = true) (hini : (Cond.initialized cls).before args s = true) (hstr : vk_R own is text sa s) (hat : ∀ w ∈ vx_atS own ic cls names, w.before args s = true)
    (hgood : ∀ w ∈ Cond.classLink own ik cls :: Cond.initialized cls :: vx_atS own ic cls names, vx_ot w = true)
    (hU : vx_Zq Bundle.tN "UNASSIGNED_STACK" Bundle.steD A s s.heap) (hN : vx_Zq Bundle.tN "SUPPRESSED_SENTINEL" Bundle.listD A s s.heap) (hS : va_S A s.heap H locs) (hsize : ls.size = c.maxLocals)
    (d0 : decode cc pc = .ok (.new ik, 3)) (d3 : decode cc (pc + 3) = .ok (.dup, 1)) (d4 : decode cc (pc + 4) = .ok (.ldc is, 2)) (d6 : decode cc (pc + 6) = .ok (.invokespecial ic, 3)) (d9 : decode cc (pc + 9) = .ok (.athrow, 1))
    (hout : ∀ x ∈ c.exceptionTable.toList, covers x (pc + 9) = false)
    (hRframes : names.length + 3 < R.frames) (hRlocals : (rest.map fun v => v.category).sum + (13 * (names.length + 1) + 43) ≤ R.locals) (hRcells : cells + 1 ≤ R.cells) (hRslots : slots + 6 ≤ R.slots) (hlocks : meth.locks = false)
    (hx : ∀ t : State, s.vm.Alike t.vm → H.size ≤ t.heap.size → (∀ q : Nat, q < H.size → t.heap[q]? = H[q]?) → XC cls s t)
    (hf : ∀ z ∈ locs, free z.base) (hc : cells + 1 ≤ mc) (hs : slots + 6 ≤ ms) :
    W p l e R s m args below meth c H locs cells slots (vx_MQ below Qc XC args s mc ms free) (F0 m pc ls rest) := by
  intro T hT X
  have htr : e.platform.stackTraces = false := (show e.platform.stackTraces = l.stackTraces by rw [X.admits.platform]).trans hl
  have Y := vx_rebase X (R' := { frames := R.frames, locals := R.locals, cells := 1, slots := 6 }) (Nat.le_refl _) (Nat.le_refl _) hRcells hRslots
  obtain ⟨s', hA⟩ : ∃ z, z = (T.setVm s.vm).setFrames (.invoking m args :: below) := ⟨_, rfl⟩
  rw [← hA] at Y
  have hvm : s'.vm = s.vm := by rw [hA]; rfl
  have hhp : s'.heap = H := by rw [hA]; exact hT
  have hW0 : s.WarmedH s'.vm := by rw [hvm]; exact State.WarmedH.refl s
  have hat' : ∀ w ∈ vx_atS own ic cls names, w.before args s' = true := fun w hw => vx_ot_at hW0 hvm.symm (hgood w (List.mem_cons_of_mem _ (List.mem_cons_of_mem _ hw))) (hat w hw)
  have hk' : (Cond.classLink own ik cls).before args s' = true := vx_ot_at hW0 hvm.symm (hgood _ List.mem_cons_self) hk
  have hini' : (Cond.initialized cls).before args s' = true := vx_ot_at hW0 hvm.symm (hgood _ (List.mem_cons_of_mem _ List.mem_cons_self)) hini
  have hU' : vx_Zq Bundle.tN "UNASSIGNED_STACK" Bundle.steD A s' s'.heap := by rw [hhp]; exact vx_Zq.moved hW0.alike (hU.kept hS.2.1)
  have hN' : vx_Zq Bundle.tN "SUPPRESSED_SENTINEL" Bundle.listD A s' s'.heap := by rw [hhp]; exact vx_Zq.moved hW0.alike (hN.kept hS.2.1)
  have h : ∀ w ∈ Bundle.ownAtoms own ic cls names, w.before args s' = true := vx_own hat' (vx_isRefq hU'.1) (vx_isRefq hN'.1) hU'.2.word hN'.2.word
  have hown' : s'.vm.findClass own = some m.cls := by rw [hvm]; exact hown
  have hins : (Cond.instantiable cls 6).before args s' = true := h _ (by simp [Bundle.ownAtoms])
  obtain ⟨vm₁, cX, kX, hfX, hkX, -, -, X₁, st1⟩ := Y.newCold hexec (own := own) (C := cls) (index := ik) (n := 6) hown' hk' hins hini'
    (g := F0 m pc ls rest) rfl (by rw [hb]; exact d0) (Nat.le_refl _) (Nat.le_refl _)
  generalize hT1 : (T.setVm vm₁).pushCell { cls := cX, slots := kX.instanceTypes.map defaultValue, vm := .none } = T1 at X₁ st1
  have hcat : (Value.ref T.heap.size).category = 1 := rfl
  have hcellA : T1.heap[T.heap.size]? = some (freshCell cX kX) := by rw [← hT1]; exact State.heap_pushCell_size _ _
  have d3' : decode c.code (pc + 3) = .ok (.dup, 1) := by rw [hb]; exact d3
  have d4' : decode c.code (pc + 4) = .ok (.ldc is, 2) := by rw [hb]; exact d4
  have hstr' : vk_R own is text sa s' := vk_R.warm hW0 hstr
  obtain ⟨U, hsteps, hrun, hend, hW, hsame, ce, hce, hO⟩ := X₁.ctorThrowS hexec htr (own := own) (cls := cls) (names := names) (ic := ic) hown' hcls hnames h (fun x hx => nomatch hx) hfX hkX hcellA (by rw [hhp, hT]; exact Nat.le_refl _) (msg := .ref sa) rfl
    (g := { method := m, pc := pc + 6, locals := ls, stack := .ref sa :: .ref T.heap.size :: .ref T.heap.size :: rest, locked := none }) rfl hsize rfl rfl (rest := rest) rfl
    (by rw [hb]; exact d6) (by rw [hb]; exact d9) hout hRframes (by simp only [List.map_cons, List.sum_cons, hcat]; omega) hlocks
  obtain ⟨f1, f2⟩ := vx_frame hsame
  rw [hhp] at f1 f2
  have hWs : s.WarmedH U.vm := State.WarmedH.trans hW0 hW
  have hcl : s.vm.findClass cls = some ce.cls := by
    have h9 := hO.cls
    rw [hvm] at h9
    exact h9
  have hall : s.sameButNew ({ U with vm := s.vm } : State) locs mc ms := by
    subst hA
    obtain ⟨e1, e2⟩ := hsame
    rw [State.setFrames_setFrames] at e1
    have h2 : (T.setVm s.vm).sameButNew ({ U with vm := s.vm } : State) [] (0 + 1) (0 + 6) := ⟨e1, e2⟩
    have h3 := X.same.trans h2
    rw [List.append_nil] at h3
    exact h3.mono hc hs
  refine ⟨U, ?_, .threw T.heap.size, hrun, hend, Or.inr ⟨T.heap.size, rfl, cls, ce, locs, hx U hWs.alike f1 (fun q hq => f2 q hq (fun z hz => nomatch hz)), hce, hO.vm, hcl, hWs, hall, hf⟩⟩
  refine st1 _ ?_
  show Steps p.tables e below (T1.setTop { method := m, pc := pc + 3, locals := ls, stack := .ref T.heap.size :: rest, locked := none }) _
  jvm_step X₁.here [X₁.here.top, hexec, d3', Value.category]
  exact X₁.ldcString hexec (own := own) (text := text) (index := is) (a := sa) hown' hstr'.1 hstr'.2
    (g := { method := m, pc := pc + 4, locals := ls, stack := .ref T.heap.size :: .ref T.heap.size :: rest, locked := none }) rfl d4' _ hsteps
/-- 'throw new E("text")', the text by a wide index -/
theorem vx_throwSW {cc : ByteArray} {pc : Nat} (hexec : p.tables.exec = Jvm.exec) (hb : c.code = cc) (hl : l.stackTraces = false) {own cls text : String} {names : List String} {ik is ic mc ms sa : Nat} {A : Nat → Prop}
    (hown : s.vm.findClass own = some m.cls) (hcls : Bundle.fit cls = true) (hnames : ∀ n ∈ names, Bundle.fit n = true)
    (hk : (Cond.classLink own ik cls).before args s = true) (hini : (Cond.initialized cls).before args s = true) (hstr : vk_R own is text sa s) (hat : ∀ w ∈ vx_atS own ic cls names, w.before args s = true)
    (hgood : ∀ w ∈ Cond.classLink own ik cls :: Cond.initialized cls :: vx_atS own ic cls names, vx_ot w = true)
    (hU : vx_Zq Bundle.tN "UNASSIGNED_STACK" Bundle.steD A s s.heap) (hN : vx_Zq Bundle.tN "SUPPRESSED_SENTINEL" Bundle.listD A s s.heap) (hS : va_S A s.heap H locs) (hsize : ls.size = c.maxLocals)
    (d0 : decode cc pc = .ok (.new ik, 3)) (d3 : decode cc (pc + 3) = .ok (.dup, 1)) (d4 : decode cc (pc + 4) = .ok (.ldc_w is, 3)) (d7 : decode cc (pc + 7) = .ok (.invokespecial ic, 3)) (d10 : decode cc (pc + 10) = .ok (.athrow, 1))
    (hout : ∀ x ∈ c.exceptionTable.toList, covers x (pc + 10) = false)
    (hRframes : names.length + 3 < R.frames) (hRlocals : (rest.map fun v => v.category).sum + (13 * (names.length + 1) + 43) ≤ R.locals) (hRcells : cells + 1 ≤ R.cells) (hRslots : slots + 6 ≤ R.slots) (hlocks : meth.locks = false)
    (hx : ∀ t : State, s.vm.Alike t.vm → H.size ≤ t.heap.size → (∀ q : Nat, q < H.size → t.heap[q]? = H[q]?) → XC cls s t)
    (hf : ∀ z ∈ locs, free z.base) (hc : cells + 1 ≤ mc) (hs : slots + 6 ≤ ms) :
    W p l e R s m args below meth c H locs cells slots (vx_MQ below Qc XC args s mc ms free) (F0 m pc ls rest) := by
  intro T hT X
  have htr : e.platform.stackTraces = false := (show e.platform.stackTraces = l.stackTraces by rw [X.admits.platform]).trans hl
  have Y := vx_rebase X (R' := { frames := R.frames, locals := R.locals, cells := 1, slots := 6 }) (Nat.le_refl _) (Nat.le_refl _) hRcells hRslots
  obtain ⟨s', hA⟩ : ∃ z, z = (T.setVm s.vm).setFrames (.invoking m args :: below) := ⟨_, rfl⟩
  rw [← hA] at Y
  have hvm : s'.vm = s.vm := by rw [hA]; rfl
  have hhp : s'.heap = H := by rw [hA]; exact hT
  have hW0 : s.WarmedH s'.vm := by rw [hvm]; exact State.WarmedH.refl s
  have hat' : ∀ w ∈ vx_atS own ic cls names, w.before args s' = true := fun w hw => vx_ot_at hW0 hvm.symm (hgood w (List.mem_cons_of_mem _ (List.mem_cons_of_mem _ hw))) (hat w hw)
  have hk' : (Cond.classLink own ik cls).before args s' = true := vx_ot_at hW0 hvm.symm (hgood _ List.mem_cons_self) hk
  have hini' : (Cond.initialized cls).before args s' = true := vx_ot_at hW0 hvm.symm (hgood _ (List.mem_cons_of_mem _ List.mem_cons_self)) hini
  have hU' : vx_Zq Bundle.tN "UNASSIGNED_STACK" Bundle.steD A s' s'.heap := by rw [hhp]; exact vx_Zq.moved hW0.alike (hU.kept hS.2.1)
  have hN' : vx_Zq Bundle.tN "SUPPRESSED_SENTINEL" Bundle.listD A s' s'.heap := by rw [hhp]; exact vx_Zq.moved hW0.alike (hN.kept hS.2.1)
  have h : ∀ w ∈ Bundle.ownAtoms own ic cls names, w.before args s' = true := vx_own hat' (vx_isRefq hU'.1) (vx_isRefq hN'.1) hU'.2.word hN'.2.word
  have hown' : s'.vm.findClass own = some m.cls := by rw [hvm]; exact hown
  have hins : (Cond.instantiable cls 6).before args s' = true := h _ (by simp [Bundle.ownAtoms])
  obtain ⟨vm₁, cX, kX, hfX, hkX, -, -, X₁, st1⟩ := Y.newCold hexec (own := own) (C := cls) (index := ik) (n := 6) hown' hk' hins hini'
    (g := F0 m pc ls rest) rfl (by rw [hb]; exact d0) (Nat.le_refl _) (Nat.le_refl _)
  generalize hT1 : (T.setVm vm₁).pushCell { cls := cX, slots := kX.instanceTypes.map defaultValue, vm := .none } = T1 at X₁ st1
  have hcat : (Value.ref T.heap.size).category = 1 := rfl
  have hcellA : T1.heap[T.heap.size]? = some (freshCell cX kX) := by rw [← hT1]; exact State.heap_pushCell_size _ _
  have d3' : decode c.code (pc + 3) = .ok (.dup, 1) := by rw [hb]; exact d3
  have d4' : decode c.code (pc + 4) = .ok (.ldc_w is, 3) := by rw [hb]; exact d4
  have hstr' : vk_R own is text sa s' := vk_R.warm hW0 hstr
  obtain ⟨U, hsteps, hrun, hend, hW, hsame, ce, hce, hO⟩ := X₁.ctorThrowS hexec htr (own := own) (cls := cls) (names := names) (ic := ic) hown' hcls hnames h (fun x hx => nomatch hx) hfX hkX hcellA (by rw [hhp, hT]; exact Nat.le_refl _) (msg := .ref sa) rfl
    (g := { method := m, pc := pc + 7, locals := ls, stack := .ref sa :: .ref T.heap.size :: .ref T.heap.size :: rest, locked := none }) rfl hsize rfl rfl (rest := rest) rfl
    (by rw [hb]; exact d7) (by rw [hb]; exact d10) hout hRframes (by simp only [List.map_cons, List.sum_cons, hcat]; omega) hlocks
  obtain ⟨f1, f2⟩ := vx_frame hsame
  rw [hhp] at f1 f2
  have hWs : s.WarmedH U.vm := State.WarmedH.trans hW0 hW
  have hcl : s.vm.findClass cls = some ce.cls := by
    have h9 := hO.cls
    rw [hvm] at h9
    exact h9
  have hall : s.sameButNew ({ U with vm := s.vm } : State) locs mc ms := by
    subst hA
    obtain ⟨e1, e2⟩ := hsame
    rw [State.setFrames_setFrames] at e1
    have h2 : (T.setVm s.vm).sameButNew ({ U with vm := s.vm } : State) [] (0 + 1) (0 + 6) := ⟨e1, e2⟩
    have h3 := X.same.trans h2
    rw [List.append_nil] at h3
    exact h3.mono hc hs
  refine ⟨U, ?_, .threw T.heap.size, hrun, hend, Or.inr ⟨T.heap.size, rfl, cls, ce, locs, hx U hWs.alike f1 (fun q hq => f2 q hq (fun z hz => nomatch hz)), hce, hO.vm, hcl, hWs, hall, hf⟩⟩
  refine st1 _ ?_
  show Steps p.tables e below (T1.setTop { method := m, pc := pc + 3, locals := ls, stack := .ref T.heap.size :: rest, locked := none }) _
  jvm_step X₁.here [X₁.here.top, hexec, d3', Value.category]
  exact X₁.ldcStringW hexec (own := own) (text := text) (index := is) (a := sa) hown' hstr'.1 hstr'.2
    (g := { method := m, pc := pc + 4, locals := ls, stack := .ref T.heap.size :: .ref T.heap.size :: rest, locked := none }) rfl d4' _ hsteps
end Ends
section Bodies
variable {l : Launch}
theorem vx_ofW {y : MethodName} {ws ws' : List Cond} {rm : Room} {Pc : Array Value → State → Prop} {Qc : Array Value → State → Outcome → State → Prop} {XC : String → State → State → Prop} {mc ms : Nat} {free : Addr → Prop} {cc : ByteArray} {maxL : Nat} {ret : Option FieldType}
    (hy : plainName y.cls = true) (hw : ws = Cond.code y cc maxL ret :: ws')
    (body : ∀ p e s m args below meth c s₁, BodyLoose p l y (headSpec ws rm) cc maxL ret e s m args below meth c s₁ → c.maxLocals = maxL → (∀ x ∈ c.exceptionTable.toList, False) → Pc args s →
      W p l e (headSpec ws rm).room s m args below meth c s.heap [] 0 0 (vx_MQ below Qc XC args s mc ms free) (entryFrame m args maxL)) : vx_Met l y ws rm Pc Qc XC mc ms free := by
  refine MetFree.of_bodyS (code := cc) (maxLocals := maxL) (ret := ret) hy ?_ ?_
  · intro args s m h hn
    obtain ⟨meth, c, h1, h2, h3, h4, h5, h6, -, -⟩ := Cond.code_spec hn (atoms_spec (ws := ws) h _ (by rw [hw]; exact List.mem_cons_self))
    exact ⟨meth, c, h1, h2, h3, h4, h5, h6⟩
  · intro p e s m args below meth c s₁ B hml hP _
    have hh0 : s₁.heap = s.heap := by rw [B.state]; rfl
    have ht : ∀ x ∈ c.exceptionTable.toList, False := by
      obtain ⟨meth9, c9, h1, h2, -, -, -, -, h7, -⟩ := Cond.code_spec B.named (atoms_spec (ws := ws) B.pre _ (by rw [hw]; exact List.mem_cons_self))
      cases Option.some.inj (h1.symm.trans B.method)
      cases Option.some.inj (h2.symm.trans (Stand.of_body B).code)
      intro x hx
      rw [Array.isEmpty_iff.mp h7] at hx
      cases hx
    obtain ⟨t, a1, o, b1, b2, b3⟩ := body p e s m args below meth c s₁ B hml ht hP s₁ hh0 (Stand.of_body B)
    exact ⟨t, o, a1, b1, b2, b3⟩
/-- the table of a body with handlers -/
theorem vx_table {p : Program} {x y : MethodName} {S : Spec} {cc bytes : ByteArray} {maxL maxL' : Nat} {ret ret' : Option FieldType} {e : Env} {s s₁ : State} {m : MethodId} {args : Array Value} {below : List Frame} {meth : Method} {c : Code} {hh : List (Nat × Nat × Nat × Nat)}
    (B : BodyLoose p l y S cc maxL ret e s m args below meth c s₁) (h : (Cond.codeWith y bytes maxL' ret' hh).before args s = true) : c.exceptionTable.toList = tableOf hh := by
  obtain ⟨m9, meth9, c9, hn9, h1, h2, -, -, h6, -⟩ := Cond.codeWith_spec h
  cases Option.some.inj (hn9.symm.trans B.named)
  cases Option.some.inj (h1.symm.trans B.method)
  cases Option.some.inj (h2.symm.trans (Stand.of_body B).code)
  rw [← h6, table_eq]
end Bodies
end VXA
/-! ===== END ===== -/
/-! ===== BEGIN a static call of a method with an exception table ===== -/
section VXS
variable {p : Program} {l : Launch} {e : Env} {R : Room} {s : State} {m : MethodId} {args : Array Value} {below : List Frame} {meth : Method} {c : Code} {T : State} {H : Heap} {locs : List Loc} {cells slots : Nat}
abbrev vx_CSW (R : Room) (s : State) (args : Array Value) (own : String) (index : Nat) (y : MethodName) (bytes : ByteArray) (maxL : Nat) (ret : Option FieldType) (hh : List (Nat × Nat × Nat × Nat)) (ws : List Cond) (rm : Room) (mc ms n : Nat) : Prop :=
  (rm.cells = mc ∧ rm.slots = ms ∧ rm.frames + 1 ≤ R.frames ∧ 8 + (maxL + 11) + rm.locals ≤ R.locals ∧ (∀ w ∈ ws, ∀ (a' : Array Value) (U : State), s.WarmedH U.vm → w.before a' U = true) ∧ Cond.codeWith y bytes maxL ret hh ∈ ws) ∧
  (Cond.codeWith y bytes maxL ret hh).before args s = true ∧ (Cond.initialized y.cls).before args s = true ∧ (y.cls ≠ "java/lang/invoke/MethodHandle" ∧ y.cls ≠ "java/lang/invoke/VarHandle") ∧
  (∀ sig, parseMethodDescriptor y.desc = some sig → n = sig.parameters.length) ∧ (Cond.methodLink own index y).before args s = true ∧ (Cond.static y).before args s = true
theorem vx_cwSW {own : String} {index maxL mc ms : Nat} {y : MethodName} {bytes : ByteArray} {ret : Option FieldType} {hh : List (Nat × Nat × Nat × Nat)} {Ts ws ws' : List Cond} {rm : Room} (n : Nat) (ht : ∀ w ∈ Ts, w.before args s = true) (hT : GoodIn Ts (va_wsS own index y ws)) (hw : ws = Cond.codeWith y bytes maxL ret hh :: ws') (hrc : rm.cells = mc) (hrs : rm.slots = ms)
    (hd : y.cls ≠ "java/lang/invoke/MethodHandle" ∧ y.cls ≠ "java/lang/invoke/VarHandle" ∧ (parseMethodDescriptor y.desc).map (fun d => d.parameters.length) = some n) (hR : rm.frames + 1 ≤ R.frames ∧ 8 + (maxL + 11) + rm.locals ≤ R.locals) :
    vx_CSW R s args own index y bytes maxL ret hh ws rm mc ms n := by
  have ok : ∀ w ∈ va_wsS own index y ws, w.before args s = true := fun w h => ht w (hT w h).1
  have hG : GoodIn Ts ws := fun w h => hT w (by unfold va_wsS; exact List.mem_append_right _ h)
  have hc : Cond.codeWith y bytes maxL ret hh ∈ ws := by rw [hw]; exact List.mem_cons_self
  refine ⟨⟨hrc, hrs, hR.1, hR.2, pay_in ht hG, hc⟩, ht _ (hG _ hc).1, ok _ (by simp [va_wsS]), ⟨hd.1, hd.2.1⟩, fun sig h => ?_, ok _ (by simp [va_wsS]), ok _ (by simp [va_wsS])⟩
  have h2 := hd.2.2
  rw [h] at h2
  exact (Option.some.inj h2).symm
theorem vx_callSW (X : Stand p l e R s m args below meth c T locs cells slots) (hexec : p.tables.exec = Jvm.exec) {own : String} {index : Nat} {y : MethodName} {bytes : ByteArray} {maxL : Nat} {ret : Option FieldType} {hh : List (Nat × Nat × Nat × Nat)}
    (hown : s.vm.findClass own = some m.cls) (hlink : (Cond.methodLink own index y).before args s = true) (hstat : (Cond.static y).before args s = true) (hinit : (Cond.initialized y.cls).before args s = true)
    (hcode : (Cond.codeWith y bytes maxL ret hh).before args s = true) (hy : y.cls ≠ "java/lang/invoke/MethodHandle" ∧ y.cls ≠ "java/lang/invoke/VarHandle")
    {W9 : Nat} {Pre : Pt → Array Value → Prop} {Post : Pt → Array Value → Option Value → Pt → Prop} (hK : Back l R p e below s args y 3 W9 Pre Post)
    {g : JFrame} (hg : g.method = m) (hsize : g.locals.size = c.maxLocals) {argsL rest : List Value} (hlen : ∀ sig, parseMethodDescriptor y.desc = some sig → argsL.length = sig.parameters.length)
    (hstack : g.stack = argsL.reverse ++ rest) (hW : 2 * g.monitorRoom + (rest.map fun v => v.category).sum ≤ W9) (hdg : decode c.code g.pc = .ok (.invokestatic index, 3))
    (hpre : ∀ vm₁, s.WarmedH vm₁ → Pre ⟨T.setVm vm₁, locs, cells, slots⟩ argsL.toArray) :
    ∃ (v : Option Value) (vm₁ : Vm) (B : Pt), s.WarmedH vm₁ ∧ Stand p l e R s m args below meth c B.U B.locs B.cells B.slots ∧ Post ⟨T.setVm vm₁, locs, cells, slots⟩ argsL.toArray v B ∧
      ∀ target, Steps p.tables e below (B.U.setTop { g with pc := g.pc + 3, stack := v.toList ++ rest }) target → Steps p.tables e below (T.setTop g) target := by
  obtain ⟨mk, methM, cM, hnamed, hmethM, -, -, -, -, -, -, hsigM⟩ := Cond.codeWith_spec hcode
  have hstatic : methM.isStatic = true := Cond.static_spec hnamed hmethM hstat
  obtain ⟨kP, hkP, -⟩ := className_of_methodNamed hnamed
  have hinitP : kP.init = .initialized := Cond.initialized_spec (findClass_of_methodNamed hnamed) hkP hinit
  obtain ⟨vm₁, X₁, hstep₁⟩ := X.invokestatic hexec hown hlink hnamed hmethM hstatic hkP hinitP hy (g := g) hg (argsL := argsL) (rest := rest) (hlen _ hsigM) hstack hdg
  obtain ⟨v, B, X', hpost, hsteps⟩ := hK m meth c ⟨T.setVm vm₁, locs, cells, slots⟩ { g with stack := rest } (.invokestatic index) mk argsL.toArray X₁ hg hsize hdg hW (X₁.named hnamed) (hpre vm₁ X₁.warmed)
  exact ⟨v, vm₁, B, X₁.warmed, X', hpost, fun target h => hstep₁ _ fun acts => by rw [doInvoke_state]; exact hsteps.trans h⟩
theorem vx_runSW {y : MethodName} {bytes cc : ByteArray} {maxL nL mc ms n index : Nat} {ret : Option FieldType} {hh : List (Nat × Nat × Nat × Nat)} {ws : List Cond} {rm : Room} {Pc : Array Value → State → Prop} {Qc : Array Value → State → Outcome → State → Prop} {free : Addr → Prop} {Ts : List Cond} {own : String} {As rest : List Value} {g : JFrame}
    (S : CallFix p m c cc nL s args Ts own) (hM : Met l y ws rm Pc Qc mc ms free) (cw : vx_CSW R s args own index y bytes maxL ret hh ws rm mc ms n) (hp : PreS s H Pc As)
    (hg : g.method = m) (hn : As.length = n) (hsize : g.locals.size = nL) (hstack : g.stack = As.reverse ++ rest) (hW : 2 * g.monitorRoom + (rest.map fun v => v.category).sum ≤ 8) (hdg : decode cc g.pc = .ok (.invokestatic index, 3)) (hf : cells + mc ≤ R.cells ∧ slots + ms ≤ R.slots) :
    va_Run p l e R s m args below meth c H locs cells slots mc ms g rest (Qc As.toArray) (free) := by
  obtain ⟨⟨hrc, hrs, hfr, hlo, hws, hcw⟩, hcode, hini, hy, hlen, hl, hstt⟩ := cw
  have hK : Back l R p e below s args y 3 8 (PreOf R mc ms Pc) (PostOf Qc mc ms free) := va_backW (hh := hh) (bytes := bytes) (maxL := maxL) (ret := ret) hM hp.1 hrc hrs hfr hlo hws hcw (fun a' U hW => word_at hW (Or.inl (by first | rfl | simp [Cond.onTables, Cond.keeps, Cond.steady])) hini)
  obtain ⟨hx, hb, hml, ho, -⟩ := S
  intro T hT X
  obtain ⟨v, vm₁, ⟨U', l2, c2, s2⟩, hW₁, X', ⟨g', mk, t, L, e1, e2, hq, h1, hL, h2, h3⟩, st⟩ := vx_callSW X hx (hh := hh) (bytes := bytes) (maxL := maxL) (ret := ret) ho hl hstt hini hcode hy hK hg (hsize.trans hml.symm) (argsL := As) (rest := rest) (fun sig h => hn.trans (hlen sig h)) hstack hW (by rw [hb]; exact hdg)
    (fun vm₁ hW₁ => ⟨hf.1, hf.2, hp.2 (T.setVm vm₁) hT hW₁⟩)
  dsimp only [Pt.U, Pt.locs, Pt.cells, Pt.slots] at X' e1 e2 h1 h2 h3 st
  subst h1; subst h2; subst h3
  exact ⟨v, (T.setVm vm₁).calling g' mk As.toArray, t, U', L, hT, X', hL, e1, e2, hq, st⟩
/-- not caught here, past rows that name other classes: it goes on to the caller -/
theorem vx_outP {p : Program} {l : Launch} {e : Env} {R : Room} {s : State} {m : MethodId} {args : Array Value} {below : List Frame} {meth : Method} {c : Code} {H : Heap} {locs : List Loc} {cells slots : Nat} {free : Addr → Prop} {ls : Array Slot} {rest : List Value} {Qc : Array Value → State → Outcome → State → Prop} {XC : String → State → State → Prop}
    {pc : Nat} {own E : String} {ce : Cell} {q : Addr} {mc ms : Nat} (hown : s.vm.findClass own = some m.cls) (hlocks : meth.locks = false)
    (hpass : ∀ z ∈ c.exceptionTable.toList, covers z pc = false ∨ (z.catchType ≠ 0 ∧ ∃ nm : String, (Cond.classLink own z.catchType nm).before args s = true ∧ va_Nc E nm s)) (hcell : H[q]? = some ce) (hv : ce.vm = .none) (hcl : s.vm.findClass E = some ce.cls)
    (hx : ∀ t : State, t.heap = H → s.vm.Alike t.vm → XC E s t) (hf : ∀ z ∈ locs, free z.base) (hc : cells ≤ mc) (hs : slots ≤ ms) :
    vx_W p l e R s m args below meth c H locs cells slots (vx_MQ below Qc XC args s mc ms free) (F0 m pc ls rest) q := by
  intro T hT X
  have hpl : e.platform.magicAccessors = ({} : Platform).magicAccessors := by rw [X.admits.platform]
  obtain ⟨vm', hW', X', st⟩ := X.outThrough hlocks q (g := F0 m pc ls rest) rfl rfl rfl (cell := ce) (by rw [hT]; exact hcell) (by rw [hv]; rfl)
    (by obtain ⟨k9, h9, -⟩ := Vm.findClass_spec hcl; exact ⟨k9, h9⟩) (fun z hz => by
      rcases hpass z hz with h | ⟨hz0, nm, hl1, hn1⟩
      · exact Or.inl h
      · obtain ⟨c6, hc6, hcl6⟩ := Cond.classLink_spec hown hl1 e.platform hpl
        obtain ⟨a8, b8, h1, h2, h3⟩ := hn1
        cases Option.some.inj (h1.symm.trans hcl)
        cases Option.some.inj (h2.symm.trans hc6)
        exact Or.inr ⟨hz0, _, hcl6, h3⟩)
  obtain ⟨g₀, hfr⟩ := X'.frames_eq
  have hcell9 : ((T.setVm vm').setFrames (.throwing q :: below)).heap[q]? = some ce := by
    show T.heap[q]? = some ce
    rw [hT]; exact hcell
  have hend : Ended ((T.setVm vm').setFrames (.throwing q :: below)) below (.threw q) := State.frames_setFrames _ (State.cur_lt_of_frames hfr)
  refine ⟨(T.setVm vm').setFrames (.throwing q :: below), ?_, .threw q, X'.here.running, hend, Or.inr ⟨q, rfl, E, ce, locs, hx _ hT (X'.ends _).1.alike, hcell9, hv, hcl, (X'.ends _).1, (X'.ends _).2.mono hc hs, hf⟩⟩
  rw [X.pushThrowing_eq]
  exact st
/-- a thing of a world lies in the heap -/
theorem vx_lt {D : va_G} {cl : List vw_C} {ws : va_W} {H1 : Heap} (h : va_P D cl ws H1) {k : Nat} {q : Nat × va_E} (hk : ws[k]? = some q) : q.1 < H1.size := (h k q hk).lt
end VXS
/-! ===== END ===== -/
/-! ===== BEGIN methods with a table of their own: called by a name, returning or throwing ===== -/
section VXH
/-! vx_backW, vx_callVX, vx_callSX, vx_callVW, vx_runVW, vx_runVX, vx_runSX, vx_ofWH follow the same proofs as their sisters above (Free/Laws.lean, Shelf42/LK1.lean); vx_outP calls Shelf42/NT130.lean (outThrough). -/
section
variable {l : Launch} {R : Room} {p : Program} {e : Env} {below : List Frame} {s : State} {sargs : Array Value} {y : MethodName} {len W9 : Nat}
theorem vx_backW {ws : List Cond} {rm : Room} {Pc : Array Value → State → Prop} {Qc : Array Value → State → Outcome → State → Prop} {XC : String → State → State → Prop} {mc ms : Nat} {free : Addr → Prop} {bytes : ByteArray} {maxL : Nat} {ret : Option FieldType} {hh : List (Nat × Nat × Nat × Nat)}
    (hM : vx_Met l y ws rm Pc Qc XC mc ms free) (hblind : FrameBlind Pc) (hrc : rm.cells = mc) (hrs : rm.slots = ms)
    (hframes : rm.frames + 1 ≤ R.frames) (hlocals : W9 + (maxL + 11) + rm.locals ≤ R.locals)
    (hws : ∀ w ∈ ws, ∀ a' U, s.WarmedH U.vm → w.before a' U = true) (hcode : Cond.codeWith y bytes maxL ret hh ∈ ws) (hinit : ∀ a' U, s.WarmedH U.vm → (Cond.initialized y.cls).before a' U = true) :
    vx_Back l R p e below s sargs y len W9 (PreOf R mc ms Pc) (PostOf Qc mc ms free) (vx_Post XC mc ms free) := by
  intro m meth c A g ig mk a X hg hsize hdg hW hn hp
  have h1 : (headSpec ws rm).pre.before a A.U = true := atoms_intro fun w hw => hws w hw _ _ X.warmed
  have h2 : (Cond.codeWith y bytes maxL ret hh).before a A.U = true := hws _ hcode _ _ X.warmed
  have h3 : (Cond.initialized y.cls).before a A.U = true := hinit _ _ X.warmed
  have h4 : A.cells + (headSpec ws rm).room.cells ≤ R.cells := by rw [show (headSpec ws rm).room.cells = mc from hrc]; exact hp.1
  have h5 : A.slots + (headSpec ws rm).room.slots ≤ R.slots := by rw [show (headSpec ws rm).room.slots = ms from hrs]; exact hp.2.1
  have hPc : Pc a (A.U.calling g mk a) := hblind _ _ _ _ hp.2.2
  obtain ⟨U, Ls, c0, s0⟩ := A
  dsimp only [Pt.U, Pt.locs, Pt.cells, Pt.slots] at h1 h2 h3 h4 h5 X hn hPc ⊢
  obtain ⟨m9, methY, cY, hn9, hmY, hcY, -, hlY, -⟩ := Cond.codeWith_spec h2
  cases Option.some.inj (hn9.symm.trans hn)
  obtain ⟨kY, hkY, -⟩ := className_of_methodNamed hn
  have hinitY : kY.init = .initialized := Cond.initialized_spec (findClass_of_methodNamed hn) hkY h3
  have h : At U g.method c below := by rw [hg]; exact X.here
  have hlocals9 : W9 + (maxL + 11) + (headSpec ws rm).room.locals ≤ R.locals := hlocals
  have happ : (headSpec ws rm).appliesLoose y e.platform (U.calling g mk a) = true :=
    Spec.appliesLoose_calling (g := g) h hdg hn hkY hinitY
      (X.room_calling (g := g) (R' := (headSpec ws rm).room) hsize hmY hcY hframes (by rw [hlY]; omega) h4 h5) h1
  obtain ⟨mid, hmid⟩ := h.above
  have hfr : (U.setTop g).frames = (.java g :: mid) ++ below := by rw [State.frames_setTop' g h.top, hmid]; rfl
  obtain ⟨o, s₂, hsteps, -, hend, hq⟩ := Steps.callFree hM p X.admits X.cas X.clock (acts := []) hfr happ hPc trivial
  have hq' : vx_Q Qc XC mc ms free a (U.calling g mk a) o s₂ := hq
  rw [State.frames_setTop' g h.top] at hend
  obtain ⟨g₀, hg0⟩ := Option.isSome_iff_exists.mp h.top
  obtain ⟨r, hr⟩ := State.topJava?_eq_some.mp hg0
  have hr' : (({ U with heap := s₂.heap, slotsUsed := s₂.slotsUsed } : State).setVm s₂.vm).frames = .java g₀ :: r := hr
  rcases hq' with ⟨hqc, L, hfe, hL⟩ | ⟨q, rfl, E, ce, L, hx, hce, hcv, hcl, hW₂, hsm, hL⟩
  · obtain ⟨⟨v, rfl⟩, hW₂, e2, q2, q3, q4, q5, q6⟩ := id hfe
    have e3 : s₂ = ({ (U.calling g mk a).setFrames s₂.frames with heap := s₂.heap, slotsUsed := s₂.slotsUsed } : State).setVm s₂.vm := by
      have : s₂ = ({ s₂ with vm := (U.calling g mk a).vm } : State).setVm s₂.vm := rfl
      rw [e2] at this
      exact this
    obtain ⟨c₂, i₂, len₂, hc₂, hd₂, hf₂⟩ := hend
    have hW' : U.WarmedH s₂.vm := hW₂
    have hcc : c₂ = c := by
      have h1 : s₂.code? g.method = U.code? g.method := by
        rw [State.code?_eq, State.code?_eq, hW'.alike.method?]
      exact Option.some.inj (hc₂.symm.trans (h1.trans h.code))
    subst hcc
    have hlen : len₂ = len := by rw [hdg] at hd₂; cases hd₂; rfl
    subst hlen
    have hs₂ : s₂ = (({ U with heap := s₂.heap, slotsUsed := s₂.slotsUsed } : State).setVm s₂.vm).setTop { g with pc := g.pc + len₂, stack := v.toList ++ g.stack } := by
      refine e3.trans ?_
      rw [hf₂, State.calling_eq h.top, State.setFrames_setFrames, State.setTop_of_frames _ hr', hr]
      rfl
    have hsame : U.sameButNew ({ U with heap := s₂.heap, slotsUsed := s₂.slotsUsed } : State) L mc ms := by
      refine ⟨?_, q2, q3, q4, q5, q6⟩
      obtain ⟨t, ht, -⟩ := State.frames_cons hr
      show ({ U with heap := s₂.heap, slotsUsed := s₂.slotsUsed } : State) = { U.setFrames U.frames with heap := s₂.heap, slotsUsed := s₂.slotsUsed }
      rw [State.setFrames_self ht]
    subst hg
    refine Or.inl ⟨v, ⟨(({ U with heap := s₂.heap, slotsUsed := s₂.slotsUsed } : State).setVm s₂.vm), Ls ++ L, c0 + mc, s0 + ms⟩,
      ⟨X.admits, X.cas, X.clock, X.frames, X.room, X.hears, X.method, X.code, (X.here.setHeapUsed s₂.heap s₂.slotsUsed).setVm hW'.alike, X.tail, State.WarmedH.trans X.warmed hW', X.limits, X.bytes, X.same.trans (hsame.setVm s.vm)⟩,
      ⟨g, mk, s₂, L, rfl, rfl, hqc, rfl, hL, rfl, rfl⟩, ?_⟩
    show Steps p.tables e below _ ((({ U with heap := s₂.heap, slotsUsed := s₂.slotsUsed } : State).setVm s₂.vm).setTop { g with pc := g.pc + len₂, stack := v.toList ++ g.stack })
    rw [← hs₂]
    exact hsteps
  · obtain ⟨e2, q2, q3, q4, q5, q6⟩ := id hsm
    have e3 : s₂ = ({ (U.calling g mk a).setFrames s₂.frames with heap := s₂.heap, slotsUsed := s₂.slotsUsed } : State).setVm s₂.vm := by
      have : s₂ = ({ s₂ with vm := (U.calling g mk a).vm } : State).setVm s₂.vm := rfl
      rw [e2] at this
      exact this
    have hf₂ : s₂.frames = .throwing q :: .java g :: U.frames.tail := hend
    have hW' : U.WarmedH s₂.vm := hW₂
    have hs₂ : s₂ = ((({ U with heap := s₂.heap, slotsUsed := s₂.slotsUsed } : State).setVm s₂.vm).setTop g).pushFrame (.throwing q) := by
      refine e3.trans ?_
      rw [hf₂, State.calling_eq h.top, State.setFrames_setFrames, State.pushFrame, State.frames_setTop _ hr', State.setTop_of_frames _ hr', State.setFrames_setFrames, hr]
      rfl
    have hsame : U.sameButNew ({ U with heap := s₂.heap, slotsUsed := s₂.slotsUsed } : State) L mc ms := by
      refine ⟨?_, q2, q3, q4, q5, q6⟩
      obtain ⟨t, ht, -⟩ := State.frames_cons hr
      show ({ U with heap := s₂.heap, slotsUsed := s₂.slotsUsed } : State) = { U.setFrames U.frames with heap := s₂.heap, slotsUsed := s₂.slotsUsed }
      rw [State.setFrames_self ht]
    subst hg
    refine Or.inr ⟨q, ⟨(({ U with heap := s₂.heap, slotsUsed := s₂.slotsUsed } : State).setVm s₂.vm), Ls ++ L, c0 + mc, s0 + ms⟩,
      ⟨X.admits, X.cas, X.clock, X.frames, X.room, X.hears, X.method, X.code, (X.here.setHeapUsed s₂.heap s₂.slotsUsed).setVm hW'.alike, X.tail, State.WarmedH.trans X.warmed hW', X.limits, X.bytes, X.same.trans (hsame.setVm s.vm)⟩,
      ⟨g, mk, s₂, L, E, ce, rfl, rfl, hx, hce, hcv, hcl, rfl, hL, rfl, rfl⟩, ?_⟩
    show Steps p.tables e below _ (((({ U with heap := s₂.heap, slotsUsed := s₂.slotsUsed } : State).setVm s₂.vm).setTop g).pushFrame (.throwing q))
    rw [← hs₂]
    exact hsteps
end
variable {p : Program} {l : Launch} {e : Env} {R : Room} {s : State} {m : MethodId} {args : Array Value} {below : List Frame} {meth : Method} {c : Code} {T : State} {H : Heap} {locs : List Loc} {cells slots : Nat}
theorem vx_callVX (X : Stand p l e R s m args below meth c T locs cells slots) (hexec : p.tables.exec = Jvm.exec) {own C : String} {index : Nat} {y : MethodName} {bytes : ByteArray} {maxL : Nat} {ret : Option FieldType} {hh : List (Nat × Nat × Nat × Nat)}
    (hown : s.vm.findClass own = some m.cls) (hlink : (Cond.methodLink own index y).before args s = true) (hinst : (Cond.instanceMethod y).before args s = true) (hsel : (Cond.selects C y y).before args s = true)
    (hcode : (Cond.codeWith y bytes maxL ret hh).before args s = true) (hy : y.cls ≠ "java/lang/invoke/MethodHandle" ∧ y.cls ≠ "java/lang/invoke/VarHandle")
    {W9 : Nat} {Pre : Pt → Array Value → Prop} {Post : Pt → Array Value → Option Value → Pt → Prop} {PostX : Pt → Array Value → Addr → Pt → Prop} (hK : vx_Back l R p e below s args y 3 W9 Pre Post PostX)
    {b : Addr} {cellB : Cell} (hcell : T.heap[b]? = some cellB) (hobj : cellB.vm.isStatics = false) (hcls : s.vm.findClass C = some cellB.cls)
    {g : JFrame} (hg : g.method = m) (hsize : g.locals.size = c.maxLocals) {argsL rest : List Value} (hlen : ∀ sig, parseMethodDescriptor y.desc = some sig → argsL.length = sig.parameters.length)
    (hstack : g.stack = argsL.reverse ++ .ref b :: rest) (hW : 2 * g.monitorRoom + (rest.map fun v => v.category).sum ≤ W9) (hdg : decode c.code g.pc = .ok (.invokevirtual index, 3))
    (hpre : ∀ vm₁, s.WarmedH vm₁ → Pre ⟨T.setVm vm₁, locs, cells, slots⟩ (Value.ref b :: argsL).toArray) :
    (∃ (v : Option Value) (vm₁ : Vm) (B : Pt), s.WarmedH vm₁ ∧ Stand p l e R s m args below meth c B.U B.locs B.cells B.slots ∧ Post ⟨T.setVm vm₁, locs, cells, slots⟩ (Value.ref b :: argsL).toArray v B ∧
      ∀ target, Steps p.tables e below (B.U.setTop { g with pc := g.pc + 3, stack := v.toList ++ rest }) target → Steps p.tables e below (T.setTop g) target) ∨
    (∃ (q : Addr) (vm₁ : Vm) (B : Pt), s.WarmedH vm₁ ∧ Stand p l e R s m args below meth c B.U B.locs B.cells B.slots ∧ PostX ⟨T.setVm vm₁, locs, cells, slots⟩ (Value.ref b :: argsL).toArray q B ∧
      Steps p.tables e below (T.setTop g) ((B.U.setTop { g with stack := rest }).pushFrame (.throwing q))) := by
  obtain ⟨mk, methM, hnamed, hmethM, hstM, habM⟩ := Cond.instanceMethod_spec hinst
  obtain ⟨m8, methM', cM, hn8, hmethM', -, -, -, -, -, -, hsigM⟩ := Cond.codeWith_spec hcode
  cases Option.some.inj (hn8.symm.trans hnamed)
  cases hmethM.symm.trans hmethM'
  obtain ⟨c2, r2, m2, q1, q2, q3, q4, kP, hkP, hkPi⟩ := Cond.selects_spec hsel
  cases hcls.symm.trans q1
  cases (State.methodFound?_of_named hnamed hy).symm.trans q2
  cases hnamed.symm.trans q3
  have hselP : selectMethod e.platform s.vm cellB.cls mk = .method mk := by rw [Launch.admits_selectMethod X.admits]; exact q4
  obtain ⟨vm₁, X₁, hstep₁⟩ := X.invokevirtual hexec hown hlink hnamed hmethM hstM hkP hkPi hy (a := b) (cell := cellB) hcell
    (fun z h => by rw [h] at hobj; cases hobj) hselP hmethM habM hkP hkPi (g := g) hg (argsL := argsL) (rest := rest) (hlen _ hsigM) hstack hdg
  rcases hK m meth c ⟨T.setVm vm₁, locs, cells, slots⟩ { g with stack := rest } (.invokevirtual index) mk (Value.ref b :: argsL).toArray X₁ hg hsize hdg hW (X₁.named hnamed) (hpre vm₁ X₁.warmed) with ⟨v, B, X', hpost, hsteps⟩ | ⟨q, B, X', hpost, hsteps⟩
  · exact Or.inl ⟨v, vm₁, B, X₁.warmed, X', hpost, fun target h => hstep₁ _ fun acts => by rw [doInvoke_state]; exact hsteps.trans h⟩
  · exact Or.inr ⟨q, vm₁, B, X₁.warmed, X', hpost, hstep₁ _ fun acts => by rw [doInvoke_state]; exact hsteps⟩
theorem vx_callSX (X : Stand p l e R s m args below meth c T locs cells slots) (hexec : p.tables.exec = Jvm.exec) {own : String} {index : Nat} {y : MethodName} {bytes : ByteArray} {maxL : Nat} {ret : Option FieldType} {hh : List (Nat × Nat × Nat × Nat)}
    (hown : s.vm.findClass own = some m.cls) (hlink : (Cond.methodLink own index y).before args s = true) (hstat : (Cond.static y).before args s = true) (hinit : (Cond.initialized y.cls).before args s = true)
    (hcode : (Cond.codeWith y bytes maxL ret hh).before args s = true) (hy : y.cls ≠ "java/lang/invoke/MethodHandle" ∧ y.cls ≠ "java/lang/invoke/VarHandle")
    {W9 : Nat} {Pre : Pt → Array Value → Prop} {Post : Pt → Array Value → Option Value → Pt → Prop} {PostX : Pt → Array Value → Addr → Pt → Prop} (hK : vx_Back l R p e below s args y 3 W9 Pre Post PostX)
    {g : JFrame} (hg : g.method = m) (hsize : g.locals.size = c.maxLocals) {argsL rest : List Value} (hlen : ∀ sig, parseMethodDescriptor y.desc = some sig → argsL.length = sig.parameters.length)
    (hstack : g.stack = argsL.reverse ++ rest) (hW : 2 * g.monitorRoom + (rest.map fun v => v.category).sum ≤ W9) (hdg : decode c.code g.pc = .ok (.invokestatic index, 3))
    (hpre : ∀ vm₁, s.WarmedH vm₁ → Pre ⟨T.setVm vm₁, locs, cells, slots⟩ argsL.toArray) :
    (∃ (v : Option Value) (vm₁ : Vm) (B : Pt), s.WarmedH vm₁ ∧ Stand p l e R s m args below meth c B.U B.locs B.cells B.slots ∧ Post ⟨T.setVm vm₁, locs, cells, slots⟩ argsL.toArray v B ∧
      ∀ target, Steps p.tables e below (B.U.setTop { g with pc := g.pc + 3, stack := v.toList ++ rest }) target → Steps p.tables e below (T.setTop g) target) ∨
    (∃ (q : Addr) (vm₁ : Vm) (B : Pt), s.WarmedH vm₁ ∧ Stand p l e R s m args below meth c B.U B.locs B.cells B.slots ∧ PostX ⟨T.setVm vm₁, locs, cells, slots⟩ argsL.toArray q B ∧
      Steps p.tables e below (T.setTop g) ((B.U.setTop { g with stack := rest }).pushFrame (.throwing q))) := by
  obtain ⟨mk, methM, cM, hnamed, hmethM, -, -, -, -, -, -, hsigM⟩ := Cond.codeWith_spec hcode
  have hstatic : methM.isStatic = true := Cond.static_spec hnamed hmethM hstat
  obtain ⟨kP, hkP, -⟩ := className_of_methodNamed hnamed
  have hinitP : kP.init = .initialized := Cond.initialized_spec (findClass_of_methodNamed hnamed) hkP hinit
  obtain ⟨vm₁, X₁, hstep₁⟩ := X.invokestatic hexec hown hlink hnamed hmethM hstatic hkP hinitP hy (g := g) hg (argsL := argsL) (rest := rest) (hlen _ hsigM) hstack hdg
  rcases hK m meth c ⟨T.setVm vm₁, locs, cells, slots⟩ { g with stack := rest } (.invokestatic index) mk argsL.toArray X₁ hg hsize hdg hW (X₁.named hnamed) (hpre vm₁ X₁.warmed) with ⟨v, B, X', hpost, hsteps⟩ | ⟨q, B, X', hpost, hsteps⟩
  · exact Or.inl ⟨v, vm₁, B, X₁.warmed, X', hpost, fun target h => hstep₁ _ fun acts => by rw [doInvoke_state]; exact hsteps.trans h⟩
  · exact Or.inr ⟨q, vm₁, B, X₁.warmed, X', hpost, hstep₁ _ fun acts => by rw [doInvoke_state]; exact hsteps⟩
theorem vx_callVW (X : Stand p l e R s m args below meth c T locs cells slots) (hexec : p.tables.exec = Jvm.exec) {own C : String} {index : Nat} {y : MethodName} {bytes : ByteArray} {maxL : Nat} {ret : Option FieldType} {hh : List (Nat × Nat × Nat × Nat)}
    (hown : s.vm.findClass own = some m.cls) (hlink : (Cond.methodLink own index y).before args s = true) (hinst : (Cond.instanceMethod y).before args s = true) (hsel : (Cond.selects C y y).before args s = true)
    (hcode : (Cond.codeWith y bytes maxL ret hh).before args s = true) (hy : y.cls ≠ "java/lang/invoke/MethodHandle" ∧ y.cls ≠ "java/lang/invoke/VarHandle")
    {W9 : Nat} {Pre : Pt → Array Value → Prop} {Post : Pt → Array Value → Option Value → Pt → Prop} (hK : Back l R p e below s args y 3 W9 Pre Post)
    {b : Addr} {cellB : Cell} (hcell : T.heap[b]? = some cellB) (hobj : cellB.vm.isStatics = false) (hcls : s.vm.findClass C = some cellB.cls)
    {g : JFrame} (hg : g.method = m) (hsize : g.locals.size = c.maxLocals) {argsL rest : List Value} (hlen : ∀ sig, parseMethodDescriptor y.desc = some sig → argsL.length = sig.parameters.length)
    (hstack : g.stack = argsL.reverse ++ .ref b :: rest) (hW : 2 * g.monitorRoom + (rest.map fun v => v.category).sum ≤ W9) (hdg : decode c.code g.pc = .ok (.invokevirtual index, 3))
    (hpre : ∀ vm₁, s.WarmedH vm₁ → Pre ⟨T.setVm vm₁, locs, cells, slots⟩ (Value.ref b :: argsL).toArray) :
    ∃ (v : Option Value) (vm₁ : Vm) (B : Pt), s.WarmedH vm₁ ∧ Stand p l e R s m args below meth c B.U B.locs B.cells B.slots ∧ Post ⟨T.setVm vm₁, locs, cells, slots⟩ (Value.ref b :: argsL).toArray v B ∧
      ∀ target, Steps p.tables e below (B.U.setTop { g with pc := g.pc + 3, stack := v.toList ++ rest }) target → Steps p.tables e below (T.setTop g) target := by
  obtain ⟨mk, methM, hnamed, hmethM, hstM, habM⟩ := Cond.instanceMethod_spec hinst
  obtain ⟨m8, methM', cM, hn8, hmethM', -, -, -, -, -, -, hsigM⟩ := Cond.codeWith_spec hcode
  cases Option.some.inj (hn8.symm.trans hnamed)
  cases hmethM.symm.trans hmethM'
  obtain ⟨c2, r2, m2, q1, q2, q3, q4, kP, hkP, hkPi⟩ := Cond.selects_spec hsel
  cases hcls.symm.trans q1
  cases (State.methodFound?_of_named hnamed hy).symm.trans q2
  cases hnamed.symm.trans q3
  have hselP : selectMethod e.platform s.vm cellB.cls mk = .method mk := by rw [Launch.admits_selectMethod X.admits]; exact q4
  obtain ⟨vm₁, X₁, hstep₁⟩ := X.invokevirtual hexec hown hlink hnamed hmethM hstM hkP hkPi hy (a := b) (cell := cellB) hcell
    (fun z h => by rw [h] at hobj; cases hobj) hselP hmethM habM hkP hkPi (g := g) hg (argsL := argsL) (rest := rest) (hlen _ hsigM) hstack hdg
  obtain ⟨v, B, X', hpost, hsteps⟩ := hK m meth c ⟨T.setVm vm₁, locs, cells, slots⟩ { g with stack := rest } (.invokevirtual index) mk (Value.ref b :: argsL).toArray X₁ hg hsize hdg hW (X₁.named hnamed) (hpre vm₁ X₁.warmed)
  exact ⟨v, vm₁, B, X₁.warmed, X', hpost, fun target h => hstep₁ _ fun acts => by rw [doInvoke_state]; exact hsteps.trans h⟩
abbrev vx_CVW (R : Room) (s : State) (args : Array Value) (own C : String) (index : Nat) (y : MethodName) (bytes : ByteArray) (maxL : Nat) (ret : Option FieldType) (hh : List (Nat × Nat × Nat × Nat)) (ws : List Cond) (rm : Room) (mc ms n : Nat) : Prop :=
  (rm.cells = mc ∧ rm.slots = ms ∧ rm.frames + 1 ≤ R.frames ∧ 8 + (maxL + 11) + rm.locals ≤ R.locals ∧ (∀ w ∈ ws, ∀ (a' : Array Value) (U : State), s.WarmedH U.vm → w.before a' U = true) ∧ Cond.codeWith y bytes maxL ret hh ∈ ws) ∧
  (Cond.codeWith y bytes maxL ret hh).before args s = true ∧ (Cond.initialized y.cls).before args s = true ∧ (y.cls ≠ "java/lang/invoke/MethodHandle" ∧ y.cls ≠ "java/lang/invoke/VarHandle") ∧
  (∀ sig, parseMethodDescriptor y.desc = some sig → n = sig.parameters.length) ∧ (Cond.methodLink own index y).before args s = true ∧ (Cond.instanceMethod y).before args s = true ∧ (Cond.selects C y y).before args s = true
theorem vx_cwVW {own C : String} {index maxL mc ms : Nat} {y : MethodName} {bytes : ByteArray} {ret : Option FieldType} {hh : List (Nat × Nat × Nat × Nat)} {Ts ws ws' : List Cond} {rm : Room} (n : Nat) (ht : ∀ w ∈ Ts, w.before args s = true) (hT : GoodIn Ts (wsV own index C y ws)) (hw : ws = Cond.codeWith y bytes maxL ret hh :: ws') (hrc : rm.cells = mc) (hrs : rm.slots = ms)
    (hd : y.cls = C ∧ y.cls ≠ "java/lang/invoke/MethodHandle" ∧ y.cls ≠ "java/lang/invoke/VarHandle" ∧ (parseMethodDescriptor y.desc).map (fun d => d.parameters.length) = some n) (hR : rm.frames + 1 ≤ R.frames ∧ 8 + (maxL + 11) + rm.locals ≤ R.locals) :
    vx_CVW R s args own C index y bytes maxL ret hh ws rm mc ms n := by
  obtain ⟨hC, hd⟩ := hd
  subst hC
  have ok : ∀ w ∈ wsV own index y.cls y ws, w.before args s = true := fun w h => ht w (hT w h).1
  have hG : GoodIn Ts ws := fun w h => hT w (by unfold wsV; exact List.mem_append_right _ h)
  have hc : Cond.codeWith y bytes maxL ret hh ∈ ws := by rw [hw]; exact List.mem_cons_self
  refine ⟨⟨hrc, hrs, hR.1, hR.2, pay_in ht hG, hc⟩, ht _ (hG _ hc).1, ok _ (by simp [wsV]), ⟨hd.1, hd.2.1⟩, fun sig h => ?_, ok _ (by simp [wsV]), ok _ (by simp [wsV]), ok _ (by simp [wsV])⟩
  have h2 := hd.2.2
  rw [h] at h2
  exact (Option.some.inj h2).symm
theorem vx_runVW {y : MethodName} {bytes cc : ByteArray} {maxL nL mc ms n index : Nat} {ret : Option FieldType} {hh : List (Nat × Nat × Nat × Nat)} {ws : List Cond} {rm : Room} {Pc : Array Value → State → Prop} {Qc : Array Value → State → Outcome → State → Prop} {free : Addr → Prop} {Ts : List Cond} {own C : String} {b : Addr} {As rest : List Value} {g : JFrame}
    (S : CallFix p m c cc nL s args Ts own) (hM : Met l y ws rm Pc Qc mc ms free) (cw : vx_CVW R s args own C index y bytes maxL ret hh ws rm mc ms n) (hp : PreV s H C b Pc As)
    (hg : g.method = m) (hn : As.length = n) (hsize : g.locals.size = nL) (hstack : g.stack = As.reverse ++ .ref b :: rest) (hW : 2 * g.monitorRoom + (rest.map fun v => v.category).sum ≤ 8) (hdg : decode cc g.pc = .ok (.invokevirtual index, 3)) (hf : cells + mc ≤ R.cells ∧ slots + ms ≤ R.slots) :
    va_Run p l e R s m args below meth c H locs cells slots mc ms g rest (Qc (Value.ref b :: As).toArray) free := by
  obtain ⟨⟨hrc, hrs, hfr, hlo, hws, hcw⟩, hcode, hini, hy, hlen, hl, hin, hse⟩ := cw
  have hK : Back l R p e below s args y 3 8 (PreOf R mc ms Pc) (PostOf Qc mc ms free) := va_backW (hh := hh) (bytes := bytes) (maxL := maxL) (ret := ret) hM hp.1 hrc hrs hfr hlo hws hcw (fun a' U hW => word_at hW (Or.inl (by first | rfl | simp [Cond.onTables, Cond.keeps, Cond.steady])) hini)
  obtain ⟨hx, hb, hml, ho, -⟩ := S
  obtain ⟨-, ⟨cellB, hcB, hoB, hclB⟩, hPc⟩ := hp
  intro T hT X
  obtain ⟨v, vm₁, ⟨U', l2, c2, s2⟩, hW₁, X', ⟨g', mk, t, L, e1, e2, hq, h1, hL, h2, h3⟩, st⟩ := vx_callVW X hx (C := C) (hh := hh) (bytes := bytes) (maxL := maxL) (ret := ret) ho hl hin hse hcode hy hK (by rw [hT]; exact hcB) hoB hclB hg (hsize.trans hml.symm) (argsL := As) (rest := rest) (fun sig h => hn.trans (hlen sig h)) hstack hW (by rw [hb]; exact hdg)
    (fun vm₁ hW₁ => ⟨hf.1, hf.2, hPc (T.setVm vm₁) hT hW₁⟩)
  dsimp only [Pt.U, Pt.locs, Pt.cells, Pt.slots] at X' e1 e2 h1 h2 h3 st
  subst h1; subst h2; subst h3
  exact ⟨v, (T.setVm vm₁).calling g' mk (Value.ref b :: As).toArray, t, U', L, hT, X', hL, e1, e2, hq, st⟩
section
variable {y : MethodName} {bytes cc : ByteArray} {maxL nL mc ms n index : Nat} {ret : Option FieldType} {ws : List Cond} {rm : Room} {Pc : Array Value → State → Prop} {Qc : Array Value → State → Outcome → State → Prop} {XC : String → State → State → Prop} {free : Addr → Prop} {Ts : List Cond} {own C : String} {b : Addr} {As rest : List Value} {g : JFrame}
theorem vx_runVX {hh : List (Nat × Nat × Nat × Nat)} (S : CallFix p m c cc nL s args Ts own) (hM : vx_Met l y ws rm Pc Qc XC mc ms free) (cw : vx_CVW R s args own C index y bytes maxL ret hh ws rm mc ms n) (hp : PreV s H C b Pc As)
    (hg : g.method = m) (hn : As.length = n) (hsize : g.locals.size = nL) (hstack : g.stack = As.reverse ++ .ref b :: rest) (hW : 2 * g.monitorRoom + (rest.map fun v => v.category).sum ≤ 8) (hdg : decode cc g.pc = .ok (.invokevirtual index, 3)) (hf : cells + mc ≤ R.cells ∧ slots + ms ≤ R.slots) :
    vx_Run p l e R s m args below meth c H locs cells slots mc ms g rest (Qc (Value.ref b :: As).toArray) XC free := by
  obtain ⟨⟨hrc, hrs, hfr, hlo, hws, hcw⟩, hcode, hini, hy, hlen, hl, hin, hse⟩ := cw
  have hK : vx_Back l R p e below s args y 3 8 (PreOf R mc ms Pc) (PostOf Qc mc ms free) (vx_Post XC mc ms free) := vx_backW (hh := hh) (bytes := bytes) (maxL := maxL) (ret := ret) hM hp.1 hrc hrs hfr hlo hws hcw (fun a' U hW => word_at hW (Or.inl (by first | rfl | simp [Cond.onTables, Cond.keeps, Cond.steady])) hini)
  obtain ⟨hx, hb, hml, ho, -⟩ := S
  obtain ⟨-, ⟨cellB, hcB, hoB, hclB⟩, hPc⟩ := hp
  intro T hT X
  rcases vx_callVX X hx (C := C) (hh := hh) (bytes := bytes) (maxL := maxL) (ret := ret) ho hl hin hse hcode hy hK (by rw [hT]; exact hcB) hoB hclB hg (hsize.trans hml.symm) (argsL := As) (rest := rest) (fun sig h => hn.trans (hlen sig h)) hstack hW (by rw [hb]; exact hdg)
    (fun vm₁ hW₁ => ⟨hf.1, hf.2, hPc (T.setVm vm₁) hT hW₁⟩) with ⟨v, vm₁, ⟨U', l2, c2, s2⟩, hW₁, X', ⟨g', mk, t, L, e1, e2, hq, h1, hL, h2, h3⟩, st⟩ | ⟨q, vm₁, ⟨U', l2, c2, s2⟩, hW₁, X', ⟨g', mk, t, L, E, ce, e1, e2, hq, hce, hcv, hcl, h1, hL, h2, h3⟩, st⟩
  · dsimp only [Pt.U, Pt.locs, Pt.cells, Pt.slots] at X' e1 e2 h1 h2 h3 st
    subst h1; subst h2; subst h3
    exact Or.inl ⟨v, (T.setVm vm₁).calling g' mk (Value.ref b :: As).toArray, t, U', L, hT, X', hL, e1, e2, hq, st⟩
  · dsimp only [Pt.U, Pt.locs, Pt.cells, Pt.slots] at X' e1 e2 h1 h2 h3 st hcl
    subst h1; subst h2; subst h3
    exact Or.inr ⟨q, (T.setVm vm₁).calling g' mk (Value.ref b :: As).toArray, t, U', L, E, ce, hT, X', hL, e1, e2, hq, hce, hcv, vx_cls hW₁ hcl, st⟩
theorem vx_runSX {hh : List (Nat × Nat × Nat × Nat)} (S : CallFix p m c cc nL s args Ts own) (hM : vx_Met l y ws rm Pc Qc XC mc ms free) (cw : vx_CSW R s args own index y bytes maxL ret hh ws rm mc ms n) (hp : PreS s H Pc As)
    (hg : g.method = m) (hn : As.length = n) (hsize : g.locals.size = nL) (hstack : g.stack = As.reverse ++ rest) (hW : 2 * g.monitorRoom + (rest.map fun v => v.category).sum ≤ 8) (hdg : decode cc g.pc = .ok (.invokestatic index, 3)) (hf : cells + mc ≤ R.cells ∧ slots + ms ≤ R.slots) :
    vx_Run p l e R s m args below meth c H locs cells slots mc ms g rest (Qc As.toArray) XC free := by
  obtain ⟨⟨hrc, hrs, hfr, hlo, hws, hcw⟩, hcode, hini, hy, hlen, hl, hstt⟩ := cw
  have hK : vx_Back l R p e below s args y 3 8 (PreOf R mc ms Pc) (PostOf Qc mc ms free) (vx_Post XC mc ms free) := vx_backW (hh := hh) (bytes := bytes) (maxL := maxL) (ret := ret) hM hp.1 hrc hrs hfr hlo hws hcw (fun a' U hW => word_at hW (Or.inl (by first | rfl | simp [Cond.onTables, Cond.keeps, Cond.steady])) hini)
  obtain ⟨hx, hb, hml, ho, -⟩ := S
  intro T hT X
  rcases vx_callSX X hx (hh := hh) (bytes := bytes) (maxL := maxL) (ret := ret) ho hl hstt hini hcode hy hK hg (hsize.trans hml.symm) (argsL := As) (rest := rest) (fun sig h => hn.trans (hlen sig h)) hstack hW (by rw [hb]; exact hdg)
    (fun vm₁ hW₁ => ⟨hf.1, hf.2, hp.2 (T.setVm vm₁) hT hW₁⟩) with ⟨v, vm₁, ⟨U', l2, c2, s2⟩, hW₁, X', ⟨g', mk, t, L, e1, e2, hq, h1, hL, h2, h3⟩, st⟩ | ⟨q, vm₁, ⟨U', l2, c2, s2⟩, hW₁, X', ⟨g', mk, t, L, E, ce, e1, e2, hq, hce, hcv, hcl, h1, hL, h2, h3⟩, st⟩
  · dsimp only [Pt.U, Pt.locs, Pt.cells, Pt.slots] at X' e1 e2 h1 h2 h3 st
    subst h1; subst h2; subst h3
    exact Or.inl ⟨v, (T.setVm vm₁).calling g' mk As.toArray, t, U', L, hT, X', hL, e1, e2, hq, st⟩
  · dsimp only [Pt.U, Pt.locs, Pt.cells, Pt.slots] at X' e1 e2 h1 h2 h3 st hcl
    subst h1; subst h2; subst h3
    exact Or.inr ⟨q, (T.setVm vm₁).calling g' mk As.toArray, t, U', L, E, ce, hT, X', hL, e1, e2, hq, hce, hcv, vx_cls hW₁ hcl, st⟩
end
end VXH
theorem vx_ofWH {l : Launch} {y : MethodName} {ws ws' : List Cond} {rm : Room} {Pc : Array Value → State → Prop} {Qc : Array Value → State → Outcome → State → Prop} {XC : String → State → State → Prop} {mc ms : Nat} {free : Addr → Prop} {cc : ByteArray} {maxL : Nat} {ret : Option FieldType} {hh : List (Nat × Nat × Nat × Nat)}
    (hy : plainName y.cls = true) (hw : ws = Cond.codeWith y cc maxL ret hh :: ws')
    (body : ∀ p e s m args below meth c s₁, BodyLoose p l y (headSpec ws rm) cc maxL ret e s m args below meth c s₁ → c.maxLocals = maxL → Pc args s →
      W p l e (headSpec ws rm).room s m args below meth c s.heap [] 0 0 (vx_MQ below Qc XC args s mc ms free) (entryFrame m args maxL)) : vx_Met l y ws rm Pc Qc XC mc ms free := by
  refine MetFree.of_bodyS (code := cc) (maxLocals := maxL) (ret := ret) hy ?_ ?_
  · intro args s m h hn
    obtain ⟨m9, meth, c, hn9, h1, h2, h3, h4, -, h5, h6, -⟩ := Cond.codeWith_spec (atoms_spec (ws := ws) h _ (by rw [hw]; exact List.mem_cons_self))
    cases hn.symm.trans hn9
    exact ⟨meth, c, h1, h2, h3, h4, h5, h6⟩
  · intro p e s m args below meth c s₁ B hml hP _
    have hh0 : s₁.heap = s.heap := by rw [B.state]; rfl
    obtain ⟨t, a1, o, b1, b2, b3⟩ := body p e s m args below meth c s₁ B hml hP s₁ hh0 (Stand.of_body B)
    exact ⟨t, o, a1, b1, b2, b3⟩
/-! ===== END ===== -/
end
section
/-! ===== BEGIN printed: names, fields, word lists, decode rows ===== -/
def RX0 : String := "SaltMarket$Game"
def TX0 : u_T := fun k => match k with
  | 0 => ("SaltMarket$Game", "players", "[LSaltMarket$Player;", true)
  | 1 => ("SaltMarket$Game", "places", "[LSaltMarket$Place;", true)
  | 2 => ("SaltMarket$Game", "prices", "[I", true)
  | 3 => ("SaltMarket$Game", "settings", "[I", true)
  | 4 => ("SaltMarket$Game", "count", "I", false)
  | 5 => ("SaltMarket$Game", "turn", "I", false)
  | 6 => ("SaltMarket$Game", "first", "I", false)
  | 7 => ("SaltMarket$Game", "weather", "I", false)
  | 8 => ("SaltMarket$Game", "ended", "I", false)
  | 9 => ("SaltMarket$Game", "bumpings", "I", false)
  | 10 => ("SaltMarket$Game", "lost", "I", false)
  | 11 => ("SaltMarket$Game", "x", "J", false)
  | 12 => ("SaltMarket$Game", "after", "LSaltMarket$Player;", true)
  | 13 => ("SaltMarket$Game", "bestWorth", "I", false)
  | 14 => ("SaltMarket$Game", "bestPlace", "I", false)
  | _ => ("SaltMarket$Game", "bestChoice", "I", false)
def tyX0 : Nat → FieldType := fun k => match k with
  | 0 => .array (.object "SaltMarket$Player")
  | 1 => .array (.object "SaltMarket$Place")
  | 2 => .array .int
  | 3 => .array .int
  | 4 => .int
  | 5 => .int
  | 6 => .int
  | 7 => .int
  | 8 => .int
  | 9 => .int
  | 10 => .int
  | 11 => .long
  | 12 => .object "SaltMarket$Player"
  | 13 => .int
  | 14 => .int
  | _ => .int
abbrev wsX00 : List Cond := u_ws RX0 TX0 16
theorem nmX0 : ∀ a, a < 16 → ∀ b, b < 16 → a ≠ b → (TX0 a).2.1 ≠ (TX0 b).2.1 := by decide +kernel
theorem tyX0_ok : ∀ k, k < 16 → parseFieldDescriptor (TX0 k).2.2.1 = some (tyX0 k) := by decide +kernel
abbrev cX0_init : ByteArray := prog_2_method_1_code
def yX0_init : MethodName := ⟨RX0, "<init>", "()V"⟩
abbrev cX0_clearAll : ByteArray := prog_2_method_2_code
def yX0_clearAll : MethodName := ⟨RX0, "clearAll", "()V"⟩
abbrev cX0_startGame : ByteArray := prog_2_method_3_code
def yX0_startGame : MethodName := ⟨RX0, "startGame", "(IJ)V"⟩
abbrev cX0_copyFrom : ByteArray := prog_2_method_4_code
def yX0_copyFrom : MethodName := ⟨RX0, "copyFrom", "(LSaltMarket$Game;)V"⟩
abbrev cX0_hasPlayer : ByteArray := prog_2_method_5_code
def yX0_hasPlayer : MethodName := ⟨RX0, "hasPlayer", "(I)Z"⟩
abbrev cX0_hasTurn : ByteArray := prog_2_method_6_code
def yX0_hasTurn : MethodName := ⟨RX0, "hasTurn", "()Z"⟩
abbrev cX0_whoseTurn : ByteArray := prog_2_method_7_code
def yX0_whoseTurn : MethodName := ⟨RX0, "whoseTurn", "()I"⟩
abbrev cX0_number : ByteArray := prog_2_method_8_code
def yX0_number : MethodName := ⟨RX0, "number", "(I)I"⟩
abbrev cX0_countPlaced : ByteArray := prog_2_method_9_code
def yX0_countPlaced : MethodName := ⟨RX0, "countPlaced", "()I"⟩
abbrev cX0_sumOfTotals : ByteArray := prog_2_method_10_code
def yX0_sumOfTotals : MethodName := ⟨RX0, "sumOfTotals", "()I"⟩
abbrev cX0_findLeader : ByteArray := prog_2_method_11_code
def yX0_findLeader : MethodName := ⟨RX0, "findLeader", "()I"⟩
abbrev cX0_findBumped : ByteArray := prog_2_method_12_code
def yX0_findBumped : MethodName := ⟨RX0, "findBumped", "(I)I"⟩
abbrev cX0_tryPlacing : ByteArray := prog_2_method_13_code
def yX0_tryPlacing : MethodName := ⟨RX0, "tryPlacing", "(II)Z"⟩
abbrev cX0_putWorker : ByteArray := prog_2_method_14_code
def yX0_putWorker : MethodName := ⟨RX0, "putWorker", "(II)Z"⟩
abbrev cX0_worth : ByteArray := prog_2_method_15_code
def yX0_worth : MethodName := ⟨RX0, "worth", "(II)I"⟩
abbrev cX0_worthOfTried : ByteArray := prog_2_method_16_code
def yX0_worthOfTried : MethodName := ⟨RX0, "worthOfTried", "()I"⟩
abbrev cX0_findBest : ByteArray := prog_2_method_17_code
def yX0_findBest : MethodName := ⟨RX0, "findBest", "()Z"⟩
abbrev cX0_passTurn : ByteArray := prog_2_method_18_code
def yX0_passTurn : MethodName := ⟨RX0, "passTurn", "()Z"⟩
abbrev cX0_playTurn : ByteArray := prog_2_method_19_code
def yX0_playTurn : MethodName := ⟨RX0, "playTurn", "()I"⟩
abbrev cX0_playToEnd : ByteArray := prog_2_method_20_code
def yX0_playToEnd : MethodName := ⟨RX0, "playToEnd", "()V"⟩
abbrev cX0_lossOf : ByteArray := prog_2_method_21_code
def yX0_lossOf : MethodName := ⟨RX0, "lossOf", "(II)I"⟩
abbrev cX0_playerBehind : ByteArray := prog_2_method_22_code
def yX0_playerBehind : MethodName := ⟨RX0, "playerBehind", "(I)I"⟩
abbrev cX0_endTurn : ByteArray := prog_2_method_23_code
def yX0_endTurn : MethodName := ⟨RX0, "endTurn", "()V"⟩
abbrev cX0_endRound : ByteArray := prog_2_method_24_code
def yX0_endRound : MethodName := ⟨RX0, "endRound", "()V"⟩
def RX1 : String := "SaltMarket$History"
def TX1 : u_T := fun k => match k with
  | 0 => ("SaltMarket$History", "states", "[LSaltMarket$Game;", true)
  | 1 => ("SaltMarket$History", "count", "I", false)
  | _ => ("SaltMarket$History", "next", "I", false)
def tyX1 : Nat → FieldType := fun k => match k with
  | 0 => .array (.object "SaltMarket$Game")
  | 1 => .int
  | _ => .int
abbrev wsX10 : List Cond := u_ws RX1 TX1 3
theorem nmX1 : ∀ a, a < 3 → ∀ b, b < 3 → a ≠ b → (TX1 a).2.1 ≠ (TX1 b).2.1 := by decide +kernel
theorem tyX1_ok : ∀ k, k < 3 → parseFieldDescriptor (TX1 k).2.2.1 = some (tyX1 k) := by decide +kernel
abbrev cX1_init : ByteArray := prog_3_method_1_code
def yX1_init : MethodName := ⟨RX1, "<init>", "()V"⟩
abbrev cX1_forget : ByteArray := prog_3_method_2_code
def yX1_forget : MethodName := ⟨RX1, "forget", "()V"⟩
abbrev cX1_remember : ByteArray := prog_3_method_3_code
def yX1_remember : MethodName := ⟨RX1, "remember", "(LSaltMarket$Game;)V"⟩
abbrev cX1_takeBack : ByteArray := prog_3_method_4_code
def yX1_takeBack : MethodName := ⟨RX1, "takeBack", "(LSaltMarket$Game;)V"⟩
def RX2 : String := "SaltMarket$Place"
def TX2 : u_T := fun k => match k with
  | 0 => ("SaltMarket$Place", "owners", "[I", true)
  | _ => ("SaltMarket$Place", "count", "I", false)
def tyX2 : Nat → FieldType := fun k => match k with
  | 0 => .array .int
  | _ => .int
abbrev wsX20 : List Cond := u_ws RX2 TX2 2
theorem nmX2 : ∀ a, a < 2 → ∀ b, b < 2 → a ≠ b → (TX2 a).2.1 ≠ (TX2 b).2.1 := by decide +kernel
theorem tyX2_ok : ∀ k, k < 2 → parseFieldDescriptor (TX2 k).2.2.1 = some (tyX2 k) := by decide +kernel
abbrev cX2_init : ByteArray := prog_4_method_1_code
def yX2_init : MethodName := ⟨RX2, "<init>", "()V"⟩
abbrev cX2_copyFrom : ByteArray := prog_4_method_2_code
def yX2_copyFrom : MethodName := ⟨RX2, "copyFrom", "(LSaltMarket$Place;)V"⟩
abbrev cX2_ownerAt : ByteArray := prog_4_method_3_code
def yX2_ownerAt : MethodName := ⟨RX2, "ownerAt", "(I)I"⟩
abbrev cX2_findOther : ByteArray := prog_4_method_4_code
def yX2_findOther : MethodName := ⟨RX2, "findOther", "(I)I"⟩
abbrev cX2_add : ByteArray := prog_4_method_5_code
def yX2_add : MethodName := ⟨RX2, "add", "(I)V"⟩
abbrev cX2_remove : ByteArray := prog_4_method_6_code
def yX2_remove : MethodName := ⟨RX2, "remove", "(I)V"⟩
def RX3 : String := "SaltMarket$Player"
def TX3 : u_T := fun k => match k with
  | 0 => ("SaltMarket$Player", "goods", "[I", true)
  | 1 => ("SaltMarket$Player", "coins", "I", false)
  | 2 => ("SaltMarket$Player", "room", "I", false)
  | 3 => ("SaltMarket$Player", "workers", "I", false)
  | 4 => ("SaltMarket$Player", "hand", "I", false)
  | _ => ("SaltMarket$Player", "passed", "Z", false)
def tyX3 : Nat → FieldType := fun k => match k with
  | 0 => .array .int
  | 1 => .int
  | 2 => .int
  | 3 => .int
  | 4 => .int
  | _ => .boolean
abbrev wsX30 : List Cond := u_ws RX3 TX3 6
theorem nmX3 : ∀ a, a < 6 → ∀ b, b < 6 → a ≠ b → (TX3 a).2.1 ≠ (TX3 b).2.1 := by decide +kernel
theorem tyX3_ok : ∀ k, k < 6 → parseFieldDescriptor (TX3 k).2.2.1 = some (tyX3 k) := by decide +kernel
abbrev cX3_init : ByteArray := prog_5_method_1_code
def yX3_init : MethodName := ⟨RX3, "<init>", "()V"⟩
abbrev cX3_clear : ByteArray := prog_5_method_2_code
def yX3_clear : MethodName := ⟨RX3, "clear", "()V"⟩
abbrev cX3_startRound : ByteArray := prog_5_method_3_code
def yX3_startRound : MethodName := ⟨RX3, "startRound", "()V"⟩
abbrev cX3_copyFrom : ByteArray := prog_5_method_4_code
def yX3_copyFrom : MethodName := ⟨RX3, "copyFrom", "(LSaltMarket$Player;)V"⟩
abbrev cX3_number : ByteArray := prog_5_method_5_code
def yX3_number : MethodName := ⟨RX3, "number", "(I)I"⟩
abbrev cX3_total : ByteArray := prog_5_method_6_code
def yX3_total : MethodName := ⟨RX3, "total", "()I"⟩
abbrev cX3_isReady : ByteArray := prog_5_method_7_code
def yX3_isReady : MethodName := ⟨RX3, "isReady", "()Z"⟩
abbrev cX3_pay : ByteArray := prog_5_method_8_code
def yX3_pay : MethodName := ⟨RX3, "pay", "(I)Z"⟩
abbrev cX3_give : ByteArray := prog_5_method_9_code
def yX3_give : MethodName := ⟨RX3, "give", "(II)Z"⟩
abbrev cX3_gain : ByteArray := prog_5_method_10_code
def yX3_gain : MethodName := ⟨RX3, "gain", "(II)V"⟩
abbrev cX3_weave : ByteArray := prog_5_method_11_code
def yX3_weave : MethodName := ⟨RX3, "weave", "(I)Z"⟩
abbrev cX3_sell : ByteArray := prog_5_method_12_code
def yX3_sell : MethodName := ⟨RX3, "sell", "(III)Z"⟩
abbrev cX3_hire : ByteArray := prog_5_method_13_code
def yX3_hire : MethodName := ⟨RX3, "hire", "()Z"⟩
abbrev cX3_buildRoom : ByteArray := prog_5_method_14_code
def yX3_buildRoom : MethodName := ⟨RX3, "buildRoom", "()Z"⟩
abbrev cX3_loseGoods : ByteArray := prog_5_method_15_code
def yX3_loseGoods : MethodName := ⟨RX3, "loseGoods", "(I)I"⟩
def RX4 : String := "SaltMarket$Text"
def TX4 : u_T := fun k => match k with
  | 0 => ("SaltMarket$Text", "signs", "[C", true)
  | _ => ("SaltMarket$Text", "length", "I", false)
def tyX4 : Nat → FieldType := fun k => match k with
  | 0 => .array .char
  | _ => .int
abbrev wsX40 : List Cond := u_ws RX4 TX4 2
theorem nmX4 : ∀ a, a < 2 → ∀ b, b < 2 → a ≠ b → (TX4 a).2.1 ≠ (TX4 b).2.1 := by decide +kernel
theorem tyX4_ok : ∀ k, k < 2 → parseFieldDescriptor (TX4 k).2.2.1 = some (tyX4 k) := by decide +kernel
abbrev cX4_init : ByteArray := prog_6_method_1_code
def yX4_init : MethodName := ⟨RX4, "<init>", "()V"⟩
abbrev cX4_add : ByteArray := prog_6_method_2_code
def yX4_add : MethodName := ⟨RX4, "add", "(C)Z"⟩
abbrev cX4_signAt : ByteArray := prog_6_method_3_code
def yX4_signAt : MethodName := ⟨RX4, "signAt", "(I)C"⟩
abbrev cX4_isBetween : ByteArray := prog_6_method_4_code
def yX4_isBetween : MethodName := ⟨RX4, "isBetween", "(ICC)Z"⟩
abbrev cX4_digitAt : ByteArray := prog_6_method_5_code
def yX4_digitAt : MethodName := ⟨RX4, "digitAt", "(I)I"⟩
abbrev cX4_findFault : ByteArray := prog_6_method_6_code
def yX4_findFault : MethodName := ⟨RX4, "findFault", "()I"⟩
abbrev cX4_findMoveFault : ByteArray := prog_6_method_7_code
def yX4_findMoveFault : MethodName := ⟨RX4, "findMoveFault", "(I)I"⟩
abbrev cX4_players : ByteArray := prog_6_method_8_code
def yX4_players : MethodName := ⟨RX4, "players", "()I"⟩
abbrev cX4_seed : ByteArray := prog_6_method_9_code
def yX4_seed : MethodName := ⟨RX4, "seed", "()I"⟩
abbrev cX4_moveLength : ByteArray := prog_6_method_10_code
def yX4_moveLength : MethodName := ⟨RX4, "moveLength", "(I)I"⟩
abbrev cX4_movePlace : ByteArray := prog_6_method_11_code
def yX4_movePlace : MethodName := ⟨RX4, "movePlace", "(I)I"⟩
abbrev cX4_moveChoice : ByteArray := prog_6_method_12_code
def yX4_moveChoice : MethodName := ⟨RX4, "moveChoice", "(I)I"⟩
def RX5 : String := "SaltMarket"
def TX5 : u_T := fun k => match k with
  | 0 => ("SaltMarket", "text", "LSaltMarket$Text;", true)
  | 1 => ("SaltMarket", "now", "LSaltMarket$Game;", true)
  | 2 => ("SaltMarket", "trial", "LSaltMarket$Game;", true)
  | 3 => ("SaltMarket", "history", "LSaltMarket$History;", true)
  | 4 => ("SaltMarket", "slots", "[LSaltMarket$Game;", true)
  | _ => ("SaltMarket", "filled", "[Z", true)
def tyX5 : Nat → FieldType := fun k => match k with
  | 0 => .object "SaltMarket$Text"
  | 1 => .object "SaltMarket$Game"
  | 2 => .object "SaltMarket$Game"
  | 3 => .object "SaltMarket$History"
  | 4 => .array (.object "SaltMarket$Game")
  | _ => .array .boolean
abbrev wsX50 : List Cond := u_ws RX5 TX5 6
theorem nmX5 : ∀ a, a < 6 → ∀ b, b < 6 → a ≠ b → (TX5 a).2.1 ≠ (TX5 b).2.1 := by decide +kernel
theorem tyX5_ok : ∀ k, k < 6 → parseFieldDescriptor (TX5 k).2.2.1 = some (tyX5 k) := by decide +kernel
abbrev cX5_init : ByteArray := prog_1_method_1_code
def yX5_init : MethodName := ⟨RX5, "<init>", "()V"⟩
abbrev cX5_append : ByteArray := prog_1_method_2_code
def yX5_append : MethodName := ⟨RX5, "append", "(I)I"⟩
abbrev cX5_clearText : ByteArray := prog_1_method_3_code
def yX5_clearText : MethodName := ⟨RX5, "clearText", "()I"⟩
abbrev cX5_errorPosition : ByteArray := prog_1_method_4_code
def yX5_errorPosition : MethodName := ⟨RX5, "errorPosition", "()I"⟩
abbrev cX5_load : ByteArray := prog_1_method_5_code
def yX5_load : MethodName := ⟨RX5, "load", "()I"⟩
abbrev cX5_doMoves : ByteArray := prog_1_method_6_code
def yX5_doMoves : MethodName := ⟨RX5, "doMoves", "()I"⟩
abbrev cX5_doMove : ByteArray := prog_1_method_7_code
def yX5_doMove : MethodName := ⟨RX5, "doMove", "(I)Z"⟩
abbrev cX5_about : ByteArray := prog_1_method_8_code
def yX5_about : MethodName := ⟨RX5, "about", "(I)I"⟩
abbrev cX5_player : ByteArray := prog_1_method_9_code
def yX5_player : MethodName := ⟨RX5, "player", "(II)I"⟩
abbrev cX5_worker : ByteArray := prog_1_method_10_code
def yX5_worker : MethodName := ⟨RX5, "worker", "(II)I"⟩
abbrev cX5_setting : ByteArray := prog_1_method_11_code
def yX5_setting : MethodName := ⟨RX5, "setting", "(I)I"⟩
abbrev cX5_begin : ByteArray := prog_1_method_12_code
def yX5_begin : MethodName := ⟨RX5, "begin", "(IJ)I"⟩
abbrev cX5_place : ByteArray := prog_1_method_13_code
def yX5_place : MethodName := ⟨RX5, "place", "(II)I"⟩
abbrev cX5_pass : ByteArray := prog_1_method_14_code
def yX5_pass : MethodName := ⟨RX5, "pass", "()I"⟩
abbrev cX5_play : ByteArray := prog_1_method_15_code
def yX5_play : MethodName := ⟨RX5, "play", "()I"⟩
abbrev cX5_set : ByteArray := prog_1_method_16_code
def yX5_set : MethodName := ⟨RX5, "set", "(II)I"⟩
abbrev cX5_undo : ByteArray := prog_1_method_17_code
def yX5_undo : MethodName := ⟨RX5, "undo", "()I"⟩
abbrev cX5_brings : ByteArray := prog_1_method_18_code
def yX5_brings : MethodName := ⟨RX5, "brings", "(II)I"⟩
abbrev cX5_bumps : ByteArray := prog_1_method_19_code
def yX5_bumps : MethodName := ⟨RX5, "bumps", "(I)I"⟩
abbrev cX5_best : ByteArray := prog_1_method_20_code
def yX5_best : MethodName := ⟨RX5, "best", "(I)I"⟩
abbrev cX5_loses : ByteArray := prog_1_method_21_code
def yX5_loses : MethodName := ⟨RX5, "loses", "(II)I"⟩
abbrev cX5_goesOn : ByteArray := prog_1_method_22_code
def yX5_goesOn : MethodName := ⟨RX5, "goesOn", "(I)I"⟩
abbrev cX5_weather : ByteArray := prog_1_method_23_code
def yX5_weather : MethodName := ⟨RX5, "weather", "(I)I"⟩
abbrev cX5_runScript : ByteArray := prog_1_method_24_code
def yX5_runScript : MethodName := ⟨RX5, "runScript", "(IJ)I"⟩
abbrev cX5_dropGroups : ByteArray := prog_1_method_25_code
def yX5_dropGroups : MethodName := ⟨RX5, "dropGroups", "(JI)J"⟩
abbrev cX5_doCommand : ByteArray := prog_1_method_26_code
def yX5_doCommand : MethodName := ⟨RX5, "doCommand", "(I)Z"⟩
abbrev cX5_trialSets : ByteArray := prog_1_method_27_code
def yX5_trialSets : MethodName := ⟨RX5, "trialSets", "(II)Z"⟩
abbrev cX5_simulate : ByteArray := prog_1_method_28_code
def yX5_simulate : MethodName := ⟨RX5, "simulate", "(JI)I"⟩
abbrev cX5_simulateTurn : ByteArray := prog_1_method_29_code
def yX5_simulateTurn : MethodName := ⟨RX5, "simulateTurn", "(I)V"⟩
abbrev cX5_simulatedChoice : ByteArray := prog_1_method_30_code
def yX5_simulatedChoice : MethodName := ⟨RX5, "simulatedChoice", "(II)I"⟩
abbrev cX5_save : ByteArray := prog_1_method_31_code
def yX5_save : MethodName := ⟨RX5, "save", "(I)I"⟩
abbrev cX5_restore : ByteArray := prog_1_method_32_code
def yX5_restore : MethodName := ⟨RX5, "restore", "(I)I"⟩
abbrev cX5_isPlace : ByteArray := prog_1_method_33_code
def yX5_isPlace : MethodName := ⟨RX5, "isPlace", "(I)Z"⟩
abbrev cX5_isGood : ByteArray := prog_1_method_34_code
def yX5_isGood : MethodName := ⟨RX5, "isGood", "(I)Z"⟩
abbrev cX5_isAmount : ByteArray := prog_1_method_35_code
def yX5_isAmount : MethodName := ⟨RX5, "isAmount", "(I)Z"⟩
abbrev cX5_isSetting : ByteArray := prog_1_method_36_code
def yX5_isSetting : MethodName := ⟨RX5, "isSetting", "(I)Z"⟩
abbrev cX5_isSettingValue : ByteArray := prog_1_method_37_code
def yX5_isSettingValue : MethodName := ⟨RX5, "isSettingValue", "(II)Z"⟩
abbrev cX5_isChoice : ByteArray := prog_1_method_38_code
def yX5_isChoice : MethodName := ⟨RX5, "isChoice", "(II)Z"⟩
abbrev cX5_nextX : ByteArray := prog_1_method_39_code
def yX5_nextX : MethodName := ⟨RX5, "nextX", "(J)J"⟩
abbrev cX5_weatherOf : ByteArray := prog_1_method_40_code
def yX5_weatherOf : MethodName := ⟨RX5, "weatherOf", "(J)I"⟩
def RX6 : String := "SaltMarketModel"
def TX6 : u_T := fun k => match k with
  | 0 => ("SaltMarketModel", "thrown", "I", false)
  | 1 => ("SaltMarketModel", "s", "[I", true)
  | 2 => ("SaltMarketModel", "x", "J", false)
  | 3 => ("SaltMarketModel", "saved", "[I", true)
  | 4 => ("SaltMarketModel", "savedX", "[J", true)
  | 5 => ("SaltMarketModel", "savedMany", "I", false)
  | 6 => ("SaltMarketModel", "slots", "[I", true)
  | 7 => ("SaltMarketModel", "slotX", "[J", true)
  | 8 => ("SaltMarketModel", "hasSlot", "[Z", true)
  | 9 => ("SaltMarketModel", "text", "[I", true)
  | 10 => ("SaltMarketModel", "length", "I", false)
  | 11 => ("SaltMarketModel", "aside", "[I", true)
  | 12 => ("SaltMarketModel", "asideX", "J", false)
  | 13 => ("SaltMarketModel", "kept", "[I", true)
  | 14 => ("SaltMarketModel", "keptX", "J", false)
  | 15 => ("SaltMarketModel", "bestBrings", "I", false)
  | 16 => ("SaltMarketModel", "bestPlace", "I", false)
  | 17 => ("SaltMarketModel", "bestChoice", "I", false)
  | 18 => ("SaltMarketModel", "at", "I", false)
  | 19 => ("SaltMarketModel", "isWell", "Z", false)
  | 20 => ("SaltMarketModel", "players", "I", false)
  | 21 => ("SaltMarketModel", "seed", "I", false)
  | 22 => ("SaltMarketModel", "moves", "[I", true)
  | _ => ("SaltMarketModel", "moveMany", "I", false)
def tyX6 : Nat → FieldType := fun k => match k with
  | 0 => .int
  | 1 => .array .int
  | 2 => .long
  | 3 => .array .int
  | 4 => .array .long
  | 5 => .int
  | 6 => .array .int
  | 7 => .array .long
  | 8 => .array .boolean
  | 9 => .array .int
  | 10 => .int
  | 11 => .array .int
  | 12 => .long
  | 13 => .array .int
  | 14 => .long
  | 15 => .int
  | 16 => .int
  | 17 => .int
  | 18 => .int
  | 19 => .boolean
  | 20 => .int
  | 21 => .int
  | 22 => .array .int
  | _ => .int
abbrev wsX60 : List Cond := u_ws RX6 TX6 24
theorem nmX6 : ∀ a, a < 24 → ∀ b, b < 24 → a ≠ b → (TX6 a).2.1 ≠ (TX6 b).2.1 := by decide +kernel
theorem tyX6_ok : ∀ k, k < 24 → parseFieldDescriptor (TX6 k).2.2.1 = some (tyX6 k) := by decide +kernel
abbrev cX6_init : ByteArray := prog_8_method_1_code
def yX6_init : MethodName := ⟨RX6, "<init>", "()V"⟩
abbrev cX6_settles : ByteArray := prog_8_method_2_code
def yX6_settles : MethodName := ⟨RX6, "settles", "()V"⟩
abbrev cX6_thrown : ByteArray := prog_8_method_3_code
def yX6_thrown : MethodName := ⟨RX6, "thrown", "()I"⟩
abbrev cX6_in : ByteArray := prog_8_method_4_code
def yX6_in : MethodName := ⟨RX6, "in", "(III)Z"⟩
abbrev cX6_fails : ByteArray := prog_8_method_5_code
def yX6_fails : MethodName := ⟨RX6, "fails", "(I)I"⟩
abbrev cX6_of : ByteArray := prog_8_method_6_code
def yX6_of : MethodName := ⟨RX6, "of", "(II)I"⟩
abbrev cX6_adds : ByteArray := prog_8_method_7_code
def yX6_adds : MethodName := ⟨RX6, "adds", "(III)V"⟩
abbrev cX6_workersAt : ByteArray := prog_8_method_8_code
def yX6_workersAt : MethodName := ⟨RX6, "workersAt", "(I)I"⟩
abbrev cX6_ownerAt : ByteArray := prog_8_method_9_code
def yX6_ownerAt : MethodName := ⟨RX6, "ownerAt", "(II)I"⟩
abbrev cX6_isPlayer : ByteArray := prog_8_method_10_code
def yX6_isPlayer : MethodName := ⟨RX6, "isPlayer", "(I)Z"⟩
abbrev cX6_isPlace : ByteArray := prog_8_method_11_code
def yX6_isPlace : MethodName := ⟨RX6, "isPlace", "(I)Z"⟩
abbrev cX6_remembers : ByteArray := prog_8_method_12_code
def yX6_remembers : MethodName := ⟨RX6, "remembers", "()V"⟩
abbrev cX6_putsAside : ByteArray := prog_8_method_13_code
def yX6_putsAside : MethodName := ⟨RX6, "putsAside", "()V"⟩
abbrev cX6_takesBack : ByteArray := prog_8_method_14_code
def yX6_takesBack : MethodName := ⟨RX6, "takesBack", "()V"⟩
abbrev cX6_keeps : ByteArray := prog_8_method_15_code
def yX6_keeps : MethodName := ⟨RX6, "keeps", "()V"⟩
abbrev cX6_takesKept : ByteArray := prog_8_method_16_code
def yX6_takesKept : MethodName := ⟨RX6, "takesKept", "()V"⟩
abbrev cX6_isOn : ByteArray := prog_8_method_17_code
def yX6_isOn : MethodName := ⟨RX6, "isOn", "()Z"⟩
abbrev cX6_die : ByteArray := prog_8_method_18_code
def yX6_die : MethodName := ⟨RX6, "die", "(J)I"⟩
abbrev cX6_next : ByteArray := prog_8_method_19_code
def yX6_next : MethodName := ⟨RX6, "next", "(J)J"⟩
abbrev cX6_throwsDie : ByteArray := prog_8_method_20_code
def yX6_throwsDie : MethodName := ⟨RX6, "throwsDie", "()V"⟩
abbrev cX6_total : ByteArray := prog_8_method_21_code
def yX6_total : MethodName := ⟨RX6, "total", "(I)I"⟩
abbrev cX6_loss : ByteArray := prog_8_method_22_code
def yX6_loss : MethodName := ⟨RX6, "loss", "(II)I"⟩
abbrev cX6_ends : ByteArray := prog_8_method_23_code
def yX6_ends : MethodName := ⟨RX6, "ends", "(I)V"⟩
abbrev cX6_endsRound : ByteArray := prog_8_method_24_code
def yX6_endsRound : MethodName := ⟨RX6, "endsRound", "()V"⟩
abbrev cX6_goesTo : ByteArray := prog_8_method_25_code
def yX6_goesTo : MethodName := ⟨RX6, "goesTo", "()V"⟩
abbrev cX6_isChoice : ByteArray := prog_8_method_26_code
def yX6_isChoice : MethodName := ⟨RX6, "isChoice", "(II)Z"⟩
abbrev cX6_bumpedAt : ByteArray := prog_8_method_27_code
def yX6_bumpedAt : MethodName := ⟨RX6, "bumpedAt", "(I)I"⟩
abbrev cX6_isFull : ByteArray := prog_8_method_28_code
def yX6_isFull : MethodName := ⟨RX6, "isFull", "(I)Z"⟩
abbrev cX6_canWork : ByteArray := prog_8_method_29_code
def yX6_canWork : MethodName := ⟨RX6, "canWork", "(III)Z"⟩
abbrev cX6_canPlace : ByteArray := prog_8_method_30_code
def yX6_canPlace : MethodName := ⟨RX6, "canPlace", "(II)Z"⟩
abbrev cX6_works : ByteArray := prog_8_method_31_code
def yX6_works : MethodName := ⟨RX6, "works", "(II)V"⟩
abbrev cX6_sells : ByteArray := prog_8_method_32_code
def yX6_sells : MethodName := ⟨RX6, "sells", "(III)V"⟩
abbrev cX6_places : ByteArray := prog_8_method_33_code
def yX6_places : MethodName := ⟨RX6, "places", "(II)I"⟩
abbrev cX6_bringing : ByteArray := prog_8_method_34_code
def yX6_bringing : MethodName := ⟨RX6, "bringing", "(II)I"⟩
abbrev cX6_findsBest : ByteArray := prog_8_method_35_code
def yX6_findsBest : MethodName := ⟨RX6, "findsBest", "()V"⟩
abbrev cX6_passes : ByteArray := prog_8_method_36_code
def yX6_passes : MethodName := ⟨RX6, "passes", "()V"⟩
abbrev cX6_plays : ByteArray := prog_8_method_37_code
def yX6_plays : MethodName := ⟨RX6, "plays", "()I"⟩
abbrev cX6_append : ByteArray := prog_8_method_38_code
def yX6_append : MethodName := ⟨RX6, "append", "(I)I"⟩
abbrev cX6_clearText : ByteArray := prog_8_method_39_code
def yX6_clearText : MethodName := ⟨RX6, "clearText", "()I"⟩
abbrev cX6_letter : ByteArray := prog_8_method_40_code
def yX6_letter : MethodName := ⟨RX6, "letter", "()I"⟩
abbrev cX6_wants : ByteArray := prog_8_method_41_code
def yX6_wants : MethodName := ⟨RX6, "wants", "(II)I"⟩
abbrev cX6_placeOf : ByteArray := prog_8_method_42_code
def yX6_placeOf : MethodName := ⟨RX6, "placeOf", "(I)I"⟩
abbrev cX6_readsMove : ByteArray := prog_8_method_43_code
def yX6_readsMove : MethodName := ⟨RX6, "readsMove", "()V"⟩
abbrev cX6_reads : ByteArray := prog_8_method_44_code
def yX6_reads : MethodName := ⟨RX6, "reads", "()I"⟩
abbrev cX6_errorPosition : ByteArray := prog_8_method_45_code
def yX6_errorPosition : MethodName := ⟨RX6, "errorPosition", "()I"⟩
abbrev cX6_leavesOut : ByteArray := prog_8_method_46_code
def yX6_leavesOut : MethodName := ⟨RX6, "leavesOut", "(II)I"⟩
abbrev cX6_load : ByteArray := prog_8_method_47_code
def yX6_load : MethodName := ⟨RX6, "load", "()I"⟩
abbrev cX6_atPlaces : ByteArray := prog_8_method_48_code
def yX6_atPlaces : MethodName := ⟨RX6, "atPlaces", "()I"⟩
abbrev cX6_tells : ByteArray := prog_8_method_49_code
def yX6_tells : MethodName := ⟨RX6, "tells", "(I)I"⟩
abbrev cX6_about : ByteArray := prog_8_method_50_code
def yX6_about : MethodName := ⟨RX6, "about", "(I)I"⟩
abbrev cX6_player : ByteArray := prog_8_method_51_code
def yX6_player : MethodName := ⟨RX6, "player", "(II)I"⟩
abbrev cX6_worker : ByteArray := prog_8_method_52_code
def yX6_worker : MethodName := ⟨RX6, "worker", "(II)I"⟩
abbrev cX6_setting : ByteArray := prog_8_method_53_code
def yX6_setting : MethodName := ⟨RX6, "setting", "(I)I"⟩
abbrev cX6_begins : ByteArray := prog_8_method_54_code
def yX6_begins : MethodName := ⟨RX6, "begins", "(IJ)V"⟩
abbrev cX6_begin : ByteArray := prog_8_method_55_code
def yX6_begin : MethodName := ⟨RX6, "begin", "(IJ)I"⟩
abbrev cX6_refuses : ByteArray := prog_8_method_56_code
def yX6_refuses : MethodName := ⟨RX6, "refuses", "(II)I"⟩
abbrev cX6_place : ByteArray := prog_8_method_57_code
def yX6_place : MethodName := ⟨RX6, "place", "(II)I"⟩
abbrev cX6_pass : ByteArray := prog_8_method_58_code
def yX6_pass : MethodName := ⟨RX6, "pass", "()I"⟩
abbrev cX6_play : ByteArray := prog_8_method_59_code
def yX6_play : MethodName := ⟨RX6, "play", "()I"⟩
abbrev cX6_isSetting : ByteArray := prog_8_method_60_code
def yX6_isSetting : MethodName := ⟨RX6, "isSetting", "(II)Z"⟩
abbrev cX6_set : ByteArray := prog_8_method_61_code
def yX6_set : MethodName := ⟨RX6, "set", "(II)I"⟩
abbrev cX6_undo : ByteArray := prog_8_method_62_code
def yX6_undo : MethodName := ⟨RX6, "undo", "()I"⟩
abbrev cX6_brings : ByteArray := prog_8_method_63_code
def yX6_brings : MethodName := ⟨RX6, "brings", "(II)I"⟩
abbrev cX6_bumps : ByteArray := prog_8_method_64_code
def yX6_bumps : MethodName := ⟨RX6, "bumps", "(I)I"⟩
abbrev cX6_best : ByteArray := prog_8_method_65_code
def yX6_best : MethodName := ⟨RX6, "best", "(I)I"⟩
abbrev cX6_loses : ByteArray := prog_8_method_66_code
def yX6_loses : MethodName := ⟨RX6, "loses", "(II)I"⟩
abbrev cX6_richest : ByteArray := prog_8_method_67_code
def yX6_richest : MethodName := ⟨RX6, "richest", "()I"⟩
abbrev cX6_goesOn : ByteArray := prog_8_method_68_code
def yX6_goesOn : MethodName := ⟨RX6, "goesOn", "(I)I"⟩
abbrev cX6_weather : ByteArray := prog_8_method_69_code
def yX6_weather : MethodName := ⟨RX6, "weather", "(I)I"⟩
abbrev cX6_doesPlace : ByteArray := prog_8_method_70_code
def yX6_doesPlace : MethodName := ⟨RX6, "doesPlace", "(II)Z"⟩
abbrev cX6_doesTurn : ByteArray := prog_8_method_71_code
def yX6_doesTurn : MethodName := ⟨RX6, "doesTurn", "(Z)Z"⟩
abbrev cX6_doesSet : ByteArray := prog_8_method_72_code
def yX6_doesSet : MethodName := ⟨RX6, "doesSet", "(II)Z"⟩
abbrev cX6_does : ByteArray := prog_8_method_73_code
def yX6_does : MethodName := ⟨RX6, "does", "(IIII)Z"⟩
abbrev cX6_runScript : ByteArray := prog_8_method_74_code
def yX6_runScript : MethodName := ⟨RX6, "runScript", "(IJ)I"⟩
abbrev cX6_simulates : ByteArray := prog_8_method_75_code
def yX6_simulates : MethodName := ⟨RX6, "simulates", "(I)V"⟩
abbrev cX6_simulate : ByteArray := prog_8_method_76_code
def yX6_simulate : MethodName := ⟨RX6, "simulate", "(JI)I"⟩
abbrev cX6_save : ByteArray := prog_8_method_77_code
def yX6_save : MethodName := ⟨RX6, "save", "(I)I"⟩
abbrev cX6_restore : ByteArray := prog_8_method_78_code
def yX6_restore : MethodName := ⟨RX6, "restore", "(I)I"⟩
def RJ9 : String := "java/lang/Math"
def TJ9 : u_T := fun k => match k with
  | _ => ("", "", "", false)
def tyJ9 : Nat → FieldType := fun k => match k with
  | _ => .int
abbrev wsJ90 : List Cond := u_ws RJ9 TJ9 0
theorem nmJ9 : ∀ a, a < 0 → ∀ b, b < 0 → a ≠ b → (TJ9 a).2.1 ≠ (TJ9 b).2.1 := by decide +kernel
theorem tyJ9_ok : ∀ k, k < 0 → parseFieldDescriptor (TJ9 k).2.2.1 = some (tyJ9 k) := by decide +kernel
abbrev cJ9_max_7cf53 : ByteArray := prog_13_method_65_code
def yJ9_max_7cf53 : MethodName := ⟨RJ9, "max", "(II)I"⟩
abbrev cJ9_min_7cf53 : ByteArray := prog_13_method_69_code
def yJ9_min_7cf53 : MethodName := ⟨RJ9, "min", "(II)I"⟩
def RJ0 : String := "java/lang/String"
def TJ0 : u_T := fun k => match k with
  | _ => ("", "", "", false)
def tyJ0 : Nat → FieldType := fun k => match k with
  | _ => .int
abbrev wsJ00 : List Cond := u_ws RJ0 TJ0 0
theorem nmJ0 : ∀ a, a < 0 → ∀ b, b < 0 → a ≠ b → (TJ0 a).2.1 ≠ (TJ0 b).2.1 := by decide +kernel
theorem tyJ0_ok : ∀ k, k < 0 → parseFieldDescriptor (TJ0 k).2.2.1 = some (tyJ0 k) := by decide +kernel
def RL : String := "SaltMarketLaw"
abbrev cL_append : ByteArray := method_3_code
def yL_append : MethodName := ⟨RL, "append", "(LSaltMarket;I[J)I"⟩
abbrev cL_load : ByteArray := method_4_code
def yL_load : MethodName := ⟨RL, "load", "(LSaltMarket;[J)I"⟩
abbrev cL_about : ByteArray := method_5_code
def yL_about : MethodName := ⟨RL, "about", "(LSaltMarket;I[J)I"⟩
abbrev cL_player : ByteArray := method_6_code
def yL_player : MethodName := ⟨RL, "player", "(LSaltMarket;II[J)I"⟩
abbrev cL_worker : ByteArray := method_7_code
def yL_worker : MethodName := ⟨RL, "worker", "(LSaltMarket;II[J)I"⟩
abbrev cL_setting : ByteArray := method_8_code
def yL_setting : MethodName := ⟨RL, "setting", "(LSaltMarket;I[J)I"⟩
abbrev cL_begin : ByteArray := method_9_code
def yL_begin : MethodName := ⟨RL, "begin", "(LSaltMarket;IJ[J)I"⟩
abbrev cL_place : ByteArray := method_10_code
def yL_place : MethodName := ⟨RL, "place", "(LSaltMarket;II[J)I"⟩
abbrev cL_pass : ByteArray := method_11_code
def yL_pass : MethodName := ⟨RL, "pass", "(LSaltMarket;[J)I"⟩
abbrev cL_play : ByteArray := method_12_code
def yL_play : MethodName := ⟨RL, "play", "(LSaltMarket;[J)I"⟩
abbrev cL_set : ByteArray := method_13_code
def yL_set : MethodName := ⟨RL, "set", "(LSaltMarket;II[J)I"⟩
abbrev cL_undo : ByteArray := method_14_code
def yL_undo : MethodName := ⟨RL, "undo", "(LSaltMarket;[J)I"⟩
abbrev cL_brings : ByteArray := method_15_code
def yL_brings : MethodName := ⟨RL, "brings", "(LSaltMarket;II[J)I"⟩
abbrev cL_bumps : ByteArray := method_16_code
def yL_bumps : MethodName := ⟨RL, "bumps", "(LSaltMarket;I[J)I"⟩
abbrev cL_best : ByteArray := method_17_code
def yL_best : MethodName := ⟨RL, "best", "(LSaltMarket;I[J)I"⟩
abbrev cL_loses : ByteArray := method_18_code
def yL_loses : MethodName := ⟨RL, "loses", "(LSaltMarket;II[J)I"⟩
abbrev cL_goesOn : ByteArray := method_19_code
def yL_goesOn : MethodName := ⟨RL, "goesOn", "(LSaltMarket;I[J)I"⟩
abbrev cL_weather : ByteArray := method_20_code
def yL_weather : MethodName := ⟨RL, "weather", "(LSaltMarket;I[J)I"⟩
abbrev cL_runScript : ByteArray := method_21_code
def yL_runScript : MethodName := ⟨RL, "runScript", "(LSaltMarket;IJ[J)I"⟩
abbrev cL_simulate : ByteArray := method_22_code
def yL_simulate : MethodName := ⟨RL, "simulate", "(LSaltMarket;JI[J)I"⟩
abbrev cL_save : ByteArray := method_23_code
def yL_save : MethodName := ⟨RL, "save", "(LSaltMarket;I[J)I"⟩
abbrev cL_restore : ByteArray := method_24_code
def yL_restore : MethodName := ⟨RL, "restore", "(LSaltMarket;I[J)I"⟩
abbrev cL_law : ByteArray := code
def yL_law : MethodName := ⟨RL, "law", "([I)Z"⟩
theorem wsL_law_x0 : ∀ w ∈ (vx_atS RX5 45 "java/lang/IllegalArgumentException" ["java/lang/RuntimeException", "java/lang/Exception"]).filter goodWord, w ∈ lw_tbl := by decide +kernel
theorem wsL_law_x1 : ∀ w ∈ (vx_atS RX5 56 "java/lang/IllegalStateException" ["java/lang/RuntimeException", "java/lang/Exception"]).filter goodWord, w ∈ lw_tbl := by decide +kernel
theorem wsL_law_x2 : ∀ w ∈ (vx_atS RX5 120 "java/lang/IndexOutOfBoundsException" ["java/lang/RuntimeException", "java/lang/Exception"]).filter goodWord, w ∈ lw_tbl := by decide +kernel
abbrev vwCl : List vw_C := [(RX0, TX0, 16), (RX1, TX1, 3), (RX2, TX2, 2), (RX3, TX3, 6), (RX4, TX4, 2), (RX5, TX5, 6), (RX6, TX6, 24)]
end
section
/-! The core: an abstract heap, what a launch's tables tell, and one judgement for a method's body over them. -/
def ck_0_0 : List Cond := [Cond.selects "java/lang/Throwable" ⟨"java/lang/Throwable", "fillInStackTrace", "(I)Ljava/lang/Throwable;"⟩ ⟨"java/lang/Throwable", "fillInStackTrace", "(I)Ljava/lang/Throwable;"⟩, Cond.selects "SaltMarket" ⟨"SaltMarket", "doMoves", "()I"⟩ ⟨"SaltMarket", "doMoves", "()I"⟩, Cond.selects "SaltMarket" ⟨"SaltMarket", "doMove", "(I)Z"⟩ ⟨"SaltMarket", "doMove", "(I)Z"⟩, Cond.selects "SaltMarket" ⟨"SaltMarket", "doCommand", "(I)Z"⟩ ⟨"SaltMarket", "doCommand", "(I)Z"⟩, Cond.selects "SaltMarket" ⟨"SaltMarket", "trialSets", "(II)Z"⟩ ⟨"SaltMarket", "trialSets", "(II)Z"⟩, Cond.selects "SaltMarket" ⟨"SaltMarket", "simulateTurn", "(I)V"⟩ ⟨"SaltMarket", "simulateTurn", "(I)V"⟩, Cond.selects "SaltMarketModel" ⟨"SaltMarketModel", "settles", "()V"⟩ ⟨"SaltMarketModel", "settles", "()V"⟩, Cond.selects "SaltMarketModel" ⟨"SaltMarketModel", "fails", "(I)I"⟩ ⟨"SaltMarketModel", "fails", "(I)I"⟩, Cond.selects "SaltMarketModel" ⟨"SaltMarketModel", "reads", "()I"⟩ ⟨"SaltMarketModel", "reads", "()I"⟩, Cond.selects "SaltMarketModel" ⟨"SaltMarketModel", "wants", "(II)I"⟩ ⟨"SaltMarketModel", "wants", "(II)I"⟩, Cond.selects "SaltMarketModel" ⟨"SaltMarketModel", "letter", "()I"⟩ ⟨"SaltMarketModel", "letter", "()I"⟩, Cond.selects "SaltMarketModel" ⟨"SaltMarketModel", "readsMove", "()V"⟩ ⟨"SaltMarketModel", "readsMove", "()V"⟩, Cond.selects "SaltMarketModel" ⟨"SaltMarketModel", "begins", "(IJ)V"⟩ ⟨"SaltMarketModel", "begins", "(IJ)V"⟩, Cond.selects "SaltMarketModel" ⟨"SaltMarketModel", "adds", "(III)V"⟩ ⟨"SaltMarketModel", "adds", "(III)V"⟩, Cond.selects "SaltMarketModel" ⟨"SaltMarketModel", "throwsDie", "()V"⟩ ⟨"SaltMarketModel", "throwsDie", "()V"⟩, Cond.selects "SaltMarketModel" ⟨"SaltMarketModel", "leavesOut", "(II)I"⟩ ⟨"SaltMarketModel", "leavesOut", "(II)I"⟩, Cond.selects "SaltMarketModel" ⟨"SaltMarketModel", "isOn", "()Z"⟩ ⟨"SaltMarketModel", "isOn", "()Z"⟩, Cond.selects "SaltMarketModel" ⟨"SaltMarketModel", "passes", "()V"⟩ ⟨"SaltMarketModel", "passes", "()V"⟩, Cond.selects "SaltMarketModel" ⟨"SaltMarketModel", "goesTo", "()V"⟩ ⟨"SaltMarketModel", "goesTo", "()V"⟩, Cond.selects "SaltMarketModel" ⟨"SaltMarketModel", "of", "(II)I"⟩ ⟨"SaltMarketModel", "of", "(II)I"⟩, Cond.selects "SaltMarketModel" ⟨"SaltMarketModel", "endsRound", "()V"⟩ ⟨"SaltMarketModel", "endsRound", "()V"⟩, Cond.selects "SaltMarketModel" ⟨"SaltMarketModel", "ends", "(I)V"⟩ ⟨"SaltMarketModel", "ends", "(I)V"⟩, Cond.selects "SaltMarketModel" ⟨"SaltMarketModel", "loss", "(II)I"⟩ ⟨"SaltMarketModel", "loss", "(II)I"⟩, Cond.selects "SaltMarketModel" ⟨"SaltMarketModel", "canPlace", "(II)Z"⟩ ⟨"SaltMarketModel", "canPlace", "(II)Z"⟩, Cond.selects "SaltMarketModel" ⟨"SaltMarketModel", "isFull", "(I)Z"⟩ ⟨"SaltMarketModel", "isFull", "(I)Z"⟩, Cond.selects "SaltMarketModel" ⟨"SaltMarketModel", "workersAt", "(I)I"⟩ ⟨"SaltMarketModel", "workersAt", "(I)I"⟩, Cond.selects "SaltMarketModel" ⟨"SaltMarketModel", "bumpedAt", "(I)I"⟩ ⟨"SaltMarketModel", "bumpedAt", "(I)I"⟩, Cond.selects "SaltMarketModel" ⟨"SaltMarketModel", "ownerAt", "(II)I"⟩ ⟨"SaltMarketModel", "ownerAt", "(II)I"⟩, Cond.selects "SaltMarketModel" ⟨"SaltMarketModel", "canWork", "(III)Z"⟩ ⟨"SaltMarketModel", "canWork", "(III)Z"⟩, Cond.selects "SaltMarketModel" ⟨"SaltMarketModel", "places", "(II)I"⟩ ⟨"SaltMarketModel", "places", "(II)I"⟩]
def ck_0_1 : List Cond := [Cond.selects "SaltMarketModel" ⟨"SaltMarketModel", "works", "(II)V"⟩ ⟨"SaltMarketModel", "works", "(II)V"⟩, Cond.selects "SaltMarketModel" ⟨"SaltMarketModel", "sells", "(III)V"⟩ ⟨"SaltMarketModel", "sells", "(III)V"⟩, Cond.selects "SaltMarketModel" ⟨"SaltMarketModel", "tells", "(I)I"⟩ ⟨"SaltMarketModel", "tells", "(I)I"⟩, Cond.selects "SaltMarketModel" ⟨"SaltMarketModel", "atPlaces", "()I"⟩ ⟨"SaltMarketModel", "atPlaces", "()I"⟩, Cond.selects "SaltMarketModel" ⟨"SaltMarketModel", "isPlayer", "(I)Z"⟩ ⟨"SaltMarketModel", "isPlayer", "(I)Z"⟩, Cond.selects "SaltMarketModel" ⟨"SaltMarketModel", "total", "(I)I"⟩ ⟨"SaltMarketModel", "total", "(I)I"⟩, Cond.selects "SaltMarketModel" ⟨"SaltMarketModel", "remembers", "()V"⟩ ⟨"SaltMarketModel", "remembers", "()V"⟩, Cond.selects "SaltMarketModel" ⟨"SaltMarketModel", "refuses", "(II)I"⟩ ⟨"SaltMarketModel", "refuses", "(II)I"⟩, Cond.selects "SaltMarketModel" ⟨"SaltMarketModel", "plays", "()I"⟩ ⟨"SaltMarketModel", "plays", "()I"⟩, Cond.selects "SaltMarketModel" ⟨"SaltMarketModel", "findsBest", "()V"⟩ ⟨"SaltMarketModel", "findsBest", "()V"⟩, Cond.selects "SaltMarketModel" ⟨"SaltMarketModel", "bringing", "(II)I"⟩ ⟨"SaltMarketModel", "bringing", "(II)I"⟩, Cond.selects "SaltMarketModel" ⟨"SaltMarketModel", "putsAside", "()V"⟩ ⟨"SaltMarketModel", "putsAside", "()V"⟩, Cond.selects "SaltMarketModel" ⟨"SaltMarketModel", "takesBack", "()V"⟩ ⟨"SaltMarketModel", "takesBack", "()V"⟩, Cond.selects "SaltMarketModel" ⟨"SaltMarketModel", "keeps", "()V"⟩ ⟨"SaltMarketModel", "keeps", "()V"⟩, Cond.selects "SaltMarketModel" ⟨"SaltMarketModel", "richest", "()I"⟩ ⟨"SaltMarketModel", "richest", "()I"⟩, Cond.selects "SaltMarketModel" ⟨"SaltMarketModel", "takesKept", "()V"⟩ ⟨"SaltMarketModel", "takesKept", "()V"⟩, Cond.selects "SaltMarketModel" ⟨"SaltMarketModel", "does", "(IIII)Z"⟩ ⟨"SaltMarketModel", "does", "(IIII)Z"⟩, Cond.selects "SaltMarketModel" ⟨"SaltMarketModel", "doesPlace", "(II)Z"⟩ ⟨"SaltMarketModel", "doesPlace", "(II)Z"⟩, Cond.selects "SaltMarketModel" ⟨"SaltMarketModel", "doesTurn", "(Z)Z"⟩ ⟨"SaltMarketModel", "doesTurn", "(Z)Z"⟩, Cond.selects "SaltMarketModel" ⟨"SaltMarketModel", "doesSet", "(II)Z"⟩ ⟨"SaltMarketModel", "doesSet", "(II)Z"⟩, Cond.selects "SaltMarketModel" ⟨"SaltMarketModel", "simulates", "(I)V"⟩ ⟨"SaltMarketModel", "simulates", "(I)V"⟩]
def ck_1_0 : List Cond := [(Jvm.Cond.initialized "SaltMarketLaw"), (Jvm.Cond.initialized "SaltMarket"), (Jvm.Cond.initialized "SaltMarket$Text"), (Jvm.Cond.initialized "SaltMarket$Game"), (Jvm.Cond.initialized "SaltMarket$Player"), (Jvm.Cond.initialized "SaltMarket$Place"), (Jvm.Cond.initialized "SaltMarket$History"), (Jvm.Cond.initialized "SaltMarketModel"), (Jvm.Cond.initialized "java/lang/Throwable"), (Jvm.Cond.initialized "java/lang/Exception"), (Jvm.Cond.initialized "java/lang/RuntimeException"), (Jvm.Cond.initialized "java/lang/IllegalArgumentException"), (Jvm.Cond.initialized "java/lang/IllegalStateException"), (Jvm.Cond.initialized "java/lang/Math"), (Jvm.Cond.initialized "java/lang/IndexOutOfBoundsException"), (Jvm.Cond.classLink "SaltMarketLaw" (8 : Nat) "SaltMarket"), (Jvm.Cond.instantiable "SaltMarket" (6 : Nat)), (Jvm.Cond.methodLink "SaltMarketLaw" (86 : Nat) ({ cls := "SaltMarket", name := "<init>", desc := "()V" } : Jvm.MethodName)), (Jvm.Cond.instanceMethod ({ cls := "SaltMarket", name := "<init>", desc := "()V" } : Jvm.MethodName)), (Jvm.Cond.code ({ cls := "SaltMarket", name := "<init>", desc := "()V" } : Jvm.MethodName) prog_1_method_1_code (2 : Nat) (Option.none : Option Jvm.ClassFile.FieldType)), (Jvm.Cond.methodLink "SaltMarket" (1 : Nat) ({ cls := "java/lang/Object", name := "<init>", desc := "()V" } : Jvm.MethodName)), (Jvm.Cond.instanceMethod ({ cls := "java/lang/Object", name := "<init>", desc := "()V" } : Jvm.MethodName)), (Jvm.Cond.code ({ cls := "java/lang/Object", name := "<init>", desc := "()V" } : Jvm.MethodName) object_method_1_code (1 : Nat) (Option.none : Option Jvm.ClassFile.FieldType)), (Jvm.Cond.classLink "SaltMarket" (7 : Nat) "SaltMarket$Text"), (Jvm.Cond.instantiable "SaltMarket$Text" (2 : Nat)), (Jvm.Cond.methodLinkNest "SaltMarket" (9 : Nat) ({ cls := "SaltMarket$Text", name := "<init>", desc := "()V" } : Jvm.MethodName) "SaltMarket"), (Jvm.Cond.instanceMethod ({ cls := "SaltMarket$Text", name := "<init>", desc := "()V" } : Jvm.MethodName)), (Jvm.Cond.code ({ cls := "SaltMarket$Text", name := "<init>", desc := "()V" } : Jvm.MethodName) prog_6_method_1_code (1 : Nat) (Option.none : Option Jvm.ClassFile.FieldType)), (Jvm.Cond.methodLink "SaltMarket$Text" (3 : Nat) ({ cls := "java/lang/Object", name := "<init>", desc := "()V" } : Jvm.MethodName)), (Jvm.Cond.fieldLink "SaltMarket$Text" (11 : Nat) "SaltMarket$Text" "signs" "[C")]
def ck_1_1 : List Cond := [(Jvm.Cond.fieldLink "SaltMarket$Text" (15 : Nat) "SaltMarket$Text" "length" "I"), (Jvm.Cond.fieldLink "SaltMarket" (57 : Nat) "SaltMarket$Text" "length" "I"), (Jvm.Cond.laysFinal "SaltMarket$Text" "SaltMarket$Text" "signs" "[C"), (Jvm.Cond.soleField "SaltMarket$Text" "signs"), (Jvm.Cond.lays "SaltMarket$Text" "SaltMarket$Text" "length" "I"), (Jvm.Cond.soleField "SaltMarket$Text" "length"), (Jvm.Cond.superclass "SaltMarket$Text" "java/lang/Object"), (Jvm.Cond.arrayClass Jvm.ClassFile.FieldType.char), (Jvm.Cond.classLink "SaltMarket" (16 : Nat) "SaltMarket$Game"), (Jvm.Cond.instantiable "SaltMarket$Game" (16 : Nat)), (Jvm.Cond.methodLink "SaltMarket" (18 : Nat) ({ cls := "SaltMarket$Game", name := "<init>", desc := "()V" } : Jvm.MethodName)), (Jvm.Cond.instanceMethod ({ cls := "SaltMarket$Game", name := "<init>", desc := "()V" } : Jvm.MethodName)), (Jvm.Cond.code ({ cls := "SaltMarket$Game", name := "<init>", desc := "()V" } : Jvm.MethodName) prog_2_method_1_code (2 : Nat) (Option.none : Option Jvm.ClassFile.FieldType)), (Jvm.Cond.methodLink "SaltMarket$Game" (3 : Nat) ({ cls := "java/lang/Object", name := "<init>", desc := "()V" } : Jvm.MethodName)), (Jvm.Cond.classLink "SaltMarket$Game" (9 : Nat) "SaltMarket$Player"), (Jvm.Cond.arrayOver (Jvm.ClassFile.FieldType.object "SaltMarket$Player")), (Jvm.Cond.classLink "SaltMarket$Game" (17 : Nat) "SaltMarket$Place"), (Jvm.Cond.arrayOver (Jvm.ClassFile.FieldType.object "SaltMarket$Place")), (Jvm.Cond.instantiable "SaltMarket$Player" (6 : Nat)), (Jvm.Cond.methodLinkNest "SaltMarket$Game" (56 : Nat) ({ cls := "SaltMarket$Player", name := "<init>", desc := "()V" } : Jvm.MethodName) "SaltMarket"), (Jvm.Cond.instanceMethod ({ cls := "SaltMarket$Player", name := "<init>", desc := "()V" } : Jvm.MethodName)), (Jvm.Cond.code ({ cls := "SaltMarket$Player", name := "<init>", desc := "()V" } : Jvm.MethodName) prog_5_method_1_code (1 : Nat) (Option.none : Option Jvm.ClassFile.FieldType)), (Jvm.Cond.methodLink "SaltMarket$Player" (3 : Nat) ({ cls := "java/lang/Object", name := "<init>", desc := "()V" } : Jvm.MethodName)), (Jvm.Cond.fieldLink "SaltMarket$Player" (9 : Nat) "SaltMarket$Player" "goods" "[I"), (Jvm.Cond.fieldLink "SaltMarket$Game" (196 : Nat) "SaltMarket$Player" "goods" "[I"), (Jvm.Cond.fieldLink "SaltMarket" (274 : Nat) "SaltMarket$Player" "goods" "[I"), (Jvm.Cond.fieldLink "SaltMarket$Player" (15 : Nat) "SaltMarket$Player" "coins" "I"), (Jvm.Cond.fieldLink "SaltMarket$Game" (148 : Nat) "SaltMarket$Player" "coins" "I"), (Jvm.Cond.fieldLink "SaltMarket$Player" (19 : Nat) "SaltMarket$Player" "room" "I"), (Jvm.Cond.fieldLink "SaltMarket$Player" (22 : Nat) "SaltMarket$Player" "workers" "I")]
def ck_1_2 : List Cond := [(Jvm.Cond.fieldLink "SaltMarket$Player" (25 : Nat) "SaltMarket$Player" "hand" "I"), (Jvm.Cond.fieldLink "SaltMarket$Game" (117 : Nat) "SaltMarket$Player" "hand" "I"), (Jvm.Cond.fieldLink "SaltMarket$Player" (28 : Nat) "SaltMarket$Player" "passed" "Z"), (Jvm.Cond.fieldLink "SaltMarket$Game" (176 : Nat) "SaltMarket$Player" "passed" "Z"), (Jvm.Cond.laysFinal "SaltMarket$Player" "SaltMarket$Player" "goods" "[I"), (Jvm.Cond.soleField "SaltMarket$Player" "goods"), (Jvm.Cond.lays "SaltMarket$Player" "SaltMarket$Player" "coins" "I"), (Jvm.Cond.soleField "SaltMarket$Player" "coins"), (Jvm.Cond.lays "SaltMarket$Player" "SaltMarket$Player" "room" "I"), (Jvm.Cond.soleField "SaltMarket$Player" "room"), (Jvm.Cond.lays "SaltMarket$Player" "SaltMarket$Player" "workers" "I"), (Jvm.Cond.soleField "SaltMarket$Player" "workers"), (Jvm.Cond.lays "SaltMarket$Player" "SaltMarket$Player" "hand" "I"), (Jvm.Cond.soleField "SaltMarket$Player" "hand"), (Jvm.Cond.lays "SaltMarket$Player" "SaltMarket$Player" "passed" "Z"), (Jvm.Cond.soleField "SaltMarket$Player" "passed"), (Jvm.Cond.superclass "SaltMarket$Player" "java/lang/Object"), (Jvm.Cond.arrayClass Jvm.ClassFile.FieldType.int), (Jvm.Cond.instantiable "SaltMarket$Place" (2 : Nat)), (Jvm.Cond.methodLinkNest "SaltMarket$Game" (70 : Nat) ({ cls := "SaltMarket$Place", name := "<init>", desc := "()V" } : Jvm.MethodName) "SaltMarket"), (Jvm.Cond.instanceMethod ({ cls := "SaltMarket$Place", name := "<init>", desc := "()V" } : Jvm.MethodName)), (Jvm.Cond.code ({ cls := "SaltMarket$Place", name := "<init>", desc := "()V" } : Jvm.MethodName) prog_4_method_1_code (1 : Nat) (Option.none : Option Jvm.ClassFile.FieldType)), (Jvm.Cond.methodLink "SaltMarket$Place" (3 : Nat) ({ cls := "java/lang/Object", name := "<init>", desc := "()V" } : Jvm.MethodName)), (Jvm.Cond.fieldLink "SaltMarket$Place" (11 : Nat) "SaltMarket$Place" "owners" "[I"), (Jvm.Cond.fieldLink "SaltMarket$Place" (15 : Nat) "SaltMarket$Place" "count" "I"), (Jvm.Cond.fieldLink "SaltMarket$Game" (77 : Nat) "SaltMarket$Place" "count" "I"), (Jvm.Cond.fieldLink "SaltMarket" (267 : Nat) "SaltMarket$Place" "count" "I"), (Jvm.Cond.laysFinal "SaltMarket$Place" "SaltMarket$Place" "owners" "[I"), (Jvm.Cond.soleField "SaltMarket$Place" "owners"), (Jvm.Cond.lays "SaltMarket$Place" "SaltMarket$Place" "count" "I")]
def ck_1_3 : List Cond := [(Jvm.Cond.soleField "SaltMarket$Place" "count"), (Jvm.Cond.superclass "SaltMarket$Place" "java/lang/Object"), (Jvm.Cond.fieldLinkNest "SaltMarket$Game" (71 : Nat) "SaltMarket" "FIRST_SETTING" "[I" "SaltMarket"), (Jvm.Cond.laysStatic "SaltMarket" "FIRST_SETTING" "[I"), (Jvm.Cond.fieldLink "SaltMarket$Game" (11 : Nat) "SaltMarket$Game" "players" "[LSaltMarket$Player;"), (Jvm.Cond.fieldLink "SaltMarket" (123 : Nat) "SaltMarket$Game" "players" "[LSaltMarket$Player;"), (Jvm.Cond.fieldLink "SaltMarket$Game" (19 : Nat) "SaltMarket$Game" "places" "[LSaltMarket$Place;"), (Jvm.Cond.fieldLink "SaltMarket" (136 : Nat) "SaltMarket$Game" "places" "[LSaltMarket$Place;"), (Jvm.Cond.fieldLink "SaltMarket$Game" (23 : Nat) "SaltMarket$Game" "prices" "[I"), (Jvm.Cond.fieldLink "SaltMarket" (268 : Nat) "SaltMarket$Game" "prices" "[I"), (Jvm.Cond.fieldLink "SaltMarket$Game" (27 : Nat) "SaltMarket$Game" "settings" "[I"), (Jvm.Cond.fieldLink "SaltMarket" (150 : Nat) "SaltMarket$Game" "settings" "[I"), (Jvm.Cond.fieldLink "SaltMarket$Game" (30 : Nat) "SaltMarket$Game" "count" "I"), (Jvm.Cond.fieldLink "SaltMarket" (238 : Nat) "SaltMarket$Game" "count" "I"), (Jvm.Cond.fieldLink "SaltMarket$Game" (34 : Nat) "SaltMarket$Game" "turn" "I"), (Jvm.Cond.fieldLink "SaltMarket" (271 : Nat) "SaltMarket$Game" "turn" "I"), (Jvm.Cond.fieldLink "SaltMarket$Game" (37 : Nat) "SaltMarket$Game" "first" "I"), (Jvm.Cond.fieldLink "SaltMarket$Game" (40 : Nat) "SaltMarket$Game" "weather" "I"), (Jvm.Cond.fieldLink "SaltMarket" (160 : Nat) "SaltMarket$Game" "weather" "I"), (Jvm.Cond.fieldLink "SaltMarket$Game" (43 : Nat) "SaltMarket$Game" "ended" "I"), (Jvm.Cond.fieldLink "SaltMarket$Game" (46 : Nat) "SaltMarket$Game" "bumpings" "I"), (Jvm.Cond.fieldLink "SaltMarket" (283 : Nat) "SaltMarket$Game" "bumpings" "I"), (Jvm.Cond.fieldLink "SaltMarket$Game" (49 : Nat) "SaltMarket$Game" "lost" "I"), (Jvm.Cond.fieldLink "SaltMarket$Game" (52 : Nat) "SaltMarket$Game" "x" "J"), (Jvm.Cond.fieldLink "SaltMarket" (239 : Nat) "SaltMarket$Game" "x" "J"), (Jvm.Cond.fieldLink "SaltMarket$Game" (57 : Nat) "SaltMarket$Game" "after" "LSaltMarket$Player;"), (Jvm.Cond.fieldLink "SaltMarket$Game" (61 : Nat) "SaltMarket$Game" "bestWorth" "I"), (Jvm.Cond.fieldLink "SaltMarket" (207 : Nat) "SaltMarket$Game" "bestWorth" "I"), (Jvm.Cond.fieldLink "SaltMarket$Game" (64 : Nat) "SaltMarket$Game" "bestPlace" "I"), (Jvm.Cond.fieldLink "SaltMarket" (210 : Nat) "SaltMarket$Game" "bestPlace" "I")]
def ck_1_4 : List Cond := [(Jvm.Cond.fieldLink "SaltMarket$Game" (67 : Nat) "SaltMarket$Game" "bestChoice" "I"), (Jvm.Cond.fieldLink "SaltMarket" (213 : Nat) "SaltMarket$Game" "bestChoice" "I"), (Jvm.Cond.laysFinal "SaltMarket$Game" "SaltMarket$Game" "players" "[LSaltMarket$Player;"), (Jvm.Cond.soleField "SaltMarket$Game" "players"), (Jvm.Cond.laysFinal "SaltMarket$Game" "SaltMarket$Game" "places" "[LSaltMarket$Place;"), (Jvm.Cond.soleField "SaltMarket$Game" "places"), (Jvm.Cond.laysFinal "SaltMarket$Game" "SaltMarket$Game" "prices" "[I"), (Jvm.Cond.soleField "SaltMarket$Game" "prices"), (Jvm.Cond.laysFinal "SaltMarket$Game" "SaltMarket$Game" "settings" "[I"), (Jvm.Cond.soleField "SaltMarket$Game" "settings"), (Jvm.Cond.lays "SaltMarket$Game" "SaltMarket$Game" "count" "I"), (Jvm.Cond.soleField "SaltMarket$Game" "count"), (Jvm.Cond.lays "SaltMarket$Game" "SaltMarket$Game" "turn" "I"), (Jvm.Cond.soleField "SaltMarket$Game" "turn"), (Jvm.Cond.lays "SaltMarket$Game" "SaltMarket$Game" "first" "I"), (Jvm.Cond.soleField "SaltMarket$Game" "first"), (Jvm.Cond.lays "SaltMarket$Game" "SaltMarket$Game" "weather" "I"), (Jvm.Cond.soleField "SaltMarket$Game" "weather"), (Jvm.Cond.lays "SaltMarket$Game" "SaltMarket$Game" "ended" "I"), (Jvm.Cond.soleField "SaltMarket$Game" "ended"), (Jvm.Cond.lays "SaltMarket$Game" "SaltMarket$Game" "bumpings" "I"), (Jvm.Cond.soleField "SaltMarket$Game" "bumpings"), (Jvm.Cond.lays "SaltMarket$Game" "SaltMarket$Game" "lost" "I"), (Jvm.Cond.soleField "SaltMarket$Game" "lost"), (Jvm.Cond.lays "SaltMarket$Game" "SaltMarket$Game" "x" "J"), (Jvm.Cond.soleField "SaltMarket$Game" "x"), (Jvm.Cond.laysFinal "SaltMarket$Game" "SaltMarket$Game" "after" "LSaltMarket$Player;"), (Jvm.Cond.soleField "SaltMarket$Game" "after"), (Jvm.Cond.lays "SaltMarket$Game" "SaltMarket$Game" "bestWorth" "I"), (Jvm.Cond.soleField "SaltMarket$Game" "bestWorth")]
def ck_1_5 : List Cond := [(Jvm.Cond.lays "SaltMarket$Game" "SaltMarket$Game" "bestPlace" "I"), (Jvm.Cond.soleField "SaltMarket$Game" "bestPlace"), (Jvm.Cond.lays "SaltMarket$Game" "SaltMarket$Game" "bestChoice" "I"), (Jvm.Cond.soleField "SaltMarket$Game" "bestChoice"), (Jvm.Cond.superclass "SaltMarket$Game" "java/lang/Object"), (Jvm.Cond.classLink "SaltMarket" (26 : Nat) "SaltMarket$History"), (Jvm.Cond.instantiable "SaltMarket$History" (3 : Nat)), (Jvm.Cond.methodLink "SaltMarket" (28 : Nat) ({ cls := "SaltMarket$History", name := "<init>", desc := "()V" } : Jvm.MethodName)), (Jvm.Cond.instanceMethod ({ cls := "SaltMarket$History", name := "<init>", desc := "()V" } : Jvm.MethodName)), (Jvm.Cond.code ({ cls := "SaltMarket$History", name := "<init>", desc := "()V" } : Jvm.MethodName) prog_3_method_1_code (2 : Nat) (Option.none : Option Jvm.ClassFile.FieldType)), (Jvm.Cond.methodLink "SaltMarket$History" (1 : Nat) ({ cls := "java/lang/Object", name := "<init>", desc := "()V" } : Jvm.MethodName)), (Jvm.Cond.classLink "SaltMarket$History" (9 : Nat) "SaltMarket$Game"), (Jvm.Cond.arrayOver (Jvm.ClassFile.FieldType.object "SaltMarket$Game")), (Jvm.Cond.methodLink "SaltMarket$History" (22 : Nat) ({ cls := "SaltMarket$Game", name := "<init>", desc := "()V" } : Jvm.MethodName)), (Jvm.Cond.fieldLink "SaltMarket$History" (11 : Nat) "SaltMarket$History" "states" "[LSaltMarket$Game;"), (Jvm.Cond.fieldLink "SaltMarket$History" (15 : Nat) "SaltMarket$History" "count" "I"), (Jvm.Cond.fieldLink "SaltMarket" (192 : Nat) "SaltMarket$History" "count" "I"), (Jvm.Cond.fieldLink "SaltMarket$History" (19 : Nat) "SaltMarket$History" "next" "I"), (Jvm.Cond.laysFinal "SaltMarket$History" "SaltMarket$History" "states" "[LSaltMarket$Game;"), (Jvm.Cond.soleField "SaltMarket$History" "states"), (Jvm.Cond.lays "SaltMarket$History" "SaltMarket$History" "count" "I"), (Jvm.Cond.soleField "SaltMarket$History" "count"), (Jvm.Cond.lays "SaltMarket$History" "SaltMarket$History" "next" "I"), (Jvm.Cond.soleField "SaltMarket$History" "next"), (Jvm.Cond.superclass "SaltMarket$History" "java/lang/Object"), (Jvm.Cond.fieldLink "SaltMarket" (10 : Nat) "SaltMarket" "text" "LSaltMarket$Text;"), (Jvm.Cond.fieldLink "SaltMarket" (19 : Nat) "SaltMarket" "now" "LSaltMarket$Game;"), (Jvm.Cond.fieldLink "SaltMarket" (23 : Nat) "SaltMarket" "trial" "LSaltMarket$Game;"), (Jvm.Cond.fieldLink "SaltMarket" (29 : Nat) "SaltMarket" "history" "LSaltMarket$History;"), (Jvm.Cond.fieldLink "SaltMarket" (33 : Nat) "SaltMarket" "slots" "[LSaltMarket$Game;")]
def ck_1_6 : List Cond := [(Jvm.Cond.fieldLink "SaltMarket" (37 : Nat) "SaltMarket" "filled" "[Z"), (Jvm.Cond.laysFinal "SaltMarket" "SaltMarket" "text" "LSaltMarket$Text;"), (Jvm.Cond.soleField "SaltMarket" "text"), (Jvm.Cond.laysFinal "SaltMarket" "SaltMarket" "now" "LSaltMarket$Game;"), (Jvm.Cond.soleField "SaltMarket" "now"), (Jvm.Cond.laysFinal "SaltMarket" "SaltMarket" "trial" "LSaltMarket$Game;"), (Jvm.Cond.soleField "SaltMarket" "trial"), (Jvm.Cond.laysFinal "SaltMarket" "SaltMarket" "history" "LSaltMarket$History;"), (Jvm.Cond.soleField "SaltMarket" "history"), (Jvm.Cond.laysFinal "SaltMarket" "SaltMarket" "slots" "[LSaltMarket$Game;"), (Jvm.Cond.soleField "SaltMarket" "slots"), (Jvm.Cond.laysFinal "SaltMarket" "SaltMarket" "filled" "[Z"), (Jvm.Cond.soleField "SaltMarket" "filled"), (Jvm.Cond.superclass "SaltMarket" "java/lang/Object"), (Jvm.Cond.arrayClass Jvm.ClassFile.FieldType.boolean), (Jvm.Cond.methodLink "SaltMarketLaw" (99 : Nat) ({ cls := "SaltMarket", name := "clearText", desc := "()I" } : Jvm.MethodName)), (Jvm.Cond.instanceMethod ({ cls := "SaltMarket", name := "clearText", desc := "()I" } : Jvm.MethodName)), (Jvm.Cond.selects "SaltMarket" ({ cls := "SaltMarket", name := "clearText", desc := "()I" } : Jvm.MethodName) ({ cls := "SaltMarket", name := "clearText", desc := "()I" } : Jvm.MethodName)), (Jvm.Cond.code ({ cls := "SaltMarket", name := "clearText", desc := "()I" } : Jvm.MethodName) prog_1_method_3_code (2 : Nat) (Option.some Jvm.ClassFile.FieldType.int)), (Jvm.Cond.methodLink "SaltMarketLaw" (103 : Nat) ({ cls := "SaltMarket", name := "errorPosition", desc := "()I" } : Jvm.MethodName)), (Jvm.Cond.instanceMethod ({ cls := "SaltMarket", name := "errorPosition", desc := "()I" } : Jvm.MethodName)), (Jvm.Cond.selects "SaltMarket" ({ cls := "SaltMarket", name := "errorPosition", desc := "()I" } : Jvm.MethodName) ({ cls := "SaltMarket", name := "errorPosition", desc := "()I" } : Jvm.MethodName)), (Jvm.Cond.code ({ cls := "SaltMarket", name := "errorPosition", desc := "()I" } : Jvm.MethodName) prog_1_method_4_code (1 : Nat) (Option.some Jvm.ClassFile.FieldType.int)), (Jvm.Cond.methodLink "SaltMarket" (61 : Nat) ({ cls := "SaltMarket$Text", name := "findFault", desc := "()I" } : Jvm.MethodName)), (Jvm.Cond.instanceMethod ({ cls := "SaltMarket$Text", name := "findFault", desc := "()I" } : Jvm.MethodName)), (Jvm.Cond.selects "SaltMarket$Text" ({ cls := "SaltMarket$Text", name := "findFault", desc := "()I" } : Jvm.MethodName) ({ cls := "SaltMarket$Text", name := "findFault", desc := "()I" } : Jvm.MethodName)), (Jvm.Cond.code ({ cls := "SaltMarket$Text", name := "findFault", desc := "()I" } : Jvm.MethodName) prog_6_method_6_code (3 : Nat) (Option.some Jvm.ClassFile.FieldType.int)), (Jvm.Cond.methodLink "SaltMarket$Text" (23 : Nat) ({ cls := "SaltMarket$Text", name := "isBetween", desc := "(ICC)Z" } : Jvm.MethodName)), (Jvm.Cond.instanceMethod ({ cls := "SaltMarket$Text", name := "isBetween", desc := "(ICC)Z" } : Jvm.MethodName)), (Jvm.Cond.selects "SaltMarket$Text" ({ cls := "SaltMarket$Text", name := "isBetween", desc := "(ICC)Z" } : Jvm.MethodName) ({ cls := "SaltMarket$Text", name := "isBetween", desc := "(ICC)Z" } : Jvm.MethodName))]
def ck_1_7 : List Cond := [(Jvm.Cond.code ({ cls := "SaltMarket$Text", name := "isBetween", desc := "(ICC)Z" } : Jvm.MethodName) prog_6_method_4_code (4 : Nat) (Option.some Jvm.ClassFile.FieldType.boolean)), (Jvm.Cond.methodLink "SaltMarket$Text" (19 : Nat) ({ cls := "SaltMarket$Text", name := "signAt", desc := "(I)C" } : Jvm.MethodName)), (Jvm.Cond.instanceMethod ({ cls := "SaltMarket$Text", name := "signAt", desc := "(I)C" } : Jvm.MethodName)), (Jvm.Cond.selects "SaltMarket$Text" ({ cls := "SaltMarket$Text", name := "signAt", desc := "(I)C" } : Jvm.MethodName) ({ cls := "SaltMarket$Text", name := "signAt", desc := "(I)C" } : Jvm.MethodName)), (Jvm.Cond.code ({ cls := "SaltMarket$Text", name := "signAt", desc := "(I)C" } : Jvm.MethodName) prog_6_method_3_code (2 : Nat) (Option.some Jvm.ClassFile.FieldType.char)), (Jvm.Cond.methodLink "SaltMarket$Text" (27 : Nat) ({ cls := "SaltMarket$Text", name := "findMoveFault", desc := "(I)I" } : Jvm.MethodName)), (Jvm.Cond.instanceMethod ({ cls := "SaltMarket$Text", name := "findMoveFault", desc := "(I)I" } : Jvm.MethodName)), (Jvm.Cond.selects "SaltMarket$Text" ({ cls := "SaltMarket$Text", name := "findMoveFault", desc := "(I)I" } : Jvm.MethodName) ({ cls := "SaltMarket$Text", name := "findMoveFault", desc := "(I)I" } : Jvm.MethodName)), (Jvm.Cond.code ({ cls := "SaltMarket$Text", name := "findMoveFault", desc := "(I)I" } : Jvm.MethodName) prog_6_method_7_code (2 : Nat) (Option.some Jvm.ClassFile.FieldType.int)), (Jvm.Cond.methodLink "SaltMarket$Text" (31 : Nat) ({ cls := "SaltMarket$Text", name := "moveLength", desc := "(I)I" } : Jvm.MethodName)), (Jvm.Cond.instanceMethod ({ cls := "SaltMarket$Text", name := "moveLength", desc := "(I)I" } : Jvm.MethodName)), (Jvm.Cond.selects "SaltMarket$Text" ({ cls := "SaltMarket$Text", name := "moveLength", desc := "(I)I" } : Jvm.MethodName) ({ cls := "SaltMarket$Text", name := "moveLength", desc := "(I)I" } : Jvm.MethodName)), (Jvm.Cond.code ({ cls := "SaltMarket$Text", name := "moveLength", desc := "(I)I" } : Jvm.MethodName) prog_6_method_10_code (2 : Nat) (Option.some Jvm.ClassFile.FieldType.int)), (Jvm.Cond.methodLink "SaltMarketLaw" (90 : Nat) ({ cls := "SaltMarketLaw", name := "append", desc := "(LSaltMarket;I[J)I" } : Jvm.MethodName)), (Jvm.Cond.static ({ cls := "SaltMarketLaw", name := "append", desc := "(LSaltMarket;I[J)I" } : Jvm.MethodName)), (Jvm.Cond.codeWith ({ cls := "SaltMarketLaw", name := "append", desc := "(LSaltMarket;I[J)I" } : Jvm.MethodName) method_3_code (4 : Nat) (Option.some Jvm.ClassFile.FieldType.int) [((0 : Nat), (9 : Nat), (12 : Nat), (13 : Nat)), ((0 : Nat), (9 : Nat), (15 : Nat), (15 : Nat))]), (Jvm.Cond.classLink "SaltMarketLaw" (13 : Nat) "java/lang/IllegalArgumentException"), (Jvm.Cond.classLink "SaltMarketLaw" (15 : Nat) "java/lang/IllegalStateException"), (Jvm.Cond.methodLink "SaltMarketLaw" (7 : Nat) ({ cls := "SaltMarket", name := "append", desc := "(I)I" } : Jvm.MethodName)), (Jvm.Cond.instanceMethod ({ cls := "SaltMarket", name := "append", desc := "(I)I" } : Jvm.MethodName)), (Jvm.Cond.selects "SaltMarket" ({ cls := "SaltMarket", name := "append", desc := "(I)I" } : Jvm.MethodName) ({ cls := "SaltMarket", name := "append", desc := "(I)I" } : Jvm.MethodName)), (Jvm.Cond.code ({ cls := "SaltMarket", name := "append", desc := "(I)I" } : Jvm.MethodName) prog_1_method_2_code (2 : Nat) (Option.some Jvm.ClassFile.FieldType.int)), (Jvm.Cond.classLink "SaltMarket" (41 : Nat) "java/lang/IllegalArgumentException"), (Jvm.Cond.instantiable "java/lang/IllegalArgumentException" (6 : Nat)), (Jvm.Cond.castable "java/lang/IllegalArgumentException" "java/lang/IllegalArgumentException"), (Jvm.Cond.declares ({ cls := "java/lang/RuntimeException", name := "<init>", desc := "()V" } : Jvm.MethodName)), (Jvm.Cond.declares ({ cls := "java/lang/RuntimeException", name := "<init>", desc := "(Ljava/lang/String;)V" } : Jvm.MethodName)), (Jvm.Cond.declares ({ cls := "java/lang/Exception", name := "<init>", desc := "()V" } : Jvm.MethodName)), (Jvm.Cond.declares ({ cls := "java/lang/Exception", name := "<init>", desc := "(Ljava/lang/String;)V" } : Jvm.MethodName)), (Jvm.Cond.declares ({ cls := "java/lang/Throwable", name := "<init>", desc := "()V" } : Jvm.MethodName))]
def ck_2_0 : List Cond := [(Jvm.Cond.declares ({ cls := "java/lang/Throwable", name := "<init>", desc := "(Ljava/lang/String;)V" } : Jvm.MethodName)), (Jvm.Cond.selects "java/lang/IllegalArgumentException" ({ cls := "java/lang/Throwable", name := "fillInStackTrace", desc := "(I)Ljava/lang/Throwable;" } : Jvm.MethodName) ({ cls := "java/lang/Throwable", name := "fillInStackTrace", desc := "(I)Ljava/lang/Throwable;" } : Jvm.MethodName)), (Jvm.Cond.selects "java/lang/IllegalArgumentException" ({ cls := "java/lang/Throwable", name := "fillInStackTrace", desc := "()Ljava/lang/Throwable;" } : Jvm.MethodName) ({ cls := "java/lang/Throwable", name := "fillInStackTrace", desc := "()Ljava/lang/Throwable;" } : Jvm.MethodName)), (Jvm.Cond.lays "java/lang/IllegalArgumentException" "java/lang/Throwable" "cause" "Ljava/lang/Throwable;"), (Jvm.Cond.lays "java/lang/Throwable" "java/lang/Throwable" "cause" "Ljava/lang/Throwable;"), (Jvm.Cond.lays "java/lang/IllegalArgumentException" "java/lang/Throwable" "stackTrace" "[Ljava/lang/StackTraceElement;"), (Jvm.Cond.lays "java/lang/Throwable" "java/lang/Throwable" "stackTrace" "[Ljava/lang/StackTraceElement;"), (Jvm.Cond.lays "java/lang/IllegalArgumentException" "java/lang/Throwable" "suppressedExceptions" "Ljava/util/List;"), (Jvm.Cond.lays "java/lang/Throwable" "java/lang/Throwable" "suppressedExceptions" "Ljava/util/List;"), (Jvm.Cond.lays "java/lang/IllegalArgumentException" "java/lang/Throwable" "detailMessage" "Ljava/lang/String;"), (Jvm.Cond.lays "java/lang/Throwable" "java/lang/Throwable" "detailMessage" "Ljava/lang/String;"), (Jvm.Cond.lays "java/lang/IllegalArgumentException" "java/lang/Throwable" "backtrace" "Ljava/lang/Object;"), (Jvm.Cond.lays "java/lang/Throwable" "java/lang/Throwable" "backtrace" "Ljava/lang/Object;"), (Jvm.Cond.fieldLink "java/lang/Throwable" (198 : Nat) "java/lang/Throwable" "backtrace" "Ljava/lang/Object;"), (Jvm.Cond.superclass "java/lang/Throwable" "java/lang/Object"), (Jvm.Cond.instanceMethod ({ cls := "java/lang/Throwable", name := "<init>", desc := "()V" } : Jvm.MethodName)), (Jvm.Cond.code ({ cls := "java/lang/Throwable", name := "<init>", desc := "()V" } : Jvm.MethodName) prog_16_method_1_code (1 : Nat) (Option.none : Option Jvm.ClassFile.FieldType)), (Jvm.Cond.methodLink "java/lang/Throwable" (1 : Nat) ({ cls := "java/lang/Object", name := "<init>", desc := "()V" } : Jvm.MethodName)), (Jvm.Cond.fieldLink "java/lang/Throwable" (13 : Nat) "java/lang/Throwable" "UNASSIGNED_STACK" "[Ljava/lang/StackTraceElement;"), (Jvm.Cond.laysStatic "java/lang/Throwable" "UNASSIGNED_STACK" "[Ljava/lang/StackTraceElement;"), (Jvm.Cond.fieldLink "java/lang/Throwable" (20 : Nat) "java/lang/Throwable" "SUPPRESSED_SENTINEL" "Ljava/util/List;"), (Jvm.Cond.laysStatic "java/lang/Throwable" "SUPPRESSED_SENTINEL" "Ljava/util/List;"), (Jvm.Cond.methodLink "java/lang/Throwable" (27 : Nat) ({ cls := "java/lang/Throwable", name := "fillInStackTrace", desc := "()Ljava/lang/Throwable;" } : Jvm.MethodName)), (Jvm.Cond.instanceMethod ({ cls := "java/lang/Throwable", name := "fillInStackTrace", desc := "()Ljava/lang/Throwable;" } : Jvm.MethodName)), (Jvm.Cond.sameMethod "java/lang/Throwable" "java/lang/Throwable" "fillInStackTrace" "()Ljava/lang/Throwable;"), (Jvm.Cond.selects "java/lang/IllegalStateException" ({ cls := "java/lang/Throwable", name := "fillInStackTrace", desc := "()Ljava/lang/Throwable;" } : Jvm.MethodName) ({ cls := "java/lang/Throwable", name := "fillInStackTrace", desc := "()Ljava/lang/Throwable;" } : Jvm.MethodName)), (Jvm.Cond.selects "java/lang/IndexOutOfBoundsException" ({ cls := "java/lang/Throwable", name := "fillInStackTrace", desc := "()Ljava/lang/Throwable;" } : Jvm.MethodName) ({ cls := "java/lang/Throwable", name := "fillInStackTrace", desc := "()Ljava/lang/Throwable;" } : Jvm.MethodName)), (Jvm.Cond.codeSync ({ cls := "java/lang/Throwable", name := "fillInStackTrace", desc := "()Ljava/lang/Throwable;" } : Jvm.MethodName) prog_16_method_18_code (1 : Nat) (Option.some (Jvm.ClassFile.FieldType.object "java/lang/Throwable"))), (Jvm.Cond.methodLink "java/lang/Throwable" (202 : Nat) ({ cls := "java/lang/Throwable", name := "fillInStackTrace", desc := "(I)Ljava/lang/Throwable;" } : Jvm.MethodName)), (Jvm.Cond.privateMethod ({ cls := "java/lang/Throwable", name := "fillInStackTrace", desc := "(I)Ljava/lang/Throwable;" } : Jvm.MethodName))]
def ck_2_1 : List Cond := [(Jvm.Cond.instanceMethod ({ cls := "java/lang/Throwable", name := "fillInStackTrace", desc := "(I)Ljava/lang/Throwable;" } : Jvm.MethodName)), (Jvm.Cond.instantiable "java/lang/Throwable" (6 : Nat)), (Jvm.Cond.native ({ cls := "java/lang/Throwable", name := "fillInStackTrace", desc := "(I)Ljava/lang/Throwable;" } : Jvm.MethodName)), (Jvm.Cond.stringRef "SaltMarket" (43 : Nat) "a character code is 0 to 255"), (Jvm.Cond.methodLink "SaltMarket" (45 : Nat) ({ cls := "java/lang/IllegalArgumentException", name := "<init>", desc := "(Ljava/lang/String;)V" } : Jvm.MethodName)), (Jvm.Cond.instanceMethod ({ cls := "java/lang/IllegalArgumentException", name := "<init>", desc := "(Ljava/lang/String;)V" } : Jvm.MethodName)), (Jvm.Cond.code ({ cls := "java/lang/IllegalArgumentException", name := "<init>", desc := "(Ljava/lang/String;)V" } : Jvm.MethodName) prog_10_method_2_code (2 : Nat) (Option.none : Option Jvm.ClassFile.FieldType)), (Jvm.Cond.methodLink "java/lang/IllegalArgumentException" (7 : Nat) ({ cls := "java/lang/RuntimeException", name := "<init>", desc := "(Ljava/lang/String;)V" } : Jvm.MethodName)), (Jvm.Cond.instanceMethod ({ cls := "java/lang/RuntimeException", name := "<init>", desc := "(Ljava/lang/String;)V" } : Jvm.MethodName)), (Jvm.Cond.code ({ cls := "java/lang/RuntimeException", name := "<init>", desc := "(Ljava/lang/String;)V" } : Jvm.MethodName) prog_14_method_2_code (2 : Nat) (Option.none : Option Jvm.ClassFile.FieldType)), (Jvm.Cond.methodLink "java/lang/RuntimeException" (7 : Nat) ({ cls := "java/lang/Exception", name := "<init>", desc := "(Ljava/lang/String;)V" } : Jvm.MethodName)), (Jvm.Cond.instanceMethod ({ cls := "java/lang/Exception", name := "<init>", desc := "(Ljava/lang/String;)V" } : Jvm.MethodName)), (Jvm.Cond.code ({ cls := "java/lang/Exception", name := "<init>", desc := "(Ljava/lang/String;)V" } : Jvm.MethodName) prog_9_method_2_code (2 : Nat) (Option.none : Option Jvm.ClassFile.FieldType)), (Jvm.Cond.methodLink "java/lang/Exception" (7 : Nat) ({ cls := "java/lang/Throwable", name := "<init>", desc := "(Ljava/lang/String;)V" } : Jvm.MethodName)), (Jvm.Cond.instanceMethod ({ cls := "java/lang/Throwable", name := "<init>", desc := "(Ljava/lang/String;)V" } : Jvm.MethodName)), (Jvm.Cond.code ({ cls := "java/lang/Throwable", name := "<init>", desc := "(Ljava/lang/String;)V" } : Jvm.MethodName) prog_16_method_2_code (2 : Nat) (Option.none : Option Jvm.ClassFile.FieldType)), (Jvm.Cond.fieldLink "java/lang/Throwable" (198 : Nat) "java/lang/Throwable" "backtrace" "Ljava/lang/Object;"), (Jvm.Cond.fieldLink "java/lang/Throwable" (31 : Nat) "java/lang/Throwable" "detailMessage" "Ljava/lang/String;"), (Jvm.Cond.fieldLink "java/lang/Throwable" (7 : Nat) "java/lang/Throwable" "cause" "Ljava/lang/Throwable;"), (Jvm.Cond.fieldLink "java/lang/Throwable" (17 : Nat) "java/lang/Throwable" "stackTrace" "[Ljava/lang/StackTraceElement;"), (Jvm.Cond.fieldLink "java/lang/Throwable" (24 : Nat) "java/lang/Throwable" "suppressedExceptions" "Ljava/util/List;"), (Jvm.Cond.soleField "java/lang/Throwable" "backtrace"), (Jvm.Cond.soleField "java/lang/Throwable" "detailMessage"), (Jvm.Cond.soleField "java/lang/Throwable" "cause"), (Jvm.Cond.soleField "java/lang/Throwable" "stackTrace"), (Jvm.Cond.lays "java/lang/IllegalArgumentException" "java/lang/Throwable" "depth" "I"), (Jvm.Cond.soleField "java/lang/Throwable" "depth"), (Jvm.Cond.soleField "java/lang/Throwable" "suppressedExceptions"), (Jvm.Cond.superclass "java/lang/IllegalArgumentException" "java/lang/RuntimeException"), (Jvm.Cond.arrayClass Jvm.ClassFile.FieldType.byte)]
def ck_2_2 : List Cond := [(Jvm.Cond.methodLink "SaltMarket" (48 : Nat) ({ cls := "SaltMarket$Text", name := "add", desc := "(C)Z" } : Jvm.MethodName)), (Jvm.Cond.instanceMethod ({ cls := "SaltMarket$Text", name := "add", desc := "(C)Z" } : Jvm.MethodName)), (Jvm.Cond.selects "SaltMarket$Text" ({ cls := "SaltMarket$Text", name := "add", desc := "(C)Z" } : Jvm.MethodName) ({ cls := "SaltMarket$Text", name := "add", desc := "(C)Z" } : Jvm.MethodName)), (Jvm.Cond.code ({ cls := "SaltMarket$Text", name := "add", desc := "(C)Z" } : Jvm.MethodName) prog_6_method_2_code (2 : Nat) (Option.some Jvm.ClassFile.FieldType.boolean)), (Jvm.Cond.classLink "SaltMarket" (52 : Nat) "java/lang/IllegalStateException"), (Jvm.Cond.instantiable "java/lang/IllegalStateException" (6 : Nat)), (Jvm.Cond.castable "java/lang/IllegalStateException" "java/lang/IllegalStateException"), (Jvm.Cond.selects "java/lang/IllegalStateException" ({ cls := "java/lang/Throwable", name := "fillInStackTrace", desc := "(I)Ljava/lang/Throwable;" } : Jvm.MethodName) ({ cls := "java/lang/Throwable", name := "fillInStackTrace", desc := "(I)Ljava/lang/Throwable;" } : Jvm.MethodName)), (Jvm.Cond.lays "java/lang/IllegalStateException" "java/lang/Throwable" "cause" "Ljava/lang/Throwable;"), (Jvm.Cond.lays "java/lang/IllegalStateException" "java/lang/Throwable" "stackTrace" "[Ljava/lang/StackTraceElement;"), (Jvm.Cond.lays "java/lang/IllegalStateException" "java/lang/Throwable" "suppressedExceptions" "Ljava/util/List;"), (Jvm.Cond.lays "java/lang/IllegalStateException" "java/lang/Throwable" "detailMessage" "Ljava/lang/String;"), (Jvm.Cond.lays "java/lang/IllegalStateException" "java/lang/Throwable" "backtrace" "Ljava/lang/Object;"), (Jvm.Cond.stringRef "SaltMarket" (54 : Nat) "the text is full"), (Jvm.Cond.methodLink "SaltMarket" (56 : Nat) ({ cls := "java/lang/IllegalStateException", name := "<init>", desc := "(Ljava/lang/String;)V" } : Jvm.MethodName)), (Jvm.Cond.instanceMethod ({ cls := "java/lang/IllegalStateException", name := "<init>", desc := "(Ljava/lang/String;)V" } : Jvm.MethodName)), (Jvm.Cond.code ({ cls := "java/lang/IllegalStateException", name := "<init>", desc := "(Ljava/lang/String;)V" } : Jvm.MethodName) prog_11_method_2_code (2 : Nat) (Option.none : Option Jvm.ClassFile.FieldType)), (Jvm.Cond.methodLink "java/lang/IllegalStateException" (7 : Nat) ({ cls := "java/lang/RuntimeException", name := "<init>", desc := "(Ljava/lang/String;)V" } : Jvm.MethodName)), (Jvm.Cond.lays "java/lang/IllegalStateException" "java/lang/Throwable" "depth" "I"), (Jvm.Cond.superclass "java/lang/IllegalStateException" "java/lang/RuntimeException"), (Jvm.Cond.methodLink "SaltMarketLaw" (107 : Nat) ({ cls := "SaltMarketLaw", name := "load", desc := "(LSaltMarket;[J)I" } : Jvm.MethodName)), (Jvm.Cond.static ({ cls := "SaltMarketLaw", name := "load", desc := "(LSaltMarket;[J)I" } : Jvm.MethodName)), (Jvm.Cond.codeWith ({ cls := "SaltMarketLaw", name := "load", desc := "(LSaltMarket;[J)I" } : Jvm.MethodName) method_4_code (3 : Nat) (Option.some Jvm.ClassFile.FieldType.int) [((0 : Nat), (8 : Nat), (11 : Nat), (15 : Nat))]), (Jvm.Cond.methodLink "SaltMarketLaw" (17 : Nat) ({ cls := "SaltMarket", name := "load", desc := "()I" } : Jvm.MethodName)), (Jvm.Cond.instanceMethod ({ cls := "SaltMarket", name := "load", desc := "()I" } : Jvm.MethodName)), (Jvm.Cond.selects "SaltMarket" ({ cls := "SaltMarket", name := "load", desc := "()I" } : Jvm.MethodName) ({ cls := "SaltMarket", name := "load", desc := "()I" } : Jvm.MethodName)), (Jvm.Cond.code ({ cls := "SaltMarket", name := "load", desc := "()I" } : Jvm.MethodName) prog_1_method_5_code (2 : Nat) (Option.some Jvm.ClassFile.FieldType.int)), (Jvm.Cond.stringRef "SaltMarket" (65 : Nat) "the text is not a game"), (Jvm.Cond.methodLink "SaltMarket" (67 : Nat) ({ cls := "SaltMarket$Game", name := "clearAll", desc := "()V" } : Jvm.MethodName)), (Jvm.Cond.instanceMethod ({ cls := "SaltMarket$Game", name := "clearAll", desc := "()V" } : Jvm.MethodName))]
def ck_2_3 : List Cond := [(Jvm.Cond.selects "SaltMarket$Game" ({ cls := "SaltMarket$Game", name := "clearAll", desc := "()V" } : Jvm.MethodName) ({ cls := "SaltMarket$Game", name := "clearAll", desc := "()V" } : Jvm.MethodName)), (Jvm.Cond.code ({ cls := "SaltMarket$Game", name := "clearAll", desc := "()V" } : Jvm.MethodName) prog_2_method_2_code (2 : Nat) (Option.none : Option Jvm.ClassFile.FieldType)), (Jvm.Cond.methodLink "SaltMarket" (70 : Nat) ({ cls := "SaltMarket$History", name := "forget", desc := "()V" } : Jvm.MethodName)), (Jvm.Cond.instanceMethod ({ cls := "SaltMarket$History", name := "forget", desc := "()V" } : Jvm.MethodName)), (Jvm.Cond.selects "SaltMarket$History" ({ cls := "SaltMarket$History", name := "forget", desc := "()V" } : Jvm.MethodName) ({ cls := "SaltMarket$History", name := "forget", desc := "()V" } : Jvm.MethodName)), (Jvm.Cond.code ({ cls := "SaltMarket$History", name := "forget", desc := "()V" } : Jvm.MethodName) prog_3_method_2_code (1 : Nat) (Option.none : Option Jvm.ClassFile.FieldType)), (Jvm.Cond.methodLink "SaltMarket" (73 : Nat) ({ cls := "SaltMarket$Text", name := "players", desc := "()I" } : Jvm.MethodName)), (Jvm.Cond.instanceMethod ({ cls := "SaltMarket$Text", name := "players", desc := "()I" } : Jvm.MethodName)), (Jvm.Cond.selects "SaltMarket$Text" ({ cls := "SaltMarket$Text", name := "players", desc := "()I" } : Jvm.MethodName) ({ cls := "SaltMarket$Text", name := "players", desc := "()I" } : Jvm.MethodName)), (Jvm.Cond.code ({ cls := "SaltMarket$Text", name := "players", desc := "()I" } : Jvm.MethodName) prog_6_method_8_code (1 : Nat) (Option.some Jvm.ClassFile.FieldType.int)), (Jvm.Cond.methodLink "SaltMarket$Text" (34 : Nat) ({ cls := "SaltMarket$Text", name := "digitAt", desc := "(I)I" } : Jvm.MethodName)), (Jvm.Cond.instanceMethod ({ cls := "SaltMarket$Text", name := "digitAt", desc := "(I)I" } : Jvm.MethodName)), (Jvm.Cond.selects "SaltMarket$Text" ({ cls := "SaltMarket$Text", name := "digitAt", desc := "(I)I" } : Jvm.MethodName) ({ cls := "SaltMarket$Text", name := "digitAt", desc := "(I)I" } : Jvm.MethodName)), (Jvm.Cond.code ({ cls := "SaltMarket$Text", name := "digitAt", desc := "(I)I" } : Jvm.MethodName) prog_6_method_5_code (2 : Nat) (Option.some Jvm.ClassFile.FieldType.int)), (Jvm.Cond.methodLink "SaltMarket" (76 : Nat) ({ cls := "SaltMarket$Text", name := "seed", desc := "()I" } : Jvm.MethodName)), (Jvm.Cond.instanceMethod ({ cls := "SaltMarket$Text", name := "seed", desc := "()I" } : Jvm.MethodName)), (Jvm.Cond.selects "SaltMarket$Text" ({ cls := "SaltMarket$Text", name := "seed", desc := "()I" } : Jvm.MethodName) ({ cls := "SaltMarket$Text", name := "seed", desc := "()I" } : Jvm.MethodName)), (Jvm.Cond.code ({ cls := "SaltMarket$Text", name := "seed", desc := "()I" } : Jvm.MethodName) prog_6_method_9_code (1 : Nat) (Option.some Jvm.ClassFile.FieldType.int)), (Jvm.Cond.methodLink "SaltMarket" (79 : Nat) ({ cls := "SaltMarket$Game", name := "startGame", desc := "(IJ)V" } : Jvm.MethodName)), (Jvm.Cond.instanceMethod ({ cls := "SaltMarket$Game", name := "startGame", desc := "(IJ)V" } : Jvm.MethodName)), (Jvm.Cond.selects "SaltMarket$Game" ({ cls := "SaltMarket$Game", name := "startGame", desc := "(IJ)V" } : Jvm.MethodName) ({ cls := "SaltMarket$Game", name := "startGame", desc := "(IJ)V" } : Jvm.MethodName)), (Jvm.Cond.code ({ cls := "SaltMarket$Game", name := "startGame", desc := "(IJ)V" } : Jvm.MethodName) prog_2_method_3_code (5 : Nat) (Option.none : Option Jvm.ClassFile.FieldType)), (Jvm.Cond.methodLink "SaltMarket$Game" (74 : Nat) ({ cls := "SaltMarket$Player", name := "clear", desc := "()V" } : Jvm.MethodName)), (Jvm.Cond.instanceMethod ({ cls := "SaltMarket$Player", name := "clear", desc := "()V" } : Jvm.MethodName)), (Jvm.Cond.selects "SaltMarket$Player" ({ cls := "SaltMarket$Player", name := "clear", desc := "()V" } : Jvm.MethodName) ({ cls := "SaltMarket$Player", name := "clear", desc := "()V" } : Jvm.MethodName)), (Jvm.Cond.code ({ cls := "SaltMarket$Player", name := "clear", desc := "()V" } : Jvm.MethodName) prog_5_method_2_code (2 : Nat) (Option.none : Option Jvm.ClassFile.FieldType)), (Jvm.Cond.methodLink "SaltMarket$Player" (32 : Nat) ({ cls := "SaltMarket$Player", name := "startRound", desc := "()V" } : Jvm.MethodName)), (Jvm.Cond.instanceMethod ({ cls := "SaltMarket$Player", name := "startRound", desc := "()V" } : Jvm.MethodName)), (Jvm.Cond.selects "SaltMarket$Player" ({ cls := "SaltMarket$Player", name := "startRound", desc := "()V" } : Jvm.MethodName) ({ cls := "SaltMarket$Player", name := "startRound", desc := "()V" } : Jvm.MethodName)), (Jvm.Cond.code ({ cls := "SaltMarket$Player", name := "startRound", desc := "()V" } : Jvm.MethodName) prog_5_method_3_code (1 : Nat) (Option.none : Option Jvm.ClassFile.FieldType))]
def ck_2_4 : List Cond := [(Jvm.Cond.fieldLinkNest "SaltMarket$Game" (78 : Nat) "SaltMarket" "FIRST_PRICE" "[I" "SaltMarket"), (Jvm.Cond.laysStatic "SaltMarket" "FIRST_PRICE" "[I"), (Jvm.Cond.methodLinkNest "SaltMarket$Game" (81 : Nat) ({ cls := "SaltMarket", name := "nextX", desc := "(J)J" } : Jvm.MethodName) "SaltMarket"), (Jvm.Cond.static ({ cls := "SaltMarket", name := "nextX", desc := "(J)J" } : Jvm.MethodName)), (Jvm.Cond.code ({ cls := "SaltMarket", name := "nextX", desc := "(J)J" } : Jvm.MethodName) prog_1_method_39_code (2 : Nat) (Option.some Jvm.ClassFile.FieldType.long)), (Jvm.Cond.constantLong "SaltMarket" (305 : Nat) (6364136223846793005 : Int64)), (Jvm.Cond.constantLong "SaltMarket" (307 : Nat) (1442695040888963407 : Int64)), (Jvm.Cond.methodLinkNest "SaltMarket$Game" (85 : Nat) ({ cls := "SaltMarket", name := "weatherOf", desc := "(J)I" } : Jvm.MethodName) "SaltMarket"), (Jvm.Cond.static ({ cls := "SaltMarket", name := "weatherOf", desc := "(J)I" } : Jvm.MethodName)), (Jvm.Cond.code ({ cls := "SaltMarket", name := "weatherOf", desc := "(J)I" } : Jvm.MethodName) prog_1_method_40_code (2 : Nat) (Option.some Jvm.ClassFile.FieldType.int)), (Jvm.Cond.methodLink "SaltMarket" (83 : Nat) ({ cls := "SaltMarket", name := "doMoves", desc := "()I" } : Jvm.MethodName)), (Jvm.Cond.privateMethod ({ cls := "SaltMarket", name := "doMoves", desc := "()I" } : Jvm.MethodName)), (Jvm.Cond.instanceMethod ({ cls := "SaltMarket", name := "doMoves", desc := "()I" } : Jvm.MethodName)), (Jvm.Cond.code ({ cls := "SaltMarket", name := "doMoves", desc := "()I" } : Jvm.MethodName) prog_1_method_6_code (3 : Nat) (Option.some Jvm.ClassFile.FieldType.int)), (Jvm.Cond.methodLink "SaltMarket" (86 : Nat) ({ cls := "SaltMarket", name := "doMove", desc := "(I)Z" } : Jvm.MethodName)), (Jvm.Cond.privateMethod ({ cls := "SaltMarket", name := "doMove", desc := "(I)Z" } : Jvm.MethodName)), (Jvm.Cond.instanceMethod ({ cls := "SaltMarket", name := "doMove", desc := "(I)Z" } : Jvm.MethodName)), (Jvm.Cond.code ({ cls := "SaltMarket", name := "doMove", desc := "(I)Z" } : Jvm.MethodName) prog_1_method_7_code (3 : Nat) (Option.some Jvm.ClassFile.FieldType.boolean)), (Jvm.Cond.methodLink "SaltMarket" (94 : Nat) ({ cls := "SaltMarket$Text", name := "movePlace", desc := "(I)I" } : Jvm.MethodName)), (Jvm.Cond.instanceMethod ({ cls := "SaltMarket$Text", name := "movePlace", desc := "(I)I" } : Jvm.MethodName)), (Jvm.Cond.selects "SaltMarket$Text" ({ cls := "SaltMarket$Text", name := "movePlace", desc := "(I)I" } : Jvm.MethodName) ({ cls := "SaltMarket$Text", name := "movePlace", desc := "(I)I" } : Jvm.MethodName)), (Jvm.Cond.code ({ cls := "SaltMarket$Text", name := "movePlace", desc := "(I)I" } : Jvm.MethodName) prog_6_method_11_code (2 : Nat) (Option.some Jvm.ClassFile.FieldType.int)), (Jvm.Cond.methodLink "SaltMarket" (97 : Nat) ({ cls := "SaltMarket$Game", name := "passTurn", desc := "()Z" } : Jvm.MethodName)), (Jvm.Cond.instanceMethod ({ cls := "SaltMarket$Game", name := "passTurn", desc := "()Z" } : Jvm.MethodName)), (Jvm.Cond.selects "SaltMarket$Game" ({ cls := "SaltMarket$Game", name := "passTurn", desc := "()Z" } : Jvm.MethodName) ({ cls := "SaltMarket$Game", name := "passTurn", desc := "()Z" } : Jvm.MethodName)), (Jvm.Cond.code ({ cls := "SaltMarket$Game", name := "passTurn", desc := "()Z" } : Jvm.MethodName) prog_2_method_18_code (1 : Nat) (Option.some Jvm.ClassFile.FieldType.boolean)), (Jvm.Cond.methodLink "SaltMarket$Game" (96 : Nat) ({ cls := "SaltMarket$Game", name := "hasTurn", desc := "()Z" } : Jvm.MethodName)), (Jvm.Cond.instanceMethod ({ cls := "SaltMarket$Game", name := "hasTurn", desc := "()Z" } : Jvm.MethodName)), (Jvm.Cond.selects "SaltMarket$Game" ({ cls := "SaltMarket$Game", name := "hasTurn", desc := "()Z" } : Jvm.MethodName) ({ cls := "SaltMarket$Game", name := "hasTurn", desc := "()Z" } : Jvm.MethodName)), (Jvm.Cond.code ({ cls := "SaltMarket$Game", name := "hasTurn", desc := "()Z" } : Jvm.MethodName) prog_2_method_6_code (1 : Nat) (Option.some Jvm.ClassFile.FieldType.boolean))]
def ck_2_5 : List Cond := [(Jvm.Cond.methodLink "SaltMarket$Game" (164 : Nat) ({ cls := "SaltMarket$Game", name := "endTurn", desc := "()V" } : Jvm.MethodName)), (Jvm.Cond.instanceMethod ({ cls := "SaltMarket$Game", name := "endTurn", desc := "()V" } : Jvm.MethodName)), (Jvm.Cond.selects "SaltMarket$Game" ({ cls := "SaltMarket$Game", name := "endTurn", desc := "()V" } : Jvm.MethodName) ({ cls := "SaltMarket$Game", name := "endTurn", desc := "()V" } : Jvm.MethodName)), (Jvm.Cond.code ({ cls := "SaltMarket$Game", name := "endTurn", desc := "()V" } : Jvm.MethodName) prog_2_method_23_code (3 : Nat) (Option.none : Option Jvm.ClassFile.FieldType)), (Jvm.Cond.methodLink "SaltMarket$Game" (199 : Nat) ({ cls := "SaltMarket$Game", name := "playerBehind", desc := "(I)I" } : Jvm.MethodName)), (Jvm.Cond.instanceMethod ({ cls := "SaltMarket$Game", name := "playerBehind", desc := "(I)I" } : Jvm.MethodName)), (Jvm.Cond.selects "SaltMarket$Game" ({ cls := "SaltMarket$Game", name := "playerBehind", desc := "(I)I" } : Jvm.MethodName) ({ cls := "SaltMarket$Game", name := "playerBehind", desc := "(I)I" } : Jvm.MethodName)), (Jvm.Cond.code ({ cls := "SaltMarket$Game", name := "playerBehind", desc := "(I)I" } : Jvm.MethodName) prog_2_method_22_code (2 : Nat) (Option.some Jvm.ClassFile.FieldType.int)), (Jvm.Cond.methodLink "SaltMarket$Game" (202 : Nat) ({ cls := "SaltMarket$Player", name := "isReady", desc := "()Z" } : Jvm.MethodName)), (Jvm.Cond.instanceMethod ({ cls := "SaltMarket$Player", name := "isReady", desc := "()Z" } : Jvm.MethodName)), (Jvm.Cond.selects "SaltMarket$Player" ({ cls := "SaltMarket$Player", name := "isReady", desc := "()Z" } : Jvm.MethodName) ({ cls := "SaltMarket$Player", name := "isReady", desc := "()Z" } : Jvm.MethodName)), (Jvm.Cond.code ({ cls := "SaltMarket$Player", name := "isReady", desc := "()Z" } : Jvm.MethodName) prog_5_method_7_code (1 : Nat) (Option.some Jvm.ClassFile.FieldType.boolean)), (Jvm.Cond.methodLink "SaltMarket$Game" (205 : Nat) ({ cls := "SaltMarket$Game", name := "endRound", desc := "()V" } : Jvm.MethodName)), (Jvm.Cond.instanceMethod ({ cls := "SaltMarket$Game", name := "endRound", desc := "()V" } : Jvm.MethodName)), (Jvm.Cond.selects "SaltMarket$Game" ({ cls := "SaltMarket$Game", name := "endRound", desc := "()V" } : Jvm.MethodName) ({ cls := "SaltMarket$Game", name := "endRound", desc := "()V" } : Jvm.MethodName)), (Jvm.Cond.code ({ cls := "SaltMarket$Game", name := "endRound", desc := "()V" } : Jvm.MethodName) prog_2_method_24_code (2 : Nat) (Option.none : Option Jvm.ClassFile.FieldType)), (Jvm.Cond.methodLink "SaltMarket$Game" (193 : Nat) ({ cls := "SaltMarket$Player", name := "loseGoods", desc := "(I)I" } : Jvm.MethodName)), (Jvm.Cond.instanceMethod ({ cls := "SaltMarket$Player", name := "loseGoods", desc := "(I)I" } : Jvm.MethodName)), (Jvm.Cond.selects "SaltMarket$Player" ({ cls := "SaltMarket$Player", name := "loseGoods", desc := "(I)I" } : Jvm.MethodName) ({ cls := "SaltMarket$Player", name := "loseGoods", desc := "(I)I" } : Jvm.MethodName)), (Jvm.Cond.code ({ cls := "SaltMarket$Player", name := "loseGoods", desc := "(I)I" } : Jvm.MethodName) prog_5_method_15_code (9 : Nat) (Option.some Jvm.ClassFile.FieldType.int)), (Jvm.Cond.fieldLinkNest "SaltMarket$Player" (57 : Nat) "SaltMarket" "LOSING_ORDER" "[I" "SaltMarket"), (Jvm.Cond.laysStatic "SaltMarket" "LOSING_ORDER" "[I"), (Jvm.Cond.methodLink "SaltMarket$Game" (208 : Nat) ({ cls := "SaltMarket$Player", name := "startRound", desc := "()V" } : Jvm.MethodName)), (Jvm.Cond.methodLink "SaltMarket$Game" (211 : Nat) ({ cls := "java/lang/Math", name := "min", desc := "(II)I" } : Jvm.MethodName)), (Jvm.Cond.static ({ cls := "java/lang/Math", name := "min", desc := "(II)I" } : Jvm.MethodName)), (Jvm.Cond.code ({ cls := "java/lang/Math", name := "min", desc := "(II)I" } : Jvm.MethodName) prog_13_method_69_code (2 : Nat) (Option.some Jvm.ClassFile.FieldType.int)), (Jvm.Cond.methodLink "SaltMarket" (101 : Nat) ({ cls := "SaltMarket$Text", name := "moveChoice", desc := "(I)I" } : Jvm.MethodName)), (Jvm.Cond.instanceMethod ({ cls := "SaltMarket$Text", name := "moveChoice", desc := "(I)I" } : Jvm.MethodName)), (Jvm.Cond.selects "SaltMarket$Text" ({ cls := "SaltMarket$Text", name := "moveChoice", desc := "(I)I" } : Jvm.MethodName) ({ cls := "SaltMarket$Text", name := "moveChoice", desc := "(I)I" } : Jvm.MethodName)), (Jvm.Cond.code ({ cls := "SaltMarket$Text", name := "moveChoice", desc := "(I)I" } : Jvm.MethodName) prog_6_method_12_code (2 : Nat) (Option.some Jvm.ClassFile.FieldType.int))]
def ck_2_6 : List Cond := [(Jvm.Cond.methodLink "SaltMarket" (104 : Nat) ({ cls := "SaltMarket$Game", name := "putWorker", desc := "(II)Z" } : Jvm.MethodName)), (Jvm.Cond.instanceMethod ({ cls := "SaltMarket$Game", name := "putWorker", desc := "(II)Z" } : Jvm.MethodName)), (Jvm.Cond.selects "SaltMarket$Game" ({ cls := "SaltMarket$Game", name := "putWorker", desc := "(II)Z" } : Jvm.MethodName) ({ cls := "SaltMarket$Game", name := "putWorker", desc := "(II)Z" } : Jvm.MethodName)), (Jvm.Cond.code ({ cls := "SaltMarket$Game", name := "putWorker", desc := "(II)Z" } : Jvm.MethodName) prog_2_method_14_code (5 : Nat) (Option.some Jvm.ClassFile.FieldType.boolean)), (Jvm.Cond.methodLink "SaltMarket$Game" (144 : Nat) ({ cls := "SaltMarket$Game", name := "tryPlacing", desc := "(II)Z" } : Jvm.MethodName)), (Jvm.Cond.instanceMethod ({ cls := "SaltMarket$Game", name := "tryPlacing", desc := "(II)Z" } : Jvm.MethodName)), (Jvm.Cond.selects "SaltMarket$Game" ({ cls := "SaltMarket$Game", name := "tryPlacing", desc := "(II)Z" } : Jvm.MethodName) ({ cls := "SaltMarket$Game", name := "tryPlacing", desc := "(II)Z" } : Jvm.MethodName)), (Jvm.Cond.code ({ cls := "SaltMarket$Game", name := "tryPlacing", desc := "(II)Z" } : Jvm.MethodName) prog_2_method_13_code (4 : Nat) (Option.some Jvm.ClassFile.FieldType.boolean)), (Jvm.Cond.methodLink "SaltMarket$Game" (89 : Nat) ({ cls := "SaltMarket$Player", name := "copyFrom", desc := "(LSaltMarket$Player;)V" } : Jvm.MethodName)), (Jvm.Cond.instanceMethod ({ cls := "SaltMarket$Player", name := "copyFrom", desc := "(LSaltMarket$Player;)V" } : Jvm.MethodName)), (Jvm.Cond.selects "SaltMarket$Player" ({ cls := "SaltMarket$Player", name := "copyFrom", desc := "(LSaltMarket$Player;)V" } : Jvm.MethodName) ({ cls := "SaltMarket$Player", name := "copyFrom", desc := "(LSaltMarket$Player;)V" } : Jvm.MethodName)), (Jvm.Cond.code ({ cls := "SaltMarket$Player", name := "copyFrom", desc := "(LSaltMarket$Player;)V" } : Jvm.MethodName) prog_5_method_4_code (3 : Nat) (Option.none : Option Jvm.ClassFile.FieldType)), (Jvm.Cond.methodLink "SaltMarket$Game" (120 : Nat) ({ cls := "SaltMarket$Game", name := "findBumped", desc := "(I)I" } : Jvm.MethodName)), (Jvm.Cond.instanceMethod ({ cls := "SaltMarket$Game", name := "findBumped", desc := "(I)I" } : Jvm.MethodName)), (Jvm.Cond.selects "SaltMarket$Game" ({ cls := "SaltMarket$Game", name := "findBumped", desc := "(I)I" } : Jvm.MethodName) ({ cls := "SaltMarket$Game", name := "findBumped", desc := "(I)I" } : Jvm.MethodName)), (Jvm.Cond.code ({ cls := "SaltMarket$Game", name := "findBumped", desc := "(I)I" } : Jvm.MethodName) prog_2_method_12_code (3 : Nat) (Option.some Jvm.ClassFile.FieldType.int)), (Jvm.Cond.methodLink "SaltMarket$Game" (110 : Nat) ({ cls := "SaltMarket$Place", name := "findOther", desc := "(I)I" } : Jvm.MethodName)), (Jvm.Cond.instanceMethod ({ cls := "SaltMarket$Place", name := "findOther", desc := "(I)I" } : Jvm.MethodName)), (Jvm.Cond.selects "SaltMarket$Place" ({ cls := "SaltMarket$Place", name := "findOther", desc := "(I)I" } : Jvm.MethodName) ({ cls := "SaltMarket$Place", name := "findOther", desc := "(I)I" } : Jvm.MethodName)), (Jvm.Cond.code ({ cls := "SaltMarket$Place", name := "findOther", desc := "(I)I" } : Jvm.MethodName) prog_4_method_4_code (3 : Nat) (Option.some Jvm.ClassFile.FieldType.int)), (Jvm.Cond.methodLink "SaltMarket$Game" (114 : Nat) ({ cls := "SaltMarket$Place", name := "ownerAt", desc := "(I)I" } : Jvm.MethodName)), (Jvm.Cond.instanceMethod ({ cls := "SaltMarket$Place", name := "ownerAt", desc := "(I)I" } : Jvm.MethodName)), (Jvm.Cond.selects "SaltMarket$Place" ({ cls := "SaltMarket$Place", name := "ownerAt", desc := "(I)I" } : Jvm.MethodName) ({ cls := "SaltMarket$Place", name := "ownerAt", desc := "(I)I" } : Jvm.MethodName)), (Jvm.Cond.code ({ cls := "SaltMarket$Place", name := "ownerAt", desc := "(I)I" } : Jvm.MethodName) prog_4_method_3_code (2 : Nat) (Option.some Jvm.ClassFile.FieldType.int)), (Jvm.Cond.methodLink "SaltMarket$Game" (123 : Nat) ({ cls := "SaltMarket$Player", name := "pay", desc := "(I)Z" } : Jvm.MethodName)), (Jvm.Cond.instanceMethod ({ cls := "SaltMarket$Player", name := "pay", desc := "(I)Z" } : Jvm.MethodName)), (Jvm.Cond.selects "SaltMarket$Player" ({ cls := "SaltMarket$Player", name := "pay", desc := "(I)Z" } : Jvm.MethodName) ({ cls := "SaltMarket$Player", name := "pay", desc := "(I)Z" } : Jvm.MethodName)), (Jvm.Cond.code ({ cls := "SaltMarket$Player", name := "pay", desc := "(I)Z" } : Jvm.MethodName) prog_5_method_8_code (2 : Nat) (Option.some Jvm.ClassFile.FieldType.boolean)), (Jvm.Cond.methodLink "SaltMarket$Game" (127 : Nat) ({ cls := "SaltMarket$Player", name := "gain", desc := "(II)V" } : Jvm.MethodName)), (Jvm.Cond.instanceMethod ({ cls := "SaltMarket$Player", name := "gain", desc := "(II)V" } : Jvm.MethodName))]
def ck_2_7 : List Cond := [(Jvm.Cond.selects "SaltMarket$Player" ({ cls := "SaltMarket$Player", name := "gain", desc := "(II)V" } : Jvm.MethodName) ({ cls := "SaltMarket$Player", name := "gain", desc := "(II)V" } : Jvm.MethodName)), (Jvm.Cond.code ({ cls := "SaltMarket$Player", name := "gain", desc := "(II)V" } : Jvm.MethodName) prog_5_method_10_code (3 : Nat) (Option.none : Option Jvm.ClassFile.FieldType)), (Jvm.Cond.methodLink "SaltMarket$Game" (131 : Nat) ({ cls := "SaltMarket$Player", name := "weave", desc := "(I)Z" } : Jvm.MethodName)), (Jvm.Cond.instanceMethod ({ cls := "SaltMarket$Player", name := "weave", desc := "(I)Z" } : Jvm.MethodName)), (Jvm.Cond.selects "SaltMarket$Player" ({ cls := "SaltMarket$Player", name := "weave", desc := "(I)Z" } : Jvm.MethodName) ({ cls := "SaltMarket$Player", name := "weave", desc := "(I)Z" } : Jvm.MethodName)), (Jvm.Cond.code ({ cls := "SaltMarket$Player", name := "weave", desc := "(I)Z" } : Jvm.MethodName) prog_5_method_11_code (2 : Nat) (Option.some Jvm.ClassFile.FieldType.boolean)), (Jvm.Cond.methodLink "SaltMarket$Player" (39 : Nat) ({ cls := "SaltMarket$Player", name := "give", desc := "(II)Z" } : Jvm.MethodName)), (Jvm.Cond.instanceMethod ({ cls := "SaltMarket$Player", name := "give", desc := "(II)Z" } : Jvm.MethodName)), (Jvm.Cond.selects "SaltMarket$Player" ({ cls := "SaltMarket$Player", name := "give", desc := "(II)Z" } : Jvm.MethodName) ({ cls := "SaltMarket$Player", name := "give", desc := "(II)Z" } : Jvm.MethodName)), (Jvm.Cond.code ({ cls := "SaltMarket$Player", name := "give", desc := "(II)Z" } : Jvm.MethodName) prog_5_method_9_code (3 : Nat) (Option.some Jvm.ClassFile.FieldType.boolean)), (Jvm.Cond.methodLink "SaltMarket$Player" (43 : Nat) ({ cls := "SaltMarket$Player", name := "pay", desc := "(I)Z" } : Jvm.MethodName)), (Jvm.Cond.methodLink "SaltMarket$Player" (47 : Nat) ({ cls := "SaltMarket$Player", name := "gain", desc := "(II)V" } : Jvm.MethodName)), (Jvm.Cond.methodLink "SaltMarket$Game" (134 : Nat) ({ cls := "SaltMarket$Player", name := "sell", desc := "(III)Z" } : Jvm.MethodName)), (Jvm.Cond.instanceMethod ({ cls := "SaltMarket$Player", name := "sell", desc := "(III)Z" } : Jvm.MethodName)), (Jvm.Cond.selects "SaltMarket$Player" ({ cls := "SaltMarket$Player", name := "sell", desc := "(III)Z" } : Jvm.MethodName) ({ cls := "SaltMarket$Player", name := "sell", desc := "(III)Z" } : Jvm.MethodName)), (Jvm.Cond.code ({ cls := "SaltMarket$Player", name := "sell", desc := "(III)Z" } : Jvm.MethodName) prog_5_method_12_code (5 : Nat) (Option.some Jvm.ClassFile.FieldType.boolean)), (Jvm.Cond.methodLink "SaltMarket$Player" (51 : Nat) ({ cls := "java/lang/Math", name := "max", desc := "(II)I" } : Jvm.MethodName)), (Jvm.Cond.static ({ cls := "java/lang/Math", name := "max", desc := "(II)I" } : Jvm.MethodName)), (Jvm.Cond.code ({ cls := "java/lang/Math", name := "max", desc := "(II)I" } : Jvm.MethodName) prog_13_method_65_code (2 : Nat) (Option.some Jvm.ClassFile.FieldType.int)), (Jvm.Cond.methodLink "SaltMarket$Game" (138 : Nat) ({ cls := "SaltMarket$Player", name := "hire", desc := "()Z" } : Jvm.MethodName)), (Jvm.Cond.instanceMethod ({ cls := "SaltMarket$Player", name := "hire", desc := "()Z" } : Jvm.MethodName)), (Jvm.Cond.selects "SaltMarket$Player" ({ cls := "SaltMarket$Player", name := "hire", desc := "()Z" } : Jvm.MethodName) ({ cls := "SaltMarket$Player", name := "hire", desc := "()Z" } : Jvm.MethodName)), (Jvm.Cond.code ({ cls := "SaltMarket$Player", name := "hire", desc := "()Z" } : Jvm.MethodName) prog_5_method_13_code (1 : Nat) (Option.some Jvm.ClassFile.FieldType.boolean)), (Jvm.Cond.methodLink "SaltMarket$Game" (141 : Nat) ({ cls := "SaltMarket$Player", name := "buildRoom", desc := "()Z" } : Jvm.MethodName)), (Jvm.Cond.instanceMethod ({ cls := "SaltMarket$Player", name := "buildRoom", desc := "()Z" } : Jvm.MethodName)), (Jvm.Cond.selects "SaltMarket$Player" ({ cls := "SaltMarket$Player", name := "buildRoom", desc := "()Z" } : Jvm.MethodName) ({ cls := "SaltMarket$Player", name := "buildRoom", desc := "()Z" } : Jvm.MethodName)), (Jvm.Cond.code ({ cls := "SaltMarket$Player", name := "buildRoom", desc := "()Z" } : Jvm.MethodName) prog_5_method_14_code (1 : Nat) (Option.some Jvm.ClassFile.FieldType.boolean)), (Jvm.Cond.methodLink "SaltMarket$Game" (151 : Nat) ({ cls := "SaltMarket$Place", name := "remove", desc := "(I)V" } : Jvm.MethodName)), (Jvm.Cond.instanceMethod ({ cls := "SaltMarket$Place", name := "remove", desc := "(I)V" } : Jvm.MethodName)), (Jvm.Cond.selects "SaltMarket$Place" ({ cls := "SaltMarket$Place", name := "remove", desc := "(I)V" } : Jvm.MethodName) ({ cls := "SaltMarket$Place", name := "remove", desc := "(I)V" } : Jvm.MethodName))]
def ck_3_0 : List Cond := [(Jvm.Cond.code ({ cls := "SaltMarket$Place", name := "remove", desc := "(I)V" } : Jvm.MethodName) prog_4_method_6_code (3 : Nat) (Option.none : Option Jvm.ClassFile.FieldType)), (Jvm.Cond.methodLink "SaltMarket$Game" (155 : Nat) ({ cls := "SaltMarket$Place", name := "add", desc := "(I)V" } : Jvm.MethodName)), (Jvm.Cond.instanceMethod ({ cls := "SaltMarket$Place", name := "add", desc := "(I)V" } : Jvm.MethodName)), (Jvm.Cond.selects "SaltMarket$Place" ({ cls := "SaltMarket$Place", name := "add", desc := "(I)V" } : Jvm.MethodName) ({ cls := "SaltMarket$Place", name := "add", desc := "(I)V" } : Jvm.MethodName)), (Jvm.Cond.code ({ cls := "SaltMarket$Place", name := "add", desc := "(I)V" } : Jvm.MethodName) prog_4_method_5_code (2 : Nat) (Option.none : Option Jvm.ClassFile.FieldType)), (Jvm.Cond.methodLink "SaltMarket$Game" (158 : Nat) ({ cls := "java/lang/Math", name := "max", desc := "(II)I" } : Jvm.MethodName)), (Jvm.Cond.methodLink "SaltMarket" (90 : Nat) ({ cls := "SaltMarket$Text", name := "moveLength", desc := "(I)I" } : Jvm.MethodName)), (Jvm.Cond.methodLink "SaltMarketLaw" (111 : Nat) ({ cls := "SaltMarketLaw", name := "about", desc := "(LSaltMarket;I[J)I" } : Jvm.MethodName)), (Jvm.Cond.static ({ cls := "SaltMarketLaw", name := "about", desc := "(LSaltMarket;I[J)I" } : Jvm.MethodName)), (Jvm.Cond.codeWith ({ cls := "SaltMarketLaw", name := "about", desc := "(LSaltMarket;I[J)I" } : Jvm.MethodName) method_5_code (4 : Nat) (Option.some Jvm.ClassFile.FieldType.int) [((0 : Nat), (9 : Nat), (12 : Nat), (13 : Nat))]), (Jvm.Cond.methodLink "SaltMarketLaw" (21 : Nat) ({ cls := "SaltMarket", name := "about", desc := "(I)I" } : Jvm.MethodName)), (Jvm.Cond.instanceMethod ({ cls := "SaltMarket", name := "about", desc := "(I)I" } : Jvm.MethodName)), (Jvm.Cond.selects "SaltMarket" ({ cls := "SaltMarket", name := "about", desc := "(I)I" } : Jvm.MethodName) ({ cls := "SaltMarket", name := "about", desc := "(I)I" } : Jvm.MethodName)), (Jvm.Cond.code ({ cls := "SaltMarket", name := "about", desc := "(I)I" } : Jvm.MethodName) prog_1_method_8_code (2 : Nat) (Option.some Jvm.ClassFile.FieldType.int)), (Jvm.Cond.stringRef "SaltMarket" (108 : Nat) "what is 0 to 11"), (Jvm.Cond.methodLink "SaltMarket" (110 : Nat) ({ cls := "SaltMarket$Game", name := "number", desc := "(I)I" } : Jvm.MethodName)), (Jvm.Cond.instanceMethod ({ cls := "SaltMarket$Game", name := "number", desc := "(I)I" } : Jvm.MethodName)), (Jvm.Cond.selects "SaltMarket$Game" ({ cls := "SaltMarket$Game", name := "number", desc := "(I)I" } : Jvm.MethodName) ({ cls := "SaltMarket$Game", name := "number", desc := "(I)I" } : Jvm.MethodName)), (Jvm.Cond.code ({ cls := "SaltMarket$Game", name := "number", desc := "(I)I" } : Jvm.MethodName) prog_2_method_8_code (2 : Nat) (Option.some Jvm.ClassFile.FieldType.int)), (Jvm.Cond.methodLink "SaltMarket$Game" (100 : Nat) ({ cls := "SaltMarket$Game", name := "whoseTurn", desc := "()I" } : Jvm.MethodName)), (Jvm.Cond.instanceMethod ({ cls := "SaltMarket$Game", name := "whoseTurn", desc := "()I" } : Jvm.MethodName)), (Jvm.Cond.selects "SaltMarket$Game" ({ cls := "SaltMarket$Game", name := "whoseTurn", desc := "()I" } : Jvm.MethodName) ({ cls := "SaltMarket$Game", name := "whoseTurn", desc := "()I" } : Jvm.MethodName)), (Jvm.Cond.code ({ cls := "SaltMarket$Game", name := "whoseTurn", desc := "()I" } : Jvm.MethodName) prog_2_method_7_code (1 : Nat) (Option.some Jvm.ClassFile.FieldType.int)), (Jvm.Cond.methodLink "SaltMarket$Game" (104 : Nat) ({ cls := "SaltMarket$Game", name := "countPlaced", desc := "()I" } : Jvm.MethodName)), (Jvm.Cond.instanceMethod ({ cls := "SaltMarket$Game", name := "countPlaced", desc := "()I" } : Jvm.MethodName)), (Jvm.Cond.selects "SaltMarket$Game" ({ cls := "SaltMarket$Game", name := "countPlaced", desc := "()I" } : Jvm.MethodName) ({ cls := "SaltMarket$Game", name := "countPlaced", desc := "()I" } : Jvm.MethodName)), (Jvm.Cond.code ({ cls := "SaltMarket$Game", name := "countPlaced", desc := "()I" } : Jvm.MethodName) prog_2_method_9_code (3 : Nat) (Option.some Jvm.ClassFile.FieldType.int)), (Jvm.Cond.methodLink "SaltMarketLaw" (114 : Nat) ({ cls := "SaltMarketLaw", name := "player", desc := "(LSaltMarket;II[J)I" } : Jvm.MethodName)), (Jvm.Cond.static ({ cls := "SaltMarketLaw", name := "player", desc := "(LSaltMarket;II[J)I" } : Jvm.MethodName)), (Jvm.Cond.codeWith ({ cls := "SaltMarketLaw", name := "player", desc := "(LSaltMarket;II[J)I" } : Jvm.MethodName) method_6_code (5 : Nat) (Option.some Jvm.ClassFile.FieldType.int) [((0 : Nat), (10 : Nat), (13 : Nat), (28 : Nat)), ((0 : Nat), (10 : Nat), (17 : Nat), (13 : Nat))])]
def ck_3_1 : List Cond := [(Jvm.Cond.classLink "SaltMarketLaw" (28 : Nat) "java/lang/IndexOutOfBoundsException"), (Jvm.Cond.methodLink "SaltMarketLaw" (24 : Nat) ({ cls := "SaltMarket", name := "player", desc := "(II)I" } : Jvm.MethodName)), (Jvm.Cond.instanceMethod ({ cls := "SaltMarket", name := "player", desc := "(II)I" } : Jvm.MethodName)), (Jvm.Cond.selects "SaltMarket" ({ cls := "SaltMarket", name := "player", desc := "(II)I" } : Jvm.MethodName) ({ cls := "SaltMarket", name := "player", desc := "(II)I" } : Jvm.MethodName)), (Jvm.Cond.code ({ cls := "SaltMarket", name := "player", desc := "(II)I" } : Jvm.MethodName) prog_1_method_9_code (3 : Nat) (Option.some Jvm.ClassFile.FieldType.int)), (Jvm.Cond.methodLink "SaltMarket" (113 : Nat) ({ cls := "SaltMarket$Game", name := "hasPlayer", desc := "(I)Z" } : Jvm.MethodName)), (Jvm.Cond.instanceMethod ({ cls := "SaltMarket$Game", name := "hasPlayer", desc := "(I)Z" } : Jvm.MethodName)), (Jvm.Cond.selects "SaltMarket$Game" ({ cls := "SaltMarket$Game", name := "hasPlayer", desc := "(I)Z" } : Jvm.MethodName) ({ cls := "SaltMarket$Game", name := "hasPlayer", desc := "(I)Z" } : Jvm.MethodName)), (Jvm.Cond.code ({ cls := "SaltMarket$Game", name := "hasPlayer", desc := "(I)Z" } : Jvm.MethodName) prog_2_method_5_code (2 : Nat) (Option.some Jvm.ClassFile.FieldType.boolean)), (Jvm.Cond.classLink "SaltMarket" (116 : Nat) "java/lang/IndexOutOfBoundsException"), (Jvm.Cond.instantiable "java/lang/IndexOutOfBoundsException" (6 : Nat)), (Jvm.Cond.castable "java/lang/IndexOutOfBoundsException" "java/lang/IndexOutOfBoundsException"), (Jvm.Cond.selects "java/lang/IndexOutOfBoundsException" ({ cls := "java/lang/Throwable", name := "fillInStackTrace", desc := "(I)Ljava/lang/Throwable;" } : Jvm.MethodName) ({ cls := "java/lang/Throwable", name := "fillInStackTrace", desc := "(I)Ljava/lang/Throwable;" } : Jvm.MethodName)), (Jvm.Cond.lays "java/lang/IndexOutOfBoundsException" "java/lang/Throwable" "cause" "Ljava/lang/Throwable;"), (Jvm.Cond.lays "java/lang/IndexOutOfBoundsException" "java/lang/Throwable" "stackTrace" "[Ljava/lang/StackTraceElement;"), (Jvm.Cond.lays "java/lang/IndexOutOfBoundsException" "java/lang/Throwable" "suppressedExceptions" "Ljava/util/List;"), (Jvm.Cond.lays "java/lang/IndexOutOfBoundsException" "java/lang/Throwable" "detailMessage" "Ljava/lang/String;"), (Jvm.Cond.lays "java/lang/IndexOutOfBoundsException" "java/lang/Throwable" "backtrace" "Ljava/lang/Object;"), (Jvm.Cond.stringRef "SaltMarket" (118 : Nat) "there is no such player"), (Jvm.Cond.methodLink "SaltMarket" (120 : Nat) ({ cls := "java/lang/IndexOutOfBoundsException", name := "<init>", desc := "(Ljava/lang/String;)V" } : Jvm.MethodName)), (Jvm.Cond.instanceMethod ({ cls := "java/lang/IndexOutOfBoundsException", name := "<init>", desc := "(Ljava/lang/String;)V" } : Jvm.MethodName)), (Jvm.Cond.code ({ cls := "java/lang/IndexOutOfBoundsException", name := "<init>", desc := "(Ljava/lang/String;)V" } : Jvm.MethodName) prog_12_method_2_code (2 : Nat) (Option.none : Option Jvm.ClassFile.FieldType)), (Jvm.Cond.methodLink "java/lang/IndexOutOfBoundsException" (7 : Nat) ({ cls := "java/lang/RuntimeException", name := "<init>", desc := "(Ljava/lang/String;)V" } : Jvm.MethodName)), (Jvm.Cond.lays "java/lang/IndexOutOfBoundsException" "java/lang/Throwable" "depth" "I"), (Jvm.Cond.superclass "java/lang/IndexOutOfBoundsException" "java/lang/RuntimeException"), (Jvm.Cond.stringRef "SaltMarket" (121 : Nat) "what is 0 to 8"), (Jvm.Cond.methodLink "SaltMarket" (126 : Nat) ({ cls := "SaltMarket$Player", name := "number", desc := "(I)I" } : Jvm.MethodName)), (Jvm.Cond.instanceMethod ({ cls := "SaltMarket$Player", name := "number", desc := "(I)I" } : Jvm.MethodName)), (Jvm.Cond.selects "SaltMarket$Player" ({ cls := "SaltMarket$Player", name := "number", desc := "(I)I" } : Jvm.MethodName) ({ cls := "SaltMarket$Player", name := "number", desc := "(I)I" } : Jvm.MethodName)), (Jvm.Cond.code ({ cls := "SaltMarket$Player", name := "number", desc := "(I)I" } : Jvm.MethodName) prog_5_method_5_code (2 : Nat) (Option.some Jvm.ClassFile.FieldType.int))]
def ck_3_2 : List Cond := [(Jvm.Cond.methodLink "SaltMarket$Player" (35 : Nat) ({ cls := "SaltMarket$Player", name := "total", desc := "()I" } : Jvm.MethodName)), (Jvm.Cond.instanceMethod ({ cls := "SaltMarket$Player", name := "total", desc := "()I" } : Jvm.MethodName)), (Jvm.Cond.selects "SaltMarket$Player" ({ cls := "SaltMarket$Player", name := "total", desc := "()I" } : Jvm.MethodName) ({ cls := "SaltMarket$Player", name := "total", desc := "()I" } : Jvm.MethodName)), (Jvm.Cond.code ({ cls := "SaltMarket$Player", name := "total", desc := "()I" } : Jvm.MethodName) prog_5_method_6_code (1 : Nat) (Option.some Jvm.ClassFile.FieldType.int)), (Jvm.Cond.methodLink "SaltMarketLaw" (118 : Nat) ({ cls := "SaltMarketLaw", name := "worker", desc := "(LSaltMarket;II[J)I" } : Jvm.MethodName)), (Jvm.Cond.static ({ cls := "SaltMarketLaw", name := "worker", desc := "(LSaltMarket;II[J)I" } : Jvm.MethodName)), (Jvm.Cond.codeWith ({ cls := "SaltMarketLaw", name := "worker", desc := "(LSaltMarket;II[J)I" } : Jvm.MethodName) method_7_code (5 : Nat) (Option.some Jvm.ClassFile.FieldType.int) [((0 : Nat), (10 : Nat), (13 : Nat), (28 : Nat)), ((0 : Nat), (10 : Nat), (17 : Nat), (13 : Nat))]), (Jvm.Cond.methodLink "SaltMarketLaw" (30 : Nat) ({ cls := "SaltMarket", name := "worker", desc := "(II)I" } : Jvm.MethodName)), (Jvm.Cond.instanceMethod ({ cls := "SaltMarket", name := "worker", desc := "(II)I" } : Jvm.MethodName)), (Jvm.Cond.selects "SaltMarket" ({ cls := "SaltMarket", name := "worker", desc := "(II)I" } : Jvm.MethodName) ({ cls := "SaltMarket", name := "worker", desc := "(II)I" } : Jvm.MethodName)), (Jvm.Cond.code ({ cls := "SaltMarket", name := "worker", desc := "(II)I" } : Jvm.MethodName) prog_1_method_10_code (3 : Nat) (Option.some Jvm.ClassFile.FieldType.int)), (Jvm.Cond.methodLink "SaltMarket" (129 : Nat) ({ cls := "SaltMarket", name := "isPlace", desc := "(I)Z" } : Jvm.MethodName)), (Jvm.Cond.static ({ cls := "SaltMarket", name := "isPlace", desc := "(I)Z" } : Jvm.MethodName)), (Jvm.Cond.code ({ cls := "SaltMarket", name := "isPlace", desc := "(I)Z" } : Jvm.MethodName) prog_1_method_33_code (1 : Nat) (Option.some Jvm.ClassFile.FieldType.boolean)), (Jvm.Cond.stringRef "SaltMarket" (132 : Nat) "there is no such place"), (Jvm.Cond.stringRef "SaltMarket" (134 : Nat) "k is 0 or more"), (Jvm.Cond.methodLink "SaltMarket" (140 : Nat) ({ cls := "SaltMarket$Place", name := "ownerAt", desc := "(I)I" } : Jvm.MethodName)), (Jvm.Cond.methodLink "SaltMarketLaw" (121 : Nat) ({ cls := "SaltMarketLaw", name := "setting", desc := "(LSaltMarket;I[J)I" } : Jvm.MethodName)), (Jvm.Cond.static ({ cls := "SaltMarketLaw", name := "setting", desc := "(LSaltMarket;I[J)I" } : Jvm.MethodName)), (Jvm.Cond.codeWith ({ cls := "SaltMarketLaw", name := "setting", desc := "(LSaltMarket;I[J)I" } : Jvm.MethodName) method_8_code (4 : Nat) (Option.some Jvm.ClassFile.FieldType.int) [((0 : Nat), (9 : Nat), (12 : Nat), (13 : Nat))]), (Jvm.Cond.methodLink "SaltMarketLaw" (33 : Nat) ({ cls := "SaltMarket", name := "setting", desc := "(I)I" } : Jvm.MethodName)), (Jvm.Cond.instanceMethod ({ cls := "SaltMarket", name := "setting", desc := "(I)I" } : Jvm.MethodName)), (Jvm.Cond.selects "SaltMarket" ({ cls := "SaltMarket", name := "setting", desc := "(I)I" } : Jvm.MethodName) ({ cls := "SaltMarket", name := "setting", desc := "(I)I" } : Jvm.MethodName)), (Jvm.Cond.code ({ cls := "SaltMarket", name := "setting", desc := "(I)I" } : Jvm.MethodName) prog_1_method_11_code (2 : Nat) (Option.some Jvm.ClassFile.FieldType.int)), (Jvm.Cond.methodLink "SaltMarket" (145 : Nat) ({ cls := "SaltMarket", name := "isSetting", desc := "(I)Z" } : Jvm.MethodName)), (Jvm.Cond.static ({ cls := "SaltMarket", name := "isSetting", desc := "(I)Z" } : Jvm.MethodName)), (Jvm.Cond.code ({ cls := "SaltMarket", name := "isSetting", desc := "(I)Z" } : Jvm.MethodName) prog_1_method_36_code (1 : Nat) (Option.some Jvm.ClassFile.FieldType.boolean)), (Jvm.Cond.stringRef "SaltMarket" (148 : Nat) "what is 0 to 2"), (Jvm.Cond.methodLink "SaltMarketLaw" (126 : Nat) ({ cls := "SaltMarketLaw", name := "begin", desc := "(LSaltMarket;IJ[J)I" } : Jvm.MethodName)), (Jvm.Cond.static ({ cls := "SaltMarketLaw", name := "begin", desc := "(LSaltMarket;IJ[J)I" } : Jvm.MethodName))]
def ck_3_3 : List Cond := [(Jvm.Cond.codeWith ({ cls := "SaltMarketLaw", name := "begin", desc := "(LSaltMarket;IJ[J)I" } : Jvm.MethodName) method_9_code (6 : Nat) (Option.some Jvm.ClassFile.FieldType.int) [((0 : Nat), (11 : Nat), (14 : Nat), (13 : Nat))]), (Jvm.Cond.methodLink "SaltMarketLaw" (36 : Nat) ({ cls := "SaltMarket", name := "begin", desc := "(IJ)I" } : Jvm.MethodName)), (Jvm.Cond.instanceMethod ({ cls := "SaltMarket", name := "begin", desc := "(IJ)I" } : Jvm.MethodName)), (Jvm.Cond.selects "SaltMarket" ({ cls := "SaltMarket", name := "begin", desc := "(IJ)I" } : Jvm.MethodName) ({ cls := "SaltMarket", name := "begin", desc := "(IJ)I" } : Jvm.MethodName)), (Jvm.Cond.code ({ cls := "SaltMarket", name := "begin", desc := "(IJ)I" } : Jvm.MethodName) prog_1_method_12_code (4 : Nat) (Option.some Jvm.ClassFile.FieldType.int)), (Jvm.Cond.stringRef "SaltMarket" (154 : Nat) "players are 2 to 4"), (Jvm.Cond.methodLink "SaltMarket" (156 : Nat) ({ cls := "SaltMarket$History", name := "remember", desc := "(LSaltMarket$Game;)V" } : Jvm.MethodName)), (Jvm.Cond.instanceMethod ({ cls := "SaltMarket$History", name := "remember", desc := "(LSaltMarket$Game;)V" } : Jvm.MethodName)), (Jvm.Cond.selects "SaltMarket$History" ({ cls := "SaltMarket$History", name := "remember", desc := "(LSaltMarket$Game;)V" } : Jvm.MethodName) ({ cls := "SaltMarket$History", name := "remember", desc := "(LSaltMarket$Game;)V" } : Jvm.MethodName)), (Jvm.Cond.code ({ cls := "SaltMarket$History", name := "remember", desc := "(LSaltMarket$Game;)V" } : Jvm.MethodName) prog_3_method_3_code (2 : Nat) (Option.none : Option Jvm.ClassFile.FieldType)), (Jvm.Cond.methodLink "SaltMarket$History" (23 : Nat) ({ cls := "SaltMarket$Game", name := "copyFrom", desc := "(LSaltMarket$Game;)V" } : Jvm.MethodName)), (Jvm.Cond.instanceMethod ({ cls := "SaltMarket$Game", name := "copyFrom", desc := "(LSaltMarket$Game;)V" } : Jvm.MethodName)), (Jvm.Cond.selects "SaltMarket$Game" ({ cls := "SaltMarket$Game", name := "copyFrom", desc := "(LSaltMarket$Game;)V" } : Jvm.MethodName) ({ cls := "SaltMarket$Game", name := "copyFrom", desc := "(LSaltMarket$Game;)V" } : Jvm.MethodName)), (Jvm.Cond.code ({ cls := "SaltMarket$Game", name := "copyFrom", desc := "(LSaltMarket$Game;)V" } : Jvm.MethodName) prog_2_method_4_code (3 : Nat) (Option.none : Option Jvm.ClassFile.FieldType)), (Jvm.Cond.methodLink "SaltMarket$Game" (93 : Nat) ({ cls := "SaltMarket$Place", name := "copyFrom", desc := "(LSaltMarket$Place;)V" } : Jvm.MethodName)), (Jvm.Cond.instanceMethod ({ cls := "SaltMarket$Place", name := "copyFrom", desc := "(LSaltMarket$Place;)V" } : Jvm.MethodName)), (Jvm.Cond.selects "SaltMarket$Place" ({ cls := "SaltMarket$Place", name := "copyFrom", desc := "(LSaltMarket$Place;)V" } : Jvm.MethodName) ({ cls := "SaltMarket$Place", name := "copyFrom", desc := "(LSaltMarket$Place;)V" } : Jvm.MethodName)), (Jvm.Cond.code ({ cls := "SaltMarket$Place", name := "copyFrom", desc := "(LSaltMarket$Place;)V" } : Jvm.MethodName) prog_4_method_2_code (3 : Nat) (Option.none : Option Jvm.ClassFile.FieldType)), (Jvm.Cond.methodLink "SaltMarketLaw" (130 : Nat) ({ cls := "SaltMarketLaw", name := "place", desc := "(LSaltMarket;II[J)I" } : Jvm.MethodName)), (Jvm.Cond.static ({ cls := "SaltMarketLaw", name := "place", desc := "(LSaltMarket;II[J)I" } : Jvm.MethodName)), (Jvm.Cond.codeWith ({ cls := "SaltMarketLaw", name := "place", desc := "(LSaltMarket;II[J)I" } : Jvm.MethodName) method_10_code (5 : Nat) (Option.some Jvm.ClassFile.FieldType.int) [((0 : Nat), (10 : Nat), (13 : Nat), (28 : Nat)), ((0 : Nat), (10 : Nat), (17 : Nat), (13 : Nat)), ((0 : Nat), (10 : Nat), (21 : Nat), (15 : Nat))]), (Jvm.Cond.methodLink "SaltMarketLaw" (40 : Nat) ({ cls := "SaltMarket", name := "place", desc := "(II)I" } : Jvm.MethodName)), (Jvm.Cond.instanceMethod ({ cls := "SaltMarket", name := "place", desc := "(II)I" } : Jvm.MethodName)), (Jvm.Cond.selects "SaltMarket" ({ cls := "SaltMarket", name := "place", desc := "(II)I" } : Jvm.MethodName) ({ cls := "SaltMarket", name := "place", desc := "(II)I" } : Jvm.MethodName)), (Jvm.Cond.code ({ cls := "SaltMarket", name := "place", desc := "(II)I" } : Jvm.MethodName) prog_1_method_13_code (4 : Nat) (Option.some Jvm.ClassFile.FieldType.int)), (Jvm.Cond.methodLink "SaltMarket" (163 : Nat) ({ cls := "SaltMarket", name := "isChoice", desc := "(II)Z" } : Jvm.MethodName)), (Jvm.Cond.static ({ cls := "SaltMarket", name := "isChoice", desc := "(II)Z" } : Jvm.MethodName)), (Jvm.Cond.code ({ cls := "SaltMarket", name := "isChoice", desc := "(II)Z" } : Jvm.MethodName) prog_1_method_38_code (2 : Nat) (Option.some Jvm.ClassFile.FieldType.boolean)), (Jvm.Cond.methodLink "SaltMarket" (302 : Nat) ({ cls := "SaltMarket", name := "isAmount", desc := "(I)Z" } : Jvm.MethodName)), (Jvm.Cond.static ({ cls := "SaltMarket", name := "isAmount", desc := "(I)Z" } : Jvm.MethodName))]
def ck_3_4 : List Cond := [(Jvm.Cond.code ({ cls := "SaltMarket", name := "isAmount", desc := "(I)Z" } : Jvm.MethodName) prog_1_method_35_code (1 : Nat) (Option.some Jvm.ClassFile.FieldType.boolean)), (Jvm.Cond.methodLink "SaltMarket" (216 : Nat) ({ cls := "SaltMarket", name := "isGood", desc := "(I)Z" } : Jvm.MethodName)), (Jvm.Cond.static ({ cls := "SaltMarket", name := "isGood", desc := "(I)Z" } : Jvm.MethodName)), (Jvm.Cond.code ({ cls := "SaltMarket", name := "isGood", desc := "(I)Z" } : Jvm.MethodName) prog_1_method_34_code (1 : Nat) (Option.some Jvm.ClassFile.FieldType.boolean)), (Jvm.Cond.stringRef "SaltMarket" (166 : Nat) "the place has no such choice"), (Jvm.Cond.methodLink "SaltMarket" (168 : Nat) ({ cls := "SaltMarket$Game", name := "tryPlacing", desc := "(II)Z" } : Jvm.MethodName)), (Jvm.Cond.stringRef "SaltMarket" (171 : Nat) "the placing is not possible"), (Jvm.Cond.methodLink "SaltMarket" (173 : Nat) ({ cls := "SaltMarket$Game", name := "findBumped", desc := "(I)I" } : Jvm.MethodName)), (Jvm.Cond.methodLink "SaltMarketLaw" (133 : Nat) ({ cls := "SaltMarketLaw", name := "pass", desc := "(LSaltMarket;[J)I" } : Jvm.MethodName)), (Jvm.Cond.static ({ cls := "SaltMarketLaw", name := "pass", desc := "(LSaltMarket;[J)I" } : Jvm.MethodName)), (Jvm.Cond.codeWith ({ cls := "SaltMarketLaw", name := "pass", desc := "(LSaltMarket;[J)I" } : Jvm.MethodName) method_11_code (3 : Nat) (Option.some Jvm.ClassFile.FieldType.int) [((0 : Nat), (8 : Nat), (11 : Nat), (15 : Nat))]), (Jvm.Cond.methodLink "SaltMarketLaw" (43 : Nat) ({ cls := "SaltMarket", name := "pass", desc := "()I" } : Jvm.MethodName)), (Jvm.Cond.instanceMethod ({ cls := "SaltMarket", name := "pass", desc := "()I" } : Jvm.MethodName)), (Jvm.Cond.selects "SaltMarket" ({ cls := "SaltMarket", name := "pass", desc := "()I" } : Jvm.MethodName) ({ cls := "SaltMarket", name := "pass", desc := "()I" } : Jvm.MethodName)), (Jvm.Cond.code ({ cls := "SaltMarket", name := "pass", desc := "()I" } : Jvm.MethodName) prog_1_method_14_code (1 : Nat) (Option.some Jvm.ClassFile.FieldType.int)), (Jvm.Cond.methodLink "SaltMarket" (176 : Nat) ({ cls := "SaltMarket$Game", name := "hasTurn", desc := "()Z" } : Jvm.MethodName)), (Jvm.Cond.stringRef "SaltMarket" (179 : Nat) "there is no turn"), (Jvm.Cond.methodLink "SaltMarket" (181 : Nat) ({ cls := "SaltMarket$Game", name := "whoseTurn", desc := "()I" } : Jvm.MethodName)), (Jvm.Cond.methodLink "SaltMarketLaw" (136 : Nat) ({ cls := "SaltMarketLaw", name := "play", desc := "(LSaltMarket;[J)I" } : Jvm.MethodName)), (Jvm.Cond.static ({ cls := "SaltMarketLaw", name := "play", desc := "(LSaltMarket;[J)I" } : Jvm.MethodName)), (Jvm.Cond.codeWith ({ cls := "SaltMarketLaw", name := "play", desc := "(LSaltMarket;[J)I" } : Jvm.MethodName) method_12_code (3 : Nat) (Option.some Jvm.ClassFile.FieldType.int) [((0 : Nat), (8 : Nat), (11 : Nat), (15 : Nat))]), (Jvm.Cond.methodLink "SaltMarketLaw" (46 : Nat) ({ cls := "SaltMarket", name := "play", desc := "()I" } : Jvm.MethodName)), (Jvm.Cond.instanceMethod ({ cls := "SaltMarket", name := "play", desc := "()I" } : Jvm.MethodName)), (Jvm.Cond.selects "SaltMarket" ({ cls := "SaltMarket", name := "play", desc := "()I" } : Jvm.MethodName) ({ cls := "SaltMarket", name := "play", desc := "()I" } : Jvm.MethodName)), (Jvm.Cond.code ({ cls := "SaltMarket", name := "play", desc := "()I" } : Jvm.MethodName) prog_1_method_15_code (1 : Nat) (Option.some Jvm.ClassFile.FieldType.int)), (Jvm.Cond.methodLink "SaltMarket" (184 : Nat) ({ cls := "SaltMarket$Game", name := "playTurn", desc := "()I" } : Jvm.MethodName)), (Jvm.Cond.instanceMethod ({ cls := "SaltMarket$Game", name := "playTurn", desc := "()I" } : Jvm.MethodName)), (Jvm.Cond.selects "SaltMarket$Game" ({ cls := "SaltMarket$Game", name := "playTurn", desc := "()I" } : Jvm.MethodName) ({ cls := "SaltMarket$Game", name := "playTurn", desc := "()I" } : Jvm.MethodName)), (Jvm.Cond.code ({ cls := "SaltMarket$Game", name := "playTurn", desc := "()I" } : Jvm.MethodName) prog_2_method_19_code (1 : Nat) (Option.some Jvm.ClassFile.FieldType.int)), (Jvm.Cond.methodLink "SaltMarket$Game" (180 : Nat) ({ cls := "SaltMarket$Game", name := "findBest", desc := "()Z" } : Jvm.MethodName))]
def ck_3_5 : List Cond := [(Jvm.Cond.instanceMethod ({ cls := "SaltMarket$Game", name := "findBest", desc := "()Z" } : Jvm.MethodName)), (Jvm.Cond.selects "SaltMarket$Game" ({ cls := "SaltMarket$Game", name := "findBest", desc := "()Z" } : Jvm.MethodName) ({ cls := "SaltMarket$Game", name := "findBest", desc := "()Z" } : Jvm.MethodName)), (Jvm.Cond.code ({ cls := "SaltMarket$Game", name := "findBest", desc := "()Z" } : Jvm.MethodName) prog_2_method_17_code (2 : Nat) (Option.some Jvm.ClassFile.FieldType.boolean)), (Jvm.Cond.fieldLinkNest "SaltMarket$Game" (170 : Nat) "SaltMarket" "PLACING_PLACES" "[I" "SaltMarket"), (Jvm.Cond.laysStatic "SaltMarket" "PLACING_PLACES" "[I"), (Jvm.Cond.fieldLinkNest "SaltMarket$Game" (173 : Nat) "SaltMarket" "PLACING_CHOICES" "[I" "SaltMarket"), (Jvm.Cond.laysStatic "SaltMarket" "PLACING_CHOICES" "[I"), (Jvm.Cond.methodLink "SaltMarket$Game" (167 : Nat) ({ cls := "SaltMarket$Game", name := "worthOfTried", desc := "()I" } : Jvm.MethodName)), (Jvm.Cond.instanceMethod ({ cls := "SaltMarket$Game", name := "worthOfTried", desc := "()I" } : Jvm.MethodName)), (Jvm.Cond.selects "SaltMarket$Game" ({ cls := "SaltMarket$Game", name := "worthOfTried", desc := "()I" } : Jvm.MethodName) ({ cls := "SaltMarket$Game", name := "worthOfTried", desc := "()I" } : Jvm.MethodName)), (Jvm.Cond.code ({ cls := "SaltMarket$Game", name := "worthOfTried", desc := "()I" } : Jvm.MethodName) prog_2_method_16_code (1 : Nat) (Option.some Jvm.ClassFile.FieldType.int)), (Jvm.Cond.methodLink "SaltMarket$Game" (107 : Nat) ({ cls := "SaltMarket$Player", name := "total", desc := "()I" } : Jvm.MethodName)), (Jvm.Cond.methodLink "SaltMarket$Game" (183 : Nat) ({ cls := "SaltMarket$Game", name := "putWorker", desc := "(II)Z" } : Jvm.MethodName)), (Jvm.Cond.methodLink "SaltMarket$Game" (186 : Nat) ({ cls := "SaltMarket$Game", name := "passTurn", desc := "()Z" } : Jvm.MethodName)), (Jvm.Cond.methodLink "SaltMarketLaw" (139 : Nat) ({ cls := "SaltMarketLaw", name := "set", desc := "(LSaltMarket;II[J)I" } : Jvm.MethodName)), (Jvm.Cond.static ({ cls := "SaltMarketLaw", name := "set", desc := "(LSaltMarket;II[J)I" } : Jvm.MethodName)), (Jvm.Cond.codeWith ({ cls := "SaltMarketLaw", name := "set", desc := "(LSaltMarket;II[J)I" } : Jvm.MethodName) method_13_code (5 : Nat) (Option.some Jvm.ClassFile.FieldType.int) [((0 : Nat), (10 : Nat), (13 : Nat), (13 : Nat))]), (Jvm.Cond.methodLink "SaltMarketLaw" (49 : Nat) ({ cls := "SaltMarket", name := "set", desc := "(II)I" } : Jvm.MethodName)), (Jvm.Cond.instanceMethod ({ cls := "SaltMarket", name := "set", desc := "(II)I" } : Jvm.MethodName)), (Jvm.Cond.selects "SaltMarket" ({ cls := "SaltMarket", name := "set", desc := "(II)I" } : Jvm.MethodName) ({ cls := "SaltMarket", name := "set", desc := "(II)I" } : Jvm.MethodName)), (Jvm.Cond.code ({ cls := "SaltMarket", name := "set", desc := "(II)I" } : Jvm.MethodName) prog_1_method_16_code (4 : Nat) (Option.some Jvm.ClassFile.FieldType.int)), (Jvm.Cond.methodLink "SaltMarket" (187 : Nat) ({ cls := "SaltMarket", name := "isSettingValue", desc := "(II)Z" } : Jvm.MethodName)), (Jvm.Cond.static ({ cls := "SaltMarket", name := "isSettingValue", desc := "(II)Z" } : Jvm.MethodName)), (Jvm.Cond.code ({ cls := "SaltMarket", name := "isSettingValue", desc := "(II)Z" } : Jvm.MethodName) prog_1_method_37_code (2 : Nat) (Option.some Jvm.ClassFile.FieldType.boolean)), (Jvm.Cond.fieldLink "SaltMarket" (296 : Nat) "SaltMarket" "LEAST_SETTING" "[I"), (Jvm.Cond.laysStatic "SaltMarket" "LEAST_SETTING" "[I"), (Jvm.Cond.fieldLink "SaltMarket" (299 : Nat) "SaltMarket" "GREATEST_SETTING" "[I"), (Jvm.Cond.laysStatic "SaltMarket" "GREATEST_SETTING" "[I"), (Jvm.Cond.stringRef "SaltMarket" (190 : Nat) "there is no such setting or value"), (Jvm.Cond.methodLink "SaltMarketLaw" (142 : Nat) ({ cls := "SaltMarketLaw", name := "undo", desc := "(LSaltMarket;[J)I" } : Jvm.MethodName))]
def ck_3_6 : List Cond := [(Jvm.Cond.static ({ cls := "SaltMarketLaw", name := "undo", desc := "(LSaltMarket;[J)I" } : Jvm.MethodName)), (Jvm.Cond.codeWith ({ cls := "SaltMarketLaw", name := "undo", desc := "(LSaltMarket;[J)I" } : Jvm.MethodName) method_14_code (3 : Nat) (Option.some Jvm.ClassFile.FieldType.int) [((0 : Nat), (8 : Nat), (11 : Nat), (15 : Nat))]), (Jvm.Cond.methodLink "SaltMarketLaw" (52 : Nat) ({ cls := "SaltMarket", name := "undo", desc := "()I" } : Jvm.MethodName)), (Jvm.Cond.instanceMethod ({ cls := "SaltMarket", name := "undo", desc := "()I" } : Jvm.MethodName)), (Jvm.Cond.selects "SaltMarket" ({ cls := "SaltMarket", name := "undo", desc := "()I" } : Jvm.MethodName) ({ cls := "SaltMarket", name := "undo", desc := "()I" } : Jvm.MethodName)), (Jvm.Cond.code ({ cls := "SaltMarket", name := "undo", desc := "()I" } : Jvm.MethodName) prog_1_method_17_code (1 : Nat) (Option.some Jvm.ClassFile.FieldType.int)), (Jvm.Cond.stringRef "SaltMarket" (195 : Nat) "no state is remembered"), (Jvm.Cond.methodLink "SaltMarket" (197 : Nat) ({ cls := "SaltMarket$History", name := "takeBack", desc := "(LSaltMarket$Game;)V" } : Jvm.MethodName)), (Jvm.Cond.instanceMethod ({ cls := "SaltMarket$History", name := "takeBack", desc := "(LSaltMarket$Game;)V" } : Jvm.MethodName)), (Jvm.Cond.selects "SaltMarket$History" ({ cls := "SaltMarket$History", name := "takeBack", desc := "(LSaltMarket$Game;)V" } : Jvm.MethodName) ({ cls := "SaltMarket$History", name := "takeBack", desc := "(LSaltMarket$Game;)V" } : Jvm.MethodName)), (Jvm.Cond.code ({ cls := "SaltMarket$History", name := "takeBack", desc := "(LSaltMarket$Game;)V" } : Jvm.MethodName) prog_3_method_4_code (2 : Nat) (Option.none : Option Jvm.ClassFile.FieldType)), (Jvm.Cond.methodLink "SaltMarketLaw" (145 : Nat) ({ cls := "SaltMarketLaw", name := "brings", desc := "(LSaltMarket;II[J)I" } : Jvm.MethodName)), (Jvm.Cond.static ({ cls := "SaltMarketLaw", name := "brings", desc := "(LSaltMarket;II[J)I" } : Jvm.MethodName)), (Jvm.Cond.codeWith ({ cls := "SaltMarketLaw", name := "brings", desc := "(LSaltMarket;II[J)I" } : Jvm.MethodName) method_15_code (5 : Nat) (Option.some Jvm.ClassFile.FieldType.int) [((0 : Nat), (10 : Nat), (13 : Nat), (28 : Nat)), ((0 : Nat), (10 : Nat), (17 : Nat), (13 : Nat))]), (Jvm.Cond.methodLink "SaltMarketLaw" (55 : Nat) ({ cls := "SaltMarket", name := "brings", desc := "(II)I" } : Jvm.MethodName)), (Jvm.Cond.instanceMethod ({ cls := "SaltMarket", name := "brings", desc := "(II)I" } : Jvm.MethodName)), (Jvm.Cond.selects "SaltMarket" ({ cls := "SaltMarket", name := "brings", desc := "(II)I" } : Jvm.MethodName) ({ cls := "SaltMarket", name := "brings", desc := "(II)I" } : Jvm.MethodName)), (Jvm.Cond.code ({ cls := "SaltMarket", name := "brings", desc := "(II)I" } : Jvm.MethodName) prog_1_method_18_code (3 : Nat) (Option.some Jvm.ClassFile.FieldType.int)), (Jvm.Cond.methodLink "SaltMarket" (200 : Nat) ({ cls := "SaltMarket$Game", name := "worth", desc := "(II)I" } : Jvm.MethodName)), (Jvm.Cond.instanceMethod ({ cls := "SaltMarket$Game", name := "worth", desc := "(II)I" } : Jvm.MethodName)), (Jvm.Cond.selects "SaltMarket$Game" ({ cls := "SaltMarket$Game", name := "worth", desc := "(II)I" } : Jvm.MethodName) ({ cls := "SaltMarket$Game", name := "worth", desc := "(II)I" } : Jvm.MethodName)), (Jvm.Cond.code ({ cls := "SaltMarket$Game", name := "worth", desc := "(II)I" } : Jvm.MethodName) prog_2_method_15_code (3 : Nat) (Option.some Jvm.ClassFile.FieldType.int)), (Jvm.Cond.methodLink "SaltMarketLaw" (148 : Nat) ({ cls := "SaltMarketLaw", name := "bumps", desc := "(LSaltMarket;I[J)I" } : Jvm.MethodName)), (Jvm.Cond.static ({ cls := "SaltMarketLaw", name := "bumps", desc := "(LSaltMarket;I[J)I" } : Jvm.MethodName)), (Jvm.Cond.codeWith ({ cls := "SaltMarketLaw", name := "bumps", desc := "(LSaltMarket;I[J)I" } : Jvm.MethodName) method_16_code (4 : Nat) (Option.some Jvm.ClassFile.FieldType.int) [((0 : Nat), (9 : Nat), (12 : Nat), (28 : Nat))]), (Jvm.Cond.methodLink "SaltMarketLaw" (58 : Nat) ({ cls := "SaltMarket", name := "bumps", desc := "(I)I" } : Jvm.MethodName)), (Jvm.Cond.instanceMethod ({ cls := "SaltMarket", name := "bumps", desc := "(I)I" } : Jvm.MethodName)), (Jvm.Cond.selects "SaltMarket" ({ cls := "SaltMarket", name := "bumps", desc := "(I)I" } : Jvm.MethodName) ({ cls := "SaltMarket", name := "bumps", desc := "(I)I" } : Jvm.MethodName)), (Jvm.Cond.code ({ cls := "SaltMarket", name := "bumps", desc := "(I)I" } : Jvm.MethodName) prog_1_method_19_code (2 : Nat) (Option.some Jvm.ClassFile.FieldType.int)), (Jvm.Cond.methodLink "SaltMarketLaw" (151 : Nat) ({ cls := "SaltMarketLaw", name := "best", desc := "(LSaltMarket;I[J)I" } : Jvm.MethodName))]
def ck_3_7 : List Cond := [(Jvm.Cond.static ({ cls := "SaltMarketLaw", name := "best", desc := "(LSaltMarket;I[J)I" } : Jvm.MethodName)), (Jvm.Cond.codeWith ({ cls := "SaltMarketLaw", name := "best", desc := "(LSaltMarket;I[J)I" } : Jvm.MethodName) method_17_code (4 : Nat) (Option.some Jvm.ClassFile.FieldType.int) [((0 : Nat), (9 : Nat), (12 : Nat), (13 : Nat))]), (Jvm.Cond.methodLink "SaltMarketLaw" (61 : Nat) ({ cls := "SaltMarket", name := "best", desc := "(I)I" } : Jvm.MethodName)), (Jvm.Cond.instanceMethod ({ cls := "SaltMarket", name := "best", desc := "(I)I" } : Jvm.MethodName)), (Jvm.Cond.selects "SaltMarket" ({ cls := "SaltMarket", name := "best", desc := "(I)I" } : Jvm.MethodName) ({ cls := "SaltMarket", name := "best", desc := "(I)I" } : Jvm.MethodName)), (Jvm.Cond.code ({ cls := "SaltMarket", name := "best", desc := "(I)I" } : Jvm.MethodName) prog_1_method_20_code (2 : Nat) (Option.some Jvm.ClassFile.FieldType.int)), (Jvm.Cond.methodLink "SaltMarket" (204 : Nat) ({ cls := "SaltMarket$Game", name := "findBest", desc := "()Z" } : Jvm.MethodName)), (Jvm.Cond.methodLink "SaltMarketLaw" (154 : Nat) ({ cls := "SaltMarketLaw", name := "loses", desc := "(LSaltMarket;II[J)I" } : Jvm.MethodName)), (Jvm.Cond.static ({ cls := "SaltMarketLaw", name := "loses", desc := "(LSaltMarket;II[J)I" } : Jvm.MethodName)), (Jvm.Cond.codeWith ({ cls := "SaltMarketLaw", name := "loses", desc := "(LSaltMarket;II[J)I" } : Jvm.MethodName) method_18_code (5 : Nat) (Option.some Jvm.ClassFile.FieldType.int) [((0 : Nat), (10 : Nat), (13 : Nat), (28 : Nat)), ((0 : Nat), (10 : Nat), (17 : Nat), (13 : Nat))]), (Jvm.Cond.methodLink "SaltMarketLaw" (64 : Nat) ({ cls := "SaltMarket", name := "loses", desc := "(II)I" } : Jvm.MethodName)), (Jvm.Cond.instanceMethod ({ cls := "SaltMarket", name := "loses", desc := "(II)I" } : Jvm.MethodName)), (Jvm.Cond.selects "SaltMarket" ({ cls := "SaltMarket", name := "loses", desc := "(II)I" } : Jvm.MethodName) ({ cls := "SaltMarket", name := "loses", desc := "(II)I" } : Jvm.MethodName)), (Jvm.Cond.code ({ cls := "SaltMarket", name := "loses", desc := "(II)I" } : Jvm.MethodName) prog_1_method_21_code (3 : Nat) (Option.some Jvm.ClassFile.FieldType.int)), (Jvm.Cond.methodLink "SaltMarket" (219 : Nat) ({ cls := "SaltMarket$Game", name := "lossOf", desc := "(II)I" } : Jvm.MethodName)), (Jvm.Cond.instanceMethod ({ cls := "SaltMarket$Game", name := "lossOf", desc := "(II)I" } : Jvm.MethodName)), (Jvm.Cond.selects "SaltMarket$Game" ({ cls := "SaltMarket$Game", name := "lossOf", desc := "(II)I" } : Jvm.MethodName) ({ cls := "SaltMarket$Game", name := "lossOf", desc := "(II)I" } : Jvm.MethodName)), (Jvm.Cond.code ({ cls := "SaltMarket$Game", name := "lossOf", desc := "(II)I" } : Jvm.MethodName) prog_2_method_21_code (3 : Nat) (Option.some Jvm.ClassFile.FieldType.int)), (Jvm.Cond.methodLink "SaltMarketLaw" (157 : Nat) ({ cls := "SaltMarketLaw", name := "goesOn", desc := "(LSaltMarket;I[J)I" } : Jvm.MethodName)), (Jvm.Cond.static ({ cls := "SaltMarketLaw", name := "goesOn", desc := "(LSaltMarket;I[J)I" } : Jvm.MethodName)), (Jvm.Cond.codeWith ({ cls := "SaltMarketLaw", name := "goesOn", desc := "(LSaltMarket;I[J)I" } : Jvm.MethodName) method_19_code (4 : Nat) (Option.some Jvm.ClassFile.FieldType.int) [((0 : Nat), (9 : Nat), (12 : Nat), (13 : Nat))]), (Jvm.Cond.methodLink "SaltMarketLaw" (67 : Nat) ({ cls := "SaltMarket", name := "goesOn", desc := "(I)I" } : Jvm.MethodName)), (Jvm.Cond.instanceMethod ({ cls := "SaltMarket", name := "goesOn", desc := "(I)I" } : Jvm.MethodName)), (Jvm.Cond.selects "SaltMarket" ({ cls := "SaltMarket", name := "goesOn", desc := "(I)I" } : Jvm.MethodName) ({ cls := "SaltMarket", name := "goesOn", desc := "(I)I" } : Jvm.MethodName)), (Jvm.Cond.code ({ cls := "SaltMarket", name := "goesOn", desc := "(I)I" } : Jvm.MethodName) prog_1_method_22_code (2 : Nat) (Option.some Jvm.ClassFile.FieldType.int)), (Jvm.Cond.stringRef "SaltMarket" (222 : Nat) "what is 0 to 4"), (Jvm.Cond.methodLink "SaltMarket" (224 : Nat) ({ cls := "SaltMarket$Game", name := "copyFrom", desc := "(LSaltMarket$Game;)V" } : Jvm.MethodName)), (Jvm.Cond.methodLink "SaltMarket" (227 : Nat) ({ cls := "SaltMarket$Game", name := "playToEnd", desc := "()V" } : Jvm.MethodName)), (Jvm.Cond.instanceMethod ({ cls := "SaltMarket$Game", name := "playToEnd", desc := "()V" } : Jvm.MethodName)), (Jvm.Cond.selects "SaltMarket$Game" ({ cls := "SaltMarket$Game", name := "playToEnd", desc := "()V" } : Jvm.MethodName) ({ cls := "SaltMarket$Game", name := "playToEnd", desc := "()V" } : Jvm.MethodName))]
def ck_4_0 : List Cond := [(Jvm.Cond.code ({ cls := "SaltMarket$Game", name := "playToEnd", desc := "()V" } : Jvm.MethodName) prog_2_method_20_code (2 : Nat) (Option.none : Option Jvm.ClassFile.FieldType)), (Jvm.Cond.constant "SaltMarket$Game" (189 : Nat) (1000000 : Int32)), (Jvm.Cond.methodLink "SaltMarket$Game" (190 : Nat) ({ cls := "SaltMarket$Game", name := "playTurn", desc := "()I" } : Jvm.MethodName)), (Jvm.Cond.methodLink "SaltMarket" (230 : Nat) ({ cls := "SaltMarket$Game", name := "findLeader", desc := "()I" } : Jvm.MethodName)), (Jvm.Cond.instanceMethod ({ cls := "SaltMarket$Game", name := "findLeader", desc := "()I" } : Jvm.MethodName)), (Jvm.Cond.selects "SaltMarket$Game" ({ cls := "SaltMarket$Game", name := "findLeader", desc := "()I" } : Jvm.MethodName) ({ cls := "SaltMarket$Game", name := "findLeader", desc := "()I" } : Jvm.MethodName)), (Jvm.Cond.code ({ cls := "SaltMarket$Game", name := "findLeader", desc := "()I" } : Jvm.MethodName) prog_2_method_11_code (5 : Nat) (Option.some Jvm.ClassFile.FieldType.int)), (Jvm.Cond.methodLink "SaltMarket" (233 : Nat) ({ cls := "SaltMarket$Player", name := "total", desc := "()I" } : Jvm.MethodName)), (Jvm.Cond.methodLink "SaltMarketLaw" (160 : Nat) ({ cls := "SaltMarketLaw", name := "weather", desc := "(LSaltMarket;I[J)I" } : Jvm.MethodName)), (Jvm.Cond.static ({ cls := "SaltMarketLaw", name := "weather", desc := "(LSaltMarket;I[J)I" } : Jvm.MethodName)), (Jvm.Cond.codeWith ({ cls := "SaltMarketLaw", name := "weather", desc := "(LSaltMarket;I[J)I" } : Jvm.MethodName) method_20_code (4 : Nat) (Option.some Jvm.ClassFile.FieldType.int) [((0 : Nat), (9 : Nat), (12 : Nat), (13 : Nat))]), (Jvm.Cond.methodLink "SaltMarketLaw" (70 : Nat) ({ cls := "SaltMarket", name := "weather", desc := "(I)I" } : Jvm.MethodName)), (Jvm.Cond.instanceMethod ({ cls := "SaltMarket", name := "weather", desc := "(I)I" } : Jvm.MethodName)), (Jvm.Cond.selects "SaltMarket" ({ cls := "SaltMarket", name := "weather", desc := "(I)I" } : Jvm.MethodName) ({ cls := "SaltMarket", name := "weather", desc := "(I)I" } : Jvm.MethodName)), (Jvm.Cond.code ({ cls := "SaltMarket", name := "weather", desc := "(I)I" } : Jvm.MethodName) prog_1_method_23_code (5 : Nat) (Option.some Jvm.ClassFile.FieldType.int)), (Jvm.Cond.stringRef "SaltMarket" (236 : Nat) "n is 1 to 12"), (Jvm.Cond.methodLink "SaltMarket" (243 : Nat) ({ cls := "SaltMarket", name := "nextX", desc := "(J)J" } : Jvm.MethodName)), (Jvm.Cond.methodLink "SaltMarket" (247 : Nat) ({ cls := "SaltMarket", name := "weatherOf", desc := "(J)I" } : Jvm.MethodName)), (Jvm.Cond.methodLink "SaltMarketLaw" (163 : Nat) ({ cls := "SaltMarketLaw", name := "runScript", desc := "(LSaltMarket;IJ[J)I" } : Jvm.MethodName)), (Jvm.Cond.static ({ cls := "SaltMarketLaw", name := "runScript", desc := "(LSaltMarket;IJ[J)I" } : Jvm.MethodName)), (Jvm.Cond.codeWith ({ cls := "SaltMarketLaw", name := "runScript", desc := "(LSaltMarket;IJ[J)I" } : Jvm.MethodName) method_21_code (6 : Nat) (Option.some Jvm.ClassFile.FieldType.int) [((0 : Nat), (11 : Nat), (14 : Nat), (13 : Nat))]), (Jvm.Cond.methodLink "SaltMarketLaw" (73 : Nat) ({ cls := "SaltMarket", name := "runScript", desc := "(IJ)I" } : Jvm.MethodName)), (Jvm.Cond.instanceMethod ({ cls := "SaltMarket", name := "runScript", desc := "(IJ)I" } : Jvm.MethodName)), (Jvm.Cond.selects "SaltMarket" ({ cls := "SaltMarket", name := "runScript", desc := "(IJ)I" } : Jvm.MethodName) ({ cls := "SaltMarket", name := "runScript", desc := "(IJ)I" } : Jvm.MethodName)), (Jvm.Cond.code ({ cls := "SaltMarket", name := "runScript", desc := "(IJ)I" } : Jvm.MethodName) prog_1_method_24_code (6 : Nat) (Option.some Jvm.ClassFile.FieldType.int)), (Jvm.Cond.stringRef "SaltMarket" (251 : Nat) "n is 1 to 3"), (Jvm.Cond.methodLink "SaltMarket" (253 : Nat) ({ cls := "SaltMarket", name := "dropGroups", desc := "(JI)J" } : Jvm.MethodName)), (Jvm.Cond.static ({ cls := "SaltMarket", name := "dropGroups", desc := "(JI)J" } : Jvm.MethodName)), (Jvm.Cond.code ({ cls := "SaltMarket", name := "dropGroups", desc := "(JI)J" } : Jvm.MethodName) prog_1_method_25_code (6 : Nat) (Option.some Jvm.ClassFile.FieldType.long)), (Jvm.Cond.constantLong "SaltMarket" (259 : Nat) (10000 : Int64))]
def ck_4_1 : List Cond := [(Jvm.Cond.stringRef "SaltMarket" (257 : Nat) "a script has at most 4 * n digits"), (Jvm.Cond.methodLink "SaltMarket" (261 : Nat) ({ cls := "SaltMarket", name := "doCommand", desc := "(I)Z" } : Jvm.MethodName)), (Jvm.Cond.privateMethod ({ cls := "SaltMarket", name := "doCommand", desc := "(I)Z" } : Jvm.MethodName)), (Jvm.Cond.instanceMethod ({ cls := "SaltMarket", name := "doCommand", desc := "(I)Z" } : Jvm.MethodName)), (Jvm.Cond.code ({ cls := "SaltMarket", name := "doCommand", desc := "(I)Z" } : Jvm.MethodName) prog_1_method_26_code (6 : Nat) (Option.some Jvm.ClassFile.FieldType.boolean)), (Jvm.Cond.methodLink "SaltMarket" (264 : Nat) ({ cls := "SaltMarket", name := "trialSets", desc := "(II)Z" } : Jvm.MethodName)), (Jvm.Cond.privateMethod ({ cls := "SaltMarket", name := "trialSets", desc := "(II)Z" } : Jvm.MethodName)), (Jvm.Cond.instanceMethod ({ cls := "SaltMarket", name := "trialSets", desc := "(II)Z" } : Jvm.MethodName)), (Jvm.Cond.code ({ cls := "SaltMarket", name := "trialSets", desc := "(II)Z" } : Jvm.MethodName) prog_1_method_27_code (3 : Nat) (Option.some Jvm.ClassFile.FieldType.boolean)), (Jvm.Cond.methodLink "SaltMarketLaw" (166 : Nat) ({ cls := "SaltMarketLaw", name := "simulate", desc := "(LSaltMarket;JI[J)I" } : Jvm.MethodName)), (Jvm.Cond.static ({ cls := "SaltMarketLaw", name := "simulate", desc := "(LSaltMarket;JI[J)I" } : Jvm.MethodName)), (Jvm.Cond.codeWith ({ cls := "SaltMarketLaw", name := "simulate", desc := "(LSaltMarket;JI[J)I" } : Jvm.MethodName) method_22_code (6 : Nat) (Option.some Jvm.ClassFile.FieldType.int) [((0 : Nat), (11 : Nat), (14 : Nat), (13 : Nat))]), (Jvm.Cond.methodLink "SaltMarketLaw" (76 : Nat) ({ cls := "SaltMarket", name := "simulate", desc := "(JI)I" } : Jvm.MethodName)), (Jvm.Cond.instanceMethod ({ cls := "SaltMarket", name := "simulate", desc := "(JI)I" } : Jvm.MethodName)), (Jvm.Cond.selects "SaltMarket" ({ cls := "SaltMarket", name := "simulate", desc := "(JI)I" } : Jvm.MethodName) ({ cls := "SaltMarket", name := "simulate", desc := "(JI)I" } : Jvm.MethodName)), (Jvm.Cond.code ({ cls := "SaltMarket", name := "simulate", desc := "(JI)I" } : Jvm.MethodName) prog_1_method_28_code (7 : Nat) (Option.some Jvm.ClassFile.FieldType.int)), (Jvm.Cond.stringRef "SaltMarket" (277 : Nat) "m is 1 to 80"), (Jvm.Cond.methodLink "SaltMarket" (279 : Nat) ({ cls := "SaltMarket", name := "simulateTurn", desc := "(I)V" } : Jvm.MethodName)), (Jvm.Cond.privateMethod ({ cls := "SaltMarket", name := "simulateTurn", desc := "(I)V" } : Jvm.MethodName)), (Jvm.Cond.instanceMethod ({ cls := "SaltMarket", name := "simulateTurn", desc := "(I)V" } : Jvm.MethodName)), (Jvm.Cond.code ({ cls := "SaltMarket", name := "simulateTurn", desc := "(I)V" } : Jvm.MethodName) prog_1_method_29_code (3 : Nat) (Option.none : Option Jvm.ClassFile.FieldType)), (Jvm.Cond.methodLink "SaltMarket" (289 : Nat) ({ cls := "SaltMarket", name := "simulatedChoice", desc := "(II)I" } : Jvm.MethodName)), (Jvm.Cond.static ({ cls := "SaltMarket", name := "simulatedChoice", desc := "(II)I" } : Jvm.MethodName)), (Jvm.Cond.code ({ cls := "SaltMarket", name := "simulatedChoice", desc := "(II)I" } : Jvm.MethodName) prog_1_method_30_code (2 : Nat) (Option.some Jvm.ClassFile.FieldType.int)), (Jvm.Cond.methodLink "SaltMarket" (286 : Nat) ({ cls := "SaltMarket$Game", name := "sumOfTotals", desc := "()I" } : Jvm.MethodName)), (Jvm.Cond.instanceMethod ({ cls := "SaltMarket$Game", name := "sumOfTotals", desc := "()I" } : Jvm.MethodName)), (Jvm.Cond.selects "SaltMarket$Game" ({ cls := "SaltMarket$Game", name := "sumOfTotals", desc := "()I" } : Jvm.MethodName) ({ cls := "SaltMarket$Game", name := "sumOfTotals", desc := "()I" } : Jvm.MethodName)), (Jvm.Cond.code ({ cls := "SaltMarket$Game", name := "sumOfTotals", desc := "()I" } : Jvm.MethodName) prog_2_method_10_code (3 : Nat) (Option.some Jvm.ClassFile.FieldType.int)), (Jvm.Cond.methodLink "SaltMarketLaw" (170 : Nat) ({ cls := "SaltMarketLaw", name := "save", desc := "(LSaltMarket;I[J)I" } : Jvm.MethodName)), (Jvm.Cond.static ({ cls := "SaltMarketLaw", name := "save", desc := "(LSaltMarket;I[J)I" } : Jvm.MethodName))]
def ck_4_2 : List Cond := [(Jvm.Cond.codeWith ({ cls := "SaltMarketLaw", name := "save", desc := "(LSaltMarket;I[J)I" } : Jvm.MethodName) method_23_code (4 : Nat) (Option.some Jvm.ClassFile.FieldType.int) [((0 : Nat), (9 : Nat), (12 : Nat), (28 : Nat))]), (Jvm.Cond.methodLink "SaltMarketLaw" (80 : Nat) ({ cls := "SaltMarket", name := "save", desc := "(I)I" } : Jvm.MethodName)), (Jvm.Cond.instanceMethod ({ cls := "SaltMarket", name := "save", desc := "(I)I" } : Jvm.MethodName)), (Jvm.Cond.selects "SaltMarket" ({ cls := "SaltMarket", name := "save", desc := "(I)I" } : Jvm.MethodName) ({ cls := "SaltMarket", name := "save", desc := "(I)I" } : Jvm.MethodName)), (Jvm.Cond.code ({ cls := "SaltMarket", name := "save", desc := "(I)I" } : Jvm.MethodName) prog_1_method_31_code (2 : Nat) (Option.some Jvm.ClassFile.FieldType.int)), (Jvm.Cond.stringRef "SaltMarket" (292 : Nat) "there is no such save slot"), (Jvm.Cond.methodLink "SaltMarketLaw" (173 : Nat) ({ cls := "SaltMarketLaw", name := "restore", desc := "(LSaltMarket;I[J)I" } : Jvm.MethodName)), (Jvm.Cond.static ({ cls := "SaltMarketLaw", name := "restore", desc := "(LSaltMarket;I[J)I" } : Jvm.MethodName)), (Jvm.Cond.codeWith ({ cls := "SaltMarketLaw", name := "restore", desc := "(LSaltMarket;I[J)I" } : Jvm.MethodName) method_24_code (4 : Nat) (Option.some Jvm.ClassFile.FieldType.int) [((0 : Nat), (9 : Nat), (12 : Nat), (28 : Nat)), ((0 : Nat), (9 : Nat), (15 : Nat), (15 : Nat))]), (Jvm.Cond.methodLink "SaltMarketLaw" (83 : Nat) ({ cls := "SaltMarket", name := "restore", desc := "(I)I" } : Jvm.MethodName)), (Jvm.Cond.instanceMethod ({ cls := "SaltMarket", name := "restore", desc := "(I)I" } : Jvm.MethodName)), (Jvm.Cond.selects "SaltMarket" ({ cls := "SaltMarket", name := "restore", desc := "(I)I" } : Jvm.MethodName) ({ cls := "SaltMarket", name := "restore", desc := "(I)I" } : Jvm.MethodName)), (Jvm.Cond.code ({ cls := "SaltMarket", name := "restore", desc := "(I)I" } : Jvm.MethodName) prog_1_method_32_code (2 : Nat) (Option.some Jvm.ClassFile.FieldType.int)), (Jvm.Cond.stringRef "SaltMarket" (294 : Nat) "nothing has been saved in this slot"), (Jvm.Cond.classLink "SaltMarketLaw" (87 : Nat) "SaltMarketModel"), (Jvm.Cond.instantiable "SaltMarketModel" (24 : Nat)), (Jvm.Cond.methodLink "SaltMarketLaw" (89 : Nat) ({ cls := "SaltMarketModel", name := "<init>", desc := "()V" } : Jvm.MethodName)), (Jvm.Cond.instanceMethod ({ cls := "SaltMarketModel", name := "<init>", desc := "()V" } : Jvm.MethodName)), (Jvm.Cond.code ({ cls := "SaltMarketModel", name := "<init>", desc := "()V" } : Jvm.MethodName) prog_8_method_1_code (1 : Nat) (Option.none : Option Jvm.ClassFile.FieldType)), (Jvm.Cond.methodLink "SaltMarketModel" (1 : Nat) ({ cls := "java/lang/Object", name := "<init>", desc := "()V" } : Jvm.MethodName)), (Jvm.Cond.methodLink "SaltMarketModel" (46 : Nat) ({ cls := "SaltMarketModel", name := "settles", desc := "()V" } : Jvm.MethodName)), (Jvm.Cond.privateMethod ({ cls := "SaltMarketModel", name := "settles", desc := "()V" } : Jvm.MethodName)), (Jvm.Cond.instanceMethod ({ cls := "SaltMarketModel", name := "settles", desc := "()V" } : Jvm.MethodName)), (Jvm.Cond.code ({ cls := "SaltMarketModel", name := "settles", desc := "()V" } : Jvm.MethodName) prog_8_method_2_code (2 : Nat) (Option.none : Option Jvm.ClassFile.FieldType)), (Jvm.Cond.fieldLink "SaltMarketModel" (42 : Nat) "SaltMarketModel" "thrown" "I"), (Jvm.Cond.fieldLink "SaltMarketModel" (7 : Nat) "SaltMarketModel" "s" "[I"), (Jvm.Cond.fieldLink "SaltMarketModel" (49 : Nat) "SaltMarketModel" "x" "J"), (Jvm.Cond.fieldLink "SaltMarketModel" (13 : Nat) "SaltMarketModel" "saved" "[I"), (Jvm.Cond.fieldLink "SaltMarketModel" (16 : Nat) "SaltMarketModel" "savedX" "[J"), (Jvm.Cond.fieldLink "SaltMarketModel" (57 : Nat) "SaltMarketModel" "savedMany" "I")]
def ck_4_3 : List Cond := [(Jvm.Cond.fieldLink "SaltMarketModel" (20 : Nat) "SaltMarketModel" "slots" "[I"), (Jvm.Cond.fieldLink "SaltMarketModel" (23 : Nat) "SaltMarketModel" "slotX" "[J"), (Jvm.Cond.fieldLink "SaltMarketModel" (26 : Nat) "SaltMarketModel" "hasSlot" "[Z"), (Jvm.Cond.fieldLink "SaltMarketModel" (30 : Nat) "SaltMarketModel" "text" "[I"), (Jvm.Cond.fieldLink "SaltMarketModel" (170 : Nat) "SaltMarketModel" "length" "I"), (Jvm.Cond.fieldLink "SaltMarketModel" (33 : Nat) "SaltMarketModel" "aside" "[I"), (Jvm.Cond.fieldLink "SaltMarketModel" (60 : Nat) "SaltMarketModel" "asideX" "J"), (Jvm.Cond.fieldLink "SaltMarketModel" (36 : Nat) "SaltMarketModel" "kept" "[I"), (Jvm.Cond.fieldLink "SaltMarketModel" (63 : Nat) "SaltMarketModel" "keptX" "J"), (Jvm.Cond.fieldLink "SaltMarketModel" (143 : Nat) "SaltMarketModel" "bestBrings" "I"), (Jvm.Cond.fieldLink "SaltMarketModel" (146 : Nat) "SaltMarketModel" "bestPlace" "I"), (Jvm.Cond.fieldLink "SaltMarketModel" (149 : Nat) "SaltMarketModel" "bestChoice" "I"), (Jvm.Cond.fieldLink "SaltMarketModel" (173 : Nat) "SaltMarketModel" "at" "I"), (Jvm.Cond.fieldLink "SaltMarketModel" (176 : Nat) "SaltMarketModel" "isWell" "Z"), (Jvm.Cond.fieldLink "SaltMarketModel" (193 : Nat) "SaltMarketModel" "players" "I"), (Jvm.Cond.fieldLink "SaltMarketModel" (196 : Nat) "SaltMarketModel" "seed" "I"), (Jvm.Cond.fieldLink "SaltMarketModel" (39 : Nat) "SaltMarketModel" "moves" "[I"), (Jvm.Cond.fieldLink "SaltMarketModel" (190 : Nat) "SaltMarketModel" "moveMany" "I"), (Jvm.Cond.lays "SaltMarketModel" "SaltMarketModel" "thrown" "I"), (Jvm.Cond.soleField "SaltMarketModel" "thrown"), (Jvm.Cond.laysFinal "SaltMarketModel" "SaltMarketModel" "s" "[I"), (Jvm.Cond.soleField "SaltMarketModel" "s"), (Jvm.Cond.lays "SaltMarketModel" "SaltMarketModel" "x" "J"), (Jvm.Cond.soleField "SaltMarketModel" "x"), (Jvm.Cond.laysFinal "SaltMarketModel" "SaltMarketModel" "saved" "[I"), (Jvm.Cond.soleField "SaltMarketModel" "saved"), (Jvm.Cond.laysFinal "SaltMarketModel" "SaltMarketModel" "savedX" "[J"), (Jvm.Cond.soleField "SaltMarketModel" "savedX"), (Jvm.Cond.lays "SaltMarketModel" "SaltMarketModel" "savedMany" "I"), (Jvm.Cond.soleField "SaltMarketModel" "savedMany")]
def ck_4_4 : List Cond := [(Jvm.Cond.laysFinal "SaltMarketModel" "SaltMarketModel" "slots" "[I"), (Jvm.Cond.soleField "SaltMarketModel" "slots"), (Jvm.Cond.laysFinal "SaltMarketModel" "SaltMarketModel" "slotX" "[J"), (Jvm.Cond.soleField "SaltMarketModel" "slotX"), (Jvm.Cond.laysFinal "SaltMarketModel" "SaltMarketModel" "hasSlot" "[Z"), (Jvm.Cond.soleField "SaltMarketModel" "hasSlot"), (Jvm.Cond.laysFinal "SaltMarketModel" "SaltMarketModel" "text" "[I"), (Jvm.Cond.soleField "SaltMarketModel" "text"), (Jvm.Cond.lays "SaltMarketModel" "SaltMarketModel" "length" "I"), (Jvm.Cond.soleField "SaltMarketModel" "length"), (Jvm.Cond.laysFinal "SaltMarketModel" "SaltMarketModel" "aside" "[I"), (Jvm.Cond.soleField "SaltMarketModel" "aside"), (Jvm.Cond.lays "SaltMarketModel" "SaltMarketModel" "asideX" "J"), (Jvm.Cond.soleField "SaltMarketModel" "asideX"), (Jvm.Cond.laysFinal "SaltMarketModel" "SaltMarketModel" "kept" "[I"), (Jvm.Cond.soleField "SaltMarketModel" "kept"), (Jvm.Cond.lays "SaltMarketModel" "SaltMarketModel" "keptX" "J"), (Jvm.Cond.soleField "SaltMarketModel" "keptX"), (Jvm.Cond.lays "SaltMarketModel" "SaltMarketModel" "bestBrings" "I"), (Jvm.Cond.soleField "SaltMarketModel" "bestBrings"), (Jvm.Cond.lays "SaltMarketModel" "SaltMarketModel" "bestPlace" "I"), (Jvm.Cond.soleField "SaltMarketModel" "bestPlace"), (Jvm.Cond.lays "SaltMarketModel" "SaltMarketModel" "bestChoice" "I"), (Jvm.Cond.soleField "SaltMarketModel" "bestChoice"), (Jvm.Cond.lays "SaltMarketModel" "SaltMarketModel" "at" "I"), (Jvm.Cond.soleField "SaltMarketModel" "at"), (Jvm.Cond.lays "SaltMarketModel" "SaltMarketModel" "isWell" "Z"), (Jvm.Cond.soleField "SaltMarketModel" "isWell"), (Jvm.Cond.lays "SaltMarketModel" "SaltMarketModel" "players" "I"), (Jvm.Cond.soleField "SaltMarketModel" "players")]
def ck_4_5 : List Cond := [(Jvm.Cond.lays "SaltMarketModel" "SaltMarketModel" "seed" "I"), (Jvm.Cond.soleField "SaltMarketModel" "seed"), (Jvm.Cond.laysFinal "SaltMarketModel" "SaltMarketModel" "moves" "[I"), (Jvm.Cond.soleField "SaltMarketModel" "moves"), (Jvm.Cond.lays "SaltMarketModel" "SaltMarketModel" "moveMany" "I"), (Jvm.Cond.soleField "SaltMarketModel" "moveMany"), (Jvm.Cond.superclass "SaltMarketModel" "java/lang/Object"), (Jvm.Cond.arrayClass Jvm.ClassFile.FieldType.long), (Jvm.Cond.methodLink "SaltMarketLaw" (96 : Nat) ({ cls := "SaltMarketModel", name := "thrown", desc := "()I" } : Jvm.MethodName)), (Jvm.Cond.instanceMethod ({ cls := "SaltMarketModel", name := "thrown", desc := "()I" } : Jvm.MethodName)), (Jvm.Cond.selects "SaltMarketModel" ({ cls := "SaltMarketModel", name := "thrown", desc := "()I" } : Jvm.MethodName) ({ cls := "SaltMarketModel", name := "thrown", desc := "()I" } : Jvm.MethodName)), (Jvm.Cond.code ({ cls := "SaltMarketModel", name := "thrown", desc := "()I" } : Jvm.MethodName) prog_8_method_3_code (1 : Nat) (Option.some Jvm.ClassFile.FieldType.int)), (Jvm.Cond.methodLink "SaltMarketLaw" (95 : Nat) ({ cls := "SaltMarketModel", name := "append", desc := "(I)I" } : Jvm.MethodName)), (Jvm.Cond.instanceMethod ({ cls := "SaltMarketModel", name := "append", desc := "(I)I" } : Jvm.MethodName)), (Jvm.Cond.selects "SaltMarketModel" ({ cls := "SaltMarketModel", name := "append", desc := "(I)I" } : Jvm.MethodName) ({ cls := "SaltMarketModel", name := "append", desc := "(I)I" } : Jvm.MethodName)), (Jvm.Cond.code ({ cls := "SaltMarketModel", name := "append", desc := "(I)I" } : Jvm.MethodName) prog_8_method_38_code (2 : Nat) (Option.some Jvm.ClassFile.FieldType.int)), (Jvm.Cond.methodLink "SaltMarketModel" (53 : Nat) ({ cls := "SaltMarketModel", name := "in", desc := "(III)Z" } : Jvm.MethodName)), (Jvm.Cond.static ({ cls := "SaltMarketModel", name := "in", desc := "(III)Z" } : Jvm.MethodName)), (Jvm.Cond.code ({ cls := "SaltMarketModel", name := "in", desc := "(III)Z" } : Jvm.MethodName) prog_8_method_4_code (3 : Nat) (Option.some Jvm.ClassFile.FieldType.boolean)), (Jvm.Cond.methodLink "SaltMarketModel" (167 : Nat) ({ cls := "SaltMarketModel", name := "fails", desc := "(I)I" } : Jvm.MethodName)), (Jvm.Cond.privateMethod ({ cls := "SaltMarketModel", name := "fails", desc := "(I)I" } : Jvm.MethodName)), (Jvm.Cond.instanceMethod ({ cls := "SaltMarketModel", name := "fails", desc := "(I)I" } : Jvm.MethodName)), (Jvm.Cond.code ({ cls := "SaltMarketModel", name := "fails", desc := "(I)I" } : Jvm.MethodName) prog_8_method_5_code (2 : Nat) (Option.some Jvm.ClassFile.FieldType.int)), (Jvm.Cond.methodLink "SaltMarketLaw" (102 : Nat) ({ cls := "SaltMarketModel", name := "clearText", desc := "()I" } : Jvm.MethodName)), (Jvm.Cond.instanceMethod ({ cls := "SaltMarketModel", name := "clearText", desc := "()I" } : Jvm.MethodName)), (Jvm.Cond.selects "SaltMarketModel" ({ cls := "SaltMarketModel", name := "clearText", desc := "()I" } : Jvm.MethodName) ({ cls := "SaltMarketModel", name := "clearText", desc := "()I" } : Jvm.MethodName)), (Jvm.Cond.code ({ cls := "SaltMarketModel", name := "clearText", desc := "()I" } : Jvm.MethodName) prog_8_method_39_code (2 : Nat) (Option.some Jvm.ClassFile.FieldType.int)), (Jvm.Cond.methodLink "SaltMarketLaw" (106 : Nat) ({ cls := "SaltMarketModel", name := "errorPosition", desc := "()I" } : Jvm.MethodName)), (Jvm.Cond.instanceMethod ({ cls := "SaltMarketModel", name := "errorPosition", desc := "()I" } : Jvm.MethodName)), (Jvm.Cond.selects "SaltMarketModel" ({ cls := "SaltMarketModel", name := "errorPosition", desc := "()I" } : Jvm.MethodName) ({ cls := "SaltMarketModel", name := "errorPosition", desc := "()I" } : Jvm.MethodName))]
def ck_4_6 : List Cond := [(Jvm.Cond.code ({ cls := "SaltMarketModel", name := "errorPosition", desc := "()I" } : Jvm.MethodName) prog_8_method_45_code (1 : Nat) (Option.some Jvm.ClassFile.FieldType.int)), (Jvm.Cond.methodLink "SaltMarketModel" (202 : Nat) ({ cls := "SaltMarketModel", name := "reads", desc := "()I" } : Jvm.MethodName)), (Jvm.Cond.privateMethod ({ cls := "SaltMarketModel", name := "reads", desc := "()I" } : Jvm.MethodName)), (Jvm.Cond.instanceMethod ({ cls := "SaltMarketModel", name := "reads", desc := "()I" } : Jvm.MethodName)), (Jvm.Cond.code ({ cls := "SaltMarketModel", name := "reads", desc := "()I" } : Jvm.MethodName) prog_8_method_44_code (1 : Nat) (Option.some Jvm.ClassFile.FieldType.int)), (Jvm.Cond.methodLink "SaltMarketModel" (187 : Nat) ({ cls := "SaltMarketModel", name := "wants", desc := "(II)I" } : Jvm.MethodName)), (Jvm.Cond.privateMethod ({ cls := "SaltMarketModel", name := "wants", desc := "(II)I" } : Jvm.MethodName)), (Jvm.Cond.instanceMethod ({ cls := "SaltMarketModel", name := "wants", desc := "(II)I" } : Jvm.MethodName)), (Jvm.Cond.code ({ cls := "SaltMarketModel", name := "wants", desc := "(II)I" } : Jvm.MethodName) prog_8_method_41_code (4 : Nat) (Option.some Jvm.ClassFile.FieldType.int)), (Jvm.Cond.methodLink "SaltMarketModel" (180 : Nat) ({ cls := "SaltMarketModel", name := "letter", desc := "()I" } : Jvm.MethodName)), (Jvm.Cond.privateMethod ({ cls := "SaltMarketModel", name := "letter", desc := "()I" } : Jvm.MethodName)), (Jvm.Cond.instanceMethod ({ cls := "SaltMarketModel", name := "letter", desc := "()I" } : Jvm.MethodName)), (Jvm.Cond.code ({ cls := "SaltMarketModel", name := "letter", desc := "()I" } : Jvm.MethodName) prog_8_method_40_code (1 : Nat) (Option.some Jvm.ClassFile.FieldType.int)), (Jvm.Cond.methodLink "SaltMarketModel" (199 : Nat) ({ cls := "SaltMarketModel", name := "readsMove", desc := "()V" } : Jvm.MethodName)), (Jvm.Cond.privateMethod ({ cls := "SaltMarketModel", name := "readsMove", desc := "()V" } : Jvm.MethodName)), (Jvm.Cond.instanceMethod ({ cls := "SaltMarketModel", name := "readsMove", desc := "()V" } : Jvm.MethodName)), (Jvm.Cond.code ({ cls := "SaltMarketModel", name := "readsMove", desc := "()V" } : Jvm.MethodName) prog_8_method_43_code (3 : Nat) (Option.none : Option Jvm.ClassFile.FieldType)), (Jvm.Cond.methodLink "SaltMarketModel" (184 : Nat) ({ cls := "SaltMarketModel", name := "placeOf", desc := "(I)I" } : Jvm.MethodName)), (Jvm.Cond.static ({ cls := "SaltMarketModel", name := "placeOf", desc := "(I)I" } : Jvm.MethodName)), (Jvm.Cond.code ({ cls := "SaltMarketModel", name := "placeOf", desc := "(I)I" } : Jvm.MethodName) prog_8_method_42_code (1 : Nat) (Option.some Jvm.ClassFile.FieldType.int)), (Jvm.Cond.methodLink "SaltMarketLaw" (110 : Nat) ({ cls := "SaltMarketModel", name := "load", desc := "()I" } : Jvm.MethodName)), (Jvm.Cond.instanceMethod ({ cls := "SaltMarketModel", name := "load", desc := "()I" } : Jvm.MethodName)), (Jvm.Cond.selects "SaltMarketModel" ({ cls := "SaltMarketModel", name := "load", desc := "()I" } : Jvm.MethodName) ({ cls := "SaltMarketModel", name := "load", desc := "()I" } : Jvm.MethodName)), (Jvm.Cond.code ({ cls := "SaltMarketModel", name := "load", desc := "()I" } : Jvm.MethodName) prog_8_method_47_code (3 : Nat) (Option.some Jvm.ClassFile.FieldType.int)), (Jvm.Cond.methodLink "SaltMarketModel" (205 : Nat) ({ cls := "SaltMarketModel", name := "begins", desc := "(IJ)V" } : Jvm.MethodName)), (Jvm.Cond.privateMethod ({ cls := "SaltMarketModel", name := "begins", desc := "(IJ)V" } : Jvm.MethodName)), (Jvm.Cond.instanceMethod ({ cls := "SaltMarketModel", name := "begins", desc := "(IJ)V" } : Jvm.MethodName)), (Jvm.Cond.code ({ cls := "SaltMarketModel", name := "begins", desc := "(IJ)V" } : Jvm.MethodName) prog_8_method_54_code (5 : Nat) (Option.none : Option Jvm.ClassFile.FieldType)), (Jvm.Cond.methodLink "SaltMarketModel" (85 : Nat) ({ cls := "SaltMarketModel", name := "adds", desc := "(III)V" } : Jvm.MethodName)), (Jvm.Cond.privateMethod ({ cls := "SaltMarketModel", name := "adds", desc := "(III)V" } : Jvm.MethodName))]
def ck_4_7 : List Cond := [(Jvm.Cond.instanceMethod ({ cls := "SaltMarketModel", name := "adds", desc := "(III)V" } : Jvm.MethodName)), (Jvm.Cond.code ({ cls := "SaltMarketModel", name := "adds", desc := "(III)V" } : Jvm.MethodName) prog_8_method_7_code (4 : Nat) (Option.none : Option Jvm.ClassFile.FieldType)), (Jvm.Cond.methodLink "SaltMarketModel" (93 : Nat) ({ cls := "SaltMarketModel", name := "throwsDie", desc := "()V" } : Jvm.MethodName)), (Jvm.Cond.privateMethod ({ cls := "SaltMarketModel", name := "throwsDie", desc := "()V" } : Jvm.MethodName)), (Jvm.Cond.instanceMethod ({ cls := "SaltMarketModel", name := "throwsDie", desc := "()V" } : Jvm.MethodName)), (Jvm.Cond.code ({ cls := "SaltMarketModel", name := "throwsDie", desc := "()V" } : Jvm.MethodName) prog_8_method_20_code (1 : Nat) (Option.none : Option Jvm.ClassFile.FieldType)), (Jvm.Cond.methodLink "SaltMarketModel" (70 : Nat) ({ cls := "SaltMarketModel", name := "next", desc := "(J)J" } : Jvm.MethodName)), (Jvm.Cond.static ({ cls := "SaltMarketModel", name := "next", desc := "(J)J" } : Jvm.MethodName)), (Jvm.Cond.code ({ cls := "SaltMarketModel", name := "next", desc := "(J)J" } : Jvm.MethodName) prog_8_method_19_code (2 : Nat) (Option.some Jvm.ClassFile.FieldType.long)), (Jvm.Cond.constantLong "SaltMarketModel" (66 : Nat) (6364136223846793005 : Int64)), (Jvm.Cond.constantLong "SaltMarketModel" (68 : Nat) (1442695040888963407 : Int64)), (Jvm.Cond.methodLink "SaltMarketModel" (74 : Nat) ({ cls := "SaltMarketModel", name := "die", desc := "(J)I" } : Jvm.MethodName)), (Jvm.Cond.static ({ cls := "SaltMarketModel", name := "die", desc := "(J)I" } : Jvm.MethodName)), (Jvm.Cond.code ({ cls := "SaltMarketModel", name := "die", desc := "(J)I" } : Jvm.MethodName) prog_8_method_18_code (2 : Nat) (Option.some Jvm.ClassFile.FieldType.int)), (Jvm.Cond.methodLink "SaltMarketModel" (209 : Nat) ({ cls := "SaltMarketModel", name := "leavesOut", desc := "(II)I" } : Jvm.MethodName)), (Jvm.Cond.privateMethod ({ cls := "SaltMarketModel", name := "leavesOut", desc := "(II)I" } : Jvm.MethodName)), (Jvm.Cond.instanceMethod ({ cls := "SaltMarketModel", name := "leavesOut", desc := "(II)I" } : Jvm.MethodName)), (Jvm.Cond.code ({ cls := "SaltMarketModel", name := "leavesOut", desc := "(II)I" } : Jvm.MethodName) prog_8_method_46_code (3 : Nat) (Option.some Jvm.ClassFile.FieldType.int)), (Jvm.Cond.methodLink "SaltMarketModel" (106 : Nat) ({ cls := "SaltMarketModel", name := "isOn", desc := "()Z" } : Jvm.MethodName)), (Jvm.Cond.privateMethod ({ cls := "SaltMarketModel", name := "isOn", desc := "()Z" } : Jvm.MethodName)), (Jvm.Cond.instanceMethod ({ cls := "SaltMarketModel", name := "isOn", desc := "()Z" } : Jvm.MethodName)), (Jvm.Cond.code ({ cls := "SaltMarketModel", name := "isOn", desc := "()Z" } : Jvm.MethodName) prog_8_method_17_code (1 : Nat) (Option.some Jvm.ClassFile.FieldType.boolean)), (Jvm.Cond.methodLink "SaltMarketModel" (164 : Nat) ({ cls := "SaltMarketModel", name := "passes", desc := "()V" } : Jvm.MethodName)), (Jvm.Cond.privateMethod ({ cls := "SaltMarketModel", name := "passes", desc := "()V" } : Jvm.MethodName)), (Jvm.Cond.instanceMethod ({ cls := "SaltMarketModel", name := "passes", desc := "()V" } : Jvm.MethodName)), (Jvm.Cond.code ({ cls := "SaltMarketModel", name := "passes", desc := "()V" } : Jvm.MethodName) prog_8_method_36_code (1 : Nat) (Option.none : Option Jvm.ClassFile.FieldType)), (Jvm.Cond.methodLink "SaltMarketModel" (158 : Nat) ({ cls := "SaltMarketModel", name := "goesTo", desc := "()V" } : Jvm.MethodName)), (Jvm.Cond.privateMethod ({ cls := "SaltMarketModel", name := "goesTo", desc := "()V" } : Jvm.MethodName)), (Jvm.Cond.instanceMethod ({ cls := "SaltMarketModel", name := "goesTo", desc := "()V" } : Jvm.MethodName)), (Jvm.Cond.code ({ cls := "SaltMarketModel", name := "goesTo", desc := "()V" } : Jvm.MethodName) prog_8_method_25_code (4 : Nat) (Option.none : Option Jvm.ClassFile.FieldType))]
def ck_5_0 : List Cond := [(Jvm.Cond.methodLink "SaltMarketModel" (78 : Nat) ({ cls := "SaltMarketModel", name := "of", desc := "(II)I" } : Jvm.MethodName)), (Jvm.Cond.privateMethod ({ cls := "SaltMarketModel", name := "of", desc := "(II)I" } : Jvm.MethodName)), (Jvm.Cond.instanceMethod ({ cls := "SaltMarketModel", name := "of", desc := "(II)I" } : Jvm.MethodName)), (Jvm.Cond.code ({ cls := "SaltMarketModel", name := "of", desc := "(II)I" } : Jvm.MethodName) prog_8_method_6_code (3 : Nat) (Option.some Jvm.ClassFile.FieldType.int)), (Jvm.Cond.methodLink "SaltMarketModel" (96 : Nat) ({ cls := "SaltMarketModel", name := "endsRound", desc := "()V" } : Jvm.MethodName)), (Jvm.Cond.privateMethod ({ cls := "SaltMarketModel", name := "endsRound", desc := "()V" } : Jvm.MethodName)), (Jvm.Cond.instanceMethod ({ cls := "SaltMarketModel", name := "endsRound", desc := "()V" } : Jvm.MethodName)), (Jvm.Cond.code ({ cls := "SaltMarketModel", name := "endsRound", desc := "()V" } : Jvm.MethodName) prog_8_method_24_code (2 : Nat) (Option.none : Option Jvm.ClassFile.FieldType)), (Jvm.Cond.methodLink "SaltMarketModel" (89 : Nat) ({ cls := "SaltMarketModel", name := "ends", desc := "(I)V" } : Jvm.MethodName)), (Jvm.Cond.privateMethod ({ cls := "SaltMarketModel", name := "ends", desc := "(I)V" } : Jvm.MethodName)), (Jvm.Cond.instanceMethod ({ cls := "SaltMarketModel", name := "ends", desc := "(I)V" } : Jvm.MethodName)), (Jvm.Cond.code ({ cls := "SaltMarketModel", name := "ends", desc := "(I)V" } : Jvm.MethodName) prog_8_method_23_code (5 : Nat) (Option.none : Option Jvm.ClassFile.FieldType)), (Jvm.Cond.methodLink "SaltMarketModel" (82 : Nat) ({ cls := "SaltMarketModel", name := "loss", desc := "(II)I" } : Jvm.MethodName)), (Jvm.Cond.privateMethod ({ cls := "SaltMarketModel", name := "loss", desc := "(II)I" } : Jvm.MethodName)), (Jvm.Cond.instanceMethod ({ cls := "SaltMarketModel", name := "loss", desc := "(II)I" } : Jvm.MethodName)), (Jvm.Cond.code ({ cls := "SaltMarketModel", name := "loss", desc := "(II)I" } : Jvm.MethodName) prog_8_method_22_code (8 : Nat) (Option.some Jvm.ClassFile.FieldType.int)), (Jvm.Cond.methodLink "SaltMarketModel" (127 : Nat) ({ cls := "SaltMarketModel", name := "canPlace", desc := "(II)Z" } : Jvm.MethodName)), (Jvm.Cond.privateMethod ({ cls := "SaltMarketModel", name := "canPlace", desc := "(II)Z" } : Jvm.MethodName)), (Jvm.Cond.instanceMethod ({ cls := "SaltMarketModel", name := "canPlace", desc := "(II)Z" } : Jvm.MethodName)), (Jvm.Cond.code ({ cls := "SaltMarketModel", name := "canPlace", desc := "(II)Z" } : Jvm.MethodName) prog_8_method_30_code (4 : Nat) (Option.some Jvm.ClassFile.FieldType.boolean)), (Jvm.Cond.methodLink "SaltMarketModel" (110 : Nat) ({ cls := "SaltMarketModel", name := "isFull", desc := "(I)Z" } : Jvm.MethodName)), (Jvm.Cond.privateMethod ({ cls := "SaltMarketModel", name := "isFull", desc := "(I)Z" } : Jvm.MethodName)), (Jvm.Cond.instanceMethod ({ cls := "SaltMarketModel", name := "isFull", desc := "(I)Z" } : Jvm.MethodName)), (Jvm.Cond.code ({ cls := "SaltMarketModel", name := "isFull", desc := "(I)Z" } : Jvm.MethodName) prog_8_method_28_code (2 : Nat) (Option.some Jvm.ClassFile.FieldType.boolean)), (Jvm.Cond.methodLink "SaltMarketModel" (99 : Nat) ({ cls := "SaltMarketModel", name := "workersAt", desc := "(I)I" } : Jvm.MethodName)), (Jvm.Cond.privateMethod ({ cls := "SaltMarketModel", name := "workersAt", desc := "(I)I" } : Jvm.MethodName)), (Jvm.Cond.instanceMethod ({ cls := "SaltMarketModel", name := "workersAt", desc := "(I)I" } : Jvm.MethodName)), (Jvm.Cond.code ({ cls := "SaltMarketModel", name := "workersAt", desc := "(I)I" } : Jvm.MethodName) prog_8_method_8_code (2 : Nat) (Option.some Jvm.ClassFile.FieldType.int)), (Jvm.Cond.methodLink "SaltMarketModel" (114 : Nat) ({ cls := "SaltMarketModel", name := "bumpedAt", desc := "(I)I" } : Jvm.MethodName)), (Jvm.Cond.privateMethod ({ cls := "SaltMarketModel", name := "bumpedAt", desc := "(I)I" } : Jvm.MethodName))]
def ck_5_1 : List Cond := [(Jvm.Cond.instanceMethod ({ cls := "SaltMarketModel", name := "bumpedAt", desc := "(I)I" } : Jvm.MethodName)), (Jvm.Cond.code ({ cls := "SaltMarketModel", name := "bumpedAt", desc := "(I)I" } : Jvm.MethodName) prog_8_method_27_code (3 : Nat) (Option.some Jvm.ClassFile.FieldType.int)), (Jvm.Cond.methodLink "SaltMarketModel" (103 : Nat) ({ cls := "SaltMarketModel", name := "ownerAt", desc := "(II)I" } : Jvm.MethodName)), (Jvm.Cond.privateMethod ({ cls := "SaltMarketModel", name := "ownerAt", desc := "(II)I" } : Jvm.MethodName)), (Jvm.Cond.instanceMethod ({ cls := "SaltMarketModel", name := "ownerAt", desc := "(II)I" } : Jvm.MethodName)), (Jvm.Cond.code ({ cls := "SaltMarketModel", name := "ownerAt", desc := "(II)I" } : Jvm.MethodName) prog_8_method_9_code (3 : Nat) (Option.some Jvm.ClassFile.FieldType.int)), (Jvm.Cond.methodLink "SaltMarketModel" (117 : Nat) ({ cls := "SaltMarketModel", name := "canWork", desc := "(III)Z" } : Jvm.MethodName)), (Jvm.Cond.privateMethod ({ cls := "SaltMarketModel", name := "canWork", desc := "(III)Z" } : Jvm.MethodName)), (Jvm.Cond.instanceMethod ({ cls := "SaltMarketModel", name := "canWork", desc := "(III)Z" } : Jvm.MethodName)), (Jvm.Cond.code ({ cls := "SaltMarketModel", name := "canWork", desc := "(III)Z" } : Jvm.MethodName) prog_8_method_29_code (5 : Nat) (Option.some Jvm.ClassFile.FieldType.boolean)), (Jvm.Cond.methodLink "SaltMarketModel" (137 : Nat) ({ cls := "SaltMarketModel", name := "places", desc := "(II)I" } : Jvm.MethodName)), (Jvm.Cond.privateMethod ({ cls := "SaltMarketModel", name := "places", desc := "(II)I" } : Jvm.MethodName)), (Jvm.Cond.instanceMethod ({ cls := "SaltMarketModel", name := "places", desc := "(II)I" } : Jvm.MethodName)), (Jvm.Cond.code ({ cls := "SaltMarketModel", name := "places", desc := "(II)I" } : Jvm.MethodName) prog_8_method_33_code (8 : Nat) (Option.some Jvm.ClassFile.FieldType.int)), (Jvm.Cond.methodLink "SaltMarketModel" (123 : Nat) ({ cls := "SaltMarketModel", name := "works", desc := "(II)V" } : Jvm.MethodName)), (Jvm.Cond.privateMethod ({ cls := "SaltMarketModel", name := "works", desc := "(II)V" } : Jvm.MethodName)), (Jvm.Cond.instanceMethod ({ cls := "SaltMarketModel", name := "works", desc := "(II)V" } : Jvm.MethodName)), (Jvm.Cond.code ({ cls := "SaltMarketModel", name := "works", desc := "(II)V" } : Jvm.MethodName) prog_8_method_31_code (4 : Nat) (Option.none : Option Jvm.ClassFile.FieldType)), (Jvm.Cond.methodLink "SaltMarketModel" (120 : Nat) ({ cls := "SaltMarketModel", name := "sells", desc := "(III)V" } : Jvm.MethodName)), (Jvm.Cond.privateMethod ({ cls := "SaltMarketModel", name := "sells", desc := "(III)V" } : Jvm.MethodName)), (Jvm.Cond.instanceMethod ({ cls := "SaltMarketModel", name := "sells", desc := "(III)V" } : Jvm.MethodName)), (Jvm.Cond.code ({ cls := "SaltMarketModel", name := "sells", desc := "(III)V" } : Jvm.MethodName) prog_8_method_32_code (5 : Nat) (Option.none : Option Jvm.ClassFile.FieldType)), (Jvm.Cond.methodLink "SaltMarketLaw" (113 : Nat) ({ cls := "SaltMarketModel", name := "about", desc := "(I)I" } : Jvm.MethodName)), (Jvm.Cond.instanceMethod ({ cls := "SaltMarketModel", name := "about", desc := "(I)I" } : Jvm.MethodName)), (Jvm.Cond.selects "SaltMarketModel" ({ cls := "SaltMarketModel", name := "about", desc := "(I)I" } : Jvm.MethodName) ({ cls := "SaltMarketModel", name := "about", desc := "(I)I" } : Jvm.MethodName)), (Jvm.Cond.code ({ cls := "SaltMarketModel", name := "about", desc := "(I)I" } : Jvm.MethodName) prog_8_method_50_code (2 : Nat) (Option.some Jvm.ClassFile.FieldType.int)), (Jvm.Cond.methodLink "SaltMarketModel" (215 : Nat) ({ cls := "SaltMarketModel", name := "tells", desc := "(I)I" } : Jvm.MethodName)), (Jvm.Cond.privateMethod ({ cls := "SaltMarketModel", name := "tells", desc := "(I)I" } : Jvm.MethodName)), (Jvm.Cond.instanceMethod ({ cls := "SaltMarketModel", name := "tells", desc := "(I)I" } : Jvm.MethodName)), (Jvm.Cond.code ({ cls := "SaltMarketModel", name := "tells", desc := "(I)I" } : Jvm.MethodName) prog_8_method_49_code (2 : Nat) (Option.some Jvm.ClassFile.FieldType.int))]
def ck_5_2 : List Cond := [(Jvm.Cond.methodLink "SaltMarketModel" (212 : Nat) ({ cls := "SaltMarketModel", name := "atPlaces", desc := "()I" } : Jvm.MethodName)), (Jvm.Cond.privateMethod ({ cls := "SaltMarketModel", name := "atPlaces", desc := "()I" } : Jvm.MethodName)), (Jvm.Cond.instanceMethod ({ cls := "SaltMarketModel", name := "atPlaces", desc := "()I" } : Jvm.MethodName)), (Jvm.Cond.code ({ cls := "SaltMarketModel", name := "atPlaces", desc := "()I" } : Jvm.MethodName) prog_8_method_48_code (3 : Nat) (Option.some Jvm.ClassFile.FieldType.int)), (Jvm.Cond.methodLink "SaltMarketLaw" (117 : Nat) ({ cls := "SaltMarketModel", name := "player", desc := "(II)I" } : Jvm.MethodName)), (Jvm.Cond.instanceMethod ({ cls := "SaltMarketModel", name := "player", desc := "(II)I" } : Jvm.MethodName)), (Jvm.Cond.selects "SaltMarketModel" ({ cls := "SaltMarketModel", name := "player", desc := "(II)I" } : Jvm.MethodName) ({ cls := "SaltMarketModel", name := "player", desc := "(II)I" } : Jvm.MethodName)), (Jvm.Cond.code ({ cls := "SaltMarketModel", name := "player", desc := "(II)I" } : Jvm.MethodName) prog_8_method_51_code (3 : Nat) (Option.some Jvm.ClassFile.FieldType.int)), (Jvm.Cond.methodLink "SaltMarketModel" (218 : Nat) ({ cls := "SaltMarketModel", name := "isPlayer", desc := "(I)Z" } : Jvm.MethodName)), (Jvm.Cond.privateMethod ({ cls := "SaltMarketModel", name := "isPlayer", desc := "(I)Z" } : Jvm.MethodName)), (Jvm.Cond.instanceMethod ({ cls := "SaltMarketModel", name := "isPlayer", desc := "(I)Z" } : Jvm.MethodName)), (Jvm.Cond.code ({ cls := "SaltMarketModel", name := "isPlayer", desc := "(I)Z" } : Jvm.MethodName) prog_8_method_10_code (2 : Nat) (Option.some Jvm.ClassFile.FieldType.boolean)), (Jvm.Cond.methodLink "SaltMarketModel" (134 : Nat) ({ cls := "SaltMarketModel", name := "total", desc := "(I)I" } : Jvm.MethodName)), (Jvm.Cond.privateMethod ({ cls := "SaltMarketModel", name := "total", desc := "(I)I" } : Jvm.MethodName)), (Jvm.Cond.instanceMethod ({ cls := "SaltMarketModel", name := "total", desc := "(I)I" } : Jvm.MethodName)), (Jvm.Cond.code ({ cls := "SaltMarketModel", name := "total", desc := "(I)I" } : Jvm.MethodName) prog_8_method_21_code (2 : Nat) (Option.some Jvm.ClassFile.FieldType.int)), (Jvm.Cond.methodLink "SaltMarketLaw" (120 : Nat) ({ cls := "SaltMarketModel", name := "worker", desc := "(II)I" } : Jvm.MethodName)), (Jvm.Cond.instanceMethod ({ cls := "SaltMarketModel", name := "worker", desc := "(II)I" } : Jvm.MethodName)), (Jvm.Cond.selects "SaltMarketModel" ({ cls := "SaltMarketModel", name := "worker", desc := "(II)I" } : Jvm.MethodName) ({ cls := "SaltMarketModel", name := "worker", desc := "(II)I" } : Jvm.MethodName)), (Jvm.Cond.code ({ cls := "SaltMarketModel", name := "worker", desc := "(II)I" } : Jvm.MethodName) prog_8_method_52_code (3 : Nat) (Option.some Jvm.ClassFile.FieldType.int)), (Jvm.Cond.methodLink "SaltMarketModel" (221 : Nat) ({ cls := "SaltMarketModel", name := "isPlace", desc := "(I)Z" } : Jvm.MethodName)), (Jvm.Cond.static ({ cls := "SaltMarketModel", name := "isPlace", desc := "(I)Z" } : Jvm.MethodName)), (Jvm.Cond.code ({ cls := "SaltMarketModel", name := "isPlace", desc := "(I)Z" } : Jvm.MethodName) prog_8_method_11_code (1 : Nat) (Option.some Jvm.ClassFile.FieldType.boolean)), (Jvm.Cond.methodLink "SaltMarketLaw" (123 : Nat) ({ cls := "SaltMarketModel", name := "setting", desc := "(I)I" } : Jvm.MethodName)), (Jvm.Cond.instanceMethod ({ cls := "SaltMarketModel", name := "setting", desc := "(I)I" } : Jvm.MethodName)), (Jvm.Cond.selects "SaltMarketModel" ({ cls := "SaltMarketModel", name := "setting", desc := "(I)I" } : Jvm.MethodName) ({ cls := "SaltMarketModel", name := "setting", desc := "(I)I" } : Jvm.MethodName)), (Jvm.Cond.code ({ cls := "SaltMarketModel", name := "setting", desc := "(I)I" } : Jvm.MethodName) prog_8_method_53_code (2 : Nat) (Option.some Jvm.ClassFile.FieldType.int)), (Jvm.Cond.methodLink "SaltMarketLaw" (129 : Nat) ({ cls := "SaltMarketModel", name := "begin", desc := "(IJ)I" } : Jvm.MethodName)), (Jvm.Cond.instanceMethod ({ cls := "SaltMarketModel", name := "begin", desc := "(IJ)I" } : Jvm.MethodName)), (Jvm.Cond.selects "SaltMarketModel" ({ cls := "SaltMarketModel", name := "begin", desc := "(IJ)I" } : Jvm.MethodName) ({ cls := "SaltMarketModel", name := "begin", desc := "(IJ)I" } : Jvm.MethodName))]
def ck_5_3 : List Cond := [(Jvm.Cond.code ({ cls := "SaltMarketModel", name := "begin", desc := "(IJ)I" } : Jvm.MethodName) prog_8_method_55_code (4 : Nat) (Option.some Jvm.ClassFile.FieldType.int)), (Jvm.Cond.methodLink "SaltMarketModel" (224 : Nat) ({ cls := "SaltMarketModel", name := "remembers", desc := "()V" } : Jvm.MethodName)), (Jvm.Cond.privateMethod ({ cls := "SaltMarketModel", name := "remembers", desc := "()V" } : Jvm.MethodName)), (Jvm.Cond.instanceMethod ({ cls := "SaltMarketModel", name := "remembers", desc := "()V" } : Jvm.MethodName)), (Jvm.Cond.code ({ cls := "SaltMarketModel", name := "remembers", desc := "()V" } : Jvm.MethodName) prog_8_method_12_code (2 : Nat) (Option.none : Option Jvm.ClassFile.FieldType)), (Jvm.Cond.methodLink "SaltMarketLaw" (132 : Nat) ({ cls := "SaltMarketModel", name := "place", desc := "(II)I" } : Jvm.MethodName)), (Jvm.Cond.instanceMethod ({ cls := "SaltMarketModel", name := "place", desc := "(II)I" } : Jvm.MethodName)), (Jvm.Cond.selects "SaltMarketModel" ({ cls := "SaltMarketModel", name := "place", desc := "(II)I" } : Jvm.MethodName) ({ cls := "SaltMarketModel", name := "place", desc := "(II)I" } : Jvm.MethodName)), (Jvm.Cond.code ({ cls := "SaltMarketModel", name := "place", desc := "(II)I" } : Jvm.MethodName) prog_8_method_57_code (4 : Nat) (Option.some Jvm.ClassFile.FieldType.int)), (Jvm.Cond.methodLink "SaltMarketModel" (227 : Nat) ({ cls := "SaltMarketModel", name := "refuses", desc := "(II)I" } : Jvm.MethodName)), (Jvm.Cond.privateMethod ({ cls := "SaltMarketModel", name := "refuses", desc := "(II)I" } : Jvm.MethodName)), (Jvm.Cond.instanceMethod ({ cls := "SaltMarketModel", name := "refuses", desc := "(II)I" } : Jvm.MethodName)), (Jvm.Cond.code ({ cls := "SaltMarketModel", name := "refuses", desc := "(II)I" } : Jvm.MethodName) prog_8_method_56_code (3 : Nat) (Option.some Jvm.ClassFile.FieldType.int)), (Jvm.Cond.methodLink "SaltMarketModel" (152 : Nat) ({ cls := "SaltMarketModel", name := "isChoice", desc := "(II)Z" } : Jvm.MethodName)), (Jvm.Cond.static ({ cls := "SaltMarketModel", name := "isChoice", desc := "(II)Z" } : Jvm.MethodName)), (Jvm.Cond.code ({ cls := "SaltMarketModel", name := "isChoice", desc := "(II)Z" } : Jvm.MethodName) prog_8_method_26_code (2 : Nat) (Option.some Jvm.ClassFile.FieldType.boolean)), (Jvm.Cond.methodLink "SaltMarketLaw" (135 : Nat) ({ cls := "SaltMarketModel", name := "pass", desc := "()I" } : Jvm.MethodName)), (Jvm.Cond.instanceMethod ({ cls := "SaltMarketModel", name := "pass", desc := "()I" } : Jvm.MethodName)), (Jvm.Cond.selects "SaltMarketModel" ({ cls := "SaltMarketModel", name := "pass", desc := "()I" } : Jvm.MethodName) ({ cls := "SaltMarketModel", name := "pass", desc := "()I" } : Jvm.MethodName)), (Jvm.Cond.code ({ cls := "SaltMarketModel", name := "pass", desc := "()I" } : Jvm.MethodName) prog_8_method_58_code (1 : Nat) (Option.some Jvm.ClassFile.FieldType.int)), (Jvm.Cond.methodLink "SaltMarketLaw" (138 : Nat) ({ cls := "SaltMarketModel", name := "play", desc := "()I" } : Jvm.MethodName)), (Jvm.Cond.instanceMethod ({ cls := "SaltMarketModel", name := "play", desc := "()I" } : Jvm.MethodName)), (Jvm.Cond.selects "SaltMarketModel" ({ cls := "SaltMarketModel", name := "play", desc := "()I" } : Jvm.MethodName) ({ cls := "SaltMarketModel", name := "play", desc := "()I" } : Jvm.MethodName)), (Jvm.Cond.code ({ cls := "SaltMarketModel", name := "play", desc := "()I" } : Jvm.MethodName) prog_8_method_59_code (1 : Nat) (Option.some Jvm.ClassFile.FieldType.int)), (Jvm.Cond.methodLink "SaltMarketModel" (230 : Nat) ({ cls := "SaltMarketModel", name := "plays", desc := "()I" } : Jvm.MethodName)), (Jvm.Cond.privateMethod ({ cls := "SaltMarketModel", name := "plays", desc := "()I" } : Jvm.MethodName)), (Jvm.Cond.instanceMethod ({ cls := "SaltMarketModel", name := "plays", desc := "()I" } : Jvm.MethodName)), (Jvm.Cond.code ({ cls := "SaltMarketModel", name := "plays", desc := "()I" } : Jvm.MethodName) prog_8_method_37_code (2 : Nat) (Option.some Jvm.ClassFile.FieldType.int)), (Jvm.Cond.methodLink "SaltMarketModel" (161 : Nat) ({ cls := "SaltMarketModel", name := "findsBest", desc := "()V" } : Jvm.MethodName)), (Jvm.Cond.privateMethod ({ cls := "SaltMarketModel", name := "findsBest", desc := "()V" } : Jvm.MethodName))]
def ck_5_4 : List Cond := [(Jvm.Cond.instanceMethod ({ cls := "SaltMarketModel", name := "findsBest", desc := "()V" } : Jvm.MethodName)), (Jvm.Cond.code ({ cls := "SaltMarketModel", name := "findsBest", desc := "()V" } : Jvm.MethodName) prog_8_method_35_code (4 : Nat) (Option.none : Option Jvm.ClassFile.FieldType)), (Jvm.Cond.methodLink "SaltMarketModel" (155 : Nat) ({ cls := "SaltMarketModel", name := "bringing", desc := "(II)I" } : Jvm.MethodName)), (Jvm.Cond.privateMethod ({ cls := "SaltMarketModel", name := "bringing", desc := "(II)I" } : Jvm.MethodName)), (Jvm.Cond.instanceMethod ({ cls := "SaltMarketModel", name := "bringing", desc := "(II)I" } : Jvm.MethodName)), (Jvm.Cond.code ({ cls := "SaltMarketModel", name := "bringing", desc := "(II)I" } : Jvm.MethodName) prog_8_method_34_code (6 : Nat) (Option.some Jvm.ClassFile.FieldType.int)), (Jvm.Cond.methodLink "SaltMarketModel" (131 : Nat) ({ cls := "SaltMarketModel", name := "putsAside", desc := "()V" } : Jvm.MethodName)), (Jvm.Cond.privateMethod ({ cls := "SaltMarketModel", name := "putsAside", desc := "()V" } : Jvm.MethodName)), (Jvm.Cond.instanceMethod ({ cls := "SaltMarketModel", name := "putsAside", desc := "()V" } : Jvm.MethodName)), (Jvm.Cond.code ({ cls := "SaltMarketModel", name := "putsAside", desc := "()V" } : Jvm.MethodName) prog_8_method_13_code (2 : Nat) (Option.none : Option Jvm.ClassFile.FieldType)), (Jvm.Cond.methodLink "SaltMarketModel" (140 : Nat) ({ cls := "SaltMarketModel", name := "takesBack", desc := "()V" } : Jvm.MethodName)), (Jvm.Cond.privateMethod ({ cls := "SaltMarketModel", name := "takesBack", desc := "()V" } : Jvm.MethodName)), (Jvm.Cond.instanceMethod ({ cls := "SaltMarketModel", name := "takesBack", desc := "()V" } : Jvm.MethodName)), (Jvm.Cond.code ({ cls := "SaltMarketModel", name := "takesBack", desc := "()V" } : Jvm.MethodName) prog_8_method_14_code (2 : Nat) (Option.none : Option Jvm.ClassFile.FieldType)), (Jvm.Cond.methodLink "SaltMarketLaw" (141 : Nat) ({ cls := "SaltMarketModel", name := "set", desc := "(II)I" } : Jvm.MethodName)), (Jvm.Cond.instanceMethod ({ cls := "SaltMarketModel", name := "set", desc := "(II)I" } : Jvm.MethodName)), (Jvm.Cond.selects "SaltMarketModel" ({ cls := "SaltMarketModel", name := "set", desc := "(II)I" } : Jvm.MethodName) ({ cls := "SaltMarketModel", name := "set", desc := "(II)I" } : Jvm.MethodName)), (Jvm.Cond.code ({ cls := "SaltMarketModel", name := "set", desc := "(II)I" } : Jvm.MethodName) prog_8_method_61_code (4 : Nat) (Option.some Jvm.ClassFile.FieldType.int)), (Jvm.Cond.methodLink "SaltMarketModel" (233 : Nat) ({ cls := "SaltMarketModel", name := "isSetting", desc := "(II)Z" } : Jvm.MethodName)), (Jvm.Cond.static ({ cls := "SaltMarketModel", name := "isSetting", desc := "(II)Z" } : Jvm.MethodName)), (Jvm.Cond.code ({ cls := "SaltMarketModel", name := "isSetting", desc := "(II)Z" } : Jvm.MethodName) prog_8_method_60_code (2 : Nat) (Option.some Jvm.ClassFile.FieldType.boolean)), (Jvm.Cond.methodLink "SaltMarketLaw" (144 : Nat) ({ cls := "SaltMarketModel", name := "undo", desc := "()I" } : Jvm.MethodName)), (Jvm.Cond.instanceMethod ({ cls := "SaltMarketModel", name := "undo", desc := "()I" } : Jvm.MethodName)), (Jvm.Cond.selects "SaltMarketModel" ({ cls := "SaltMarketModel", name := "undo", desc := "()I" } : Jvm.MethodName) ({ cls := "SaltMarketModel", name := "undo", desc := "()I" } : Jvm.MethodName)), (Jvm.Cond.code ({ cls := "SaltMarketModel", name := "undo", desc := "()I" } : Jvm.MethodName) prog_8_method_62_code (2 : Nat) (Option.some Jvm.ClassFile.FieldType.int)), (Jvm.Cond.methodLink "SaltMarketLaw" (147 : Nat) ({ cls := "SaltMarketModel", name := "brings", desc := "(II)I" } : Jvm.MethodName)), (Jvm.Cond.instanceMethod ({ cls := "SaltMarketModel", name := "brings", desc := "(II)I" } : Jvm.MethodName)), (Jvm.Cond.selects "SaltMarketModel" ({ cls := "SaltMarketModel", name := "brings", desc := "(II)I" } : Jvm.MethodName) ({ cls := "SaltMarketModel", name := "brings", desc := "(II)I" } : Jvm.MethodName)), (Jvm.Cond.code ({ cls := "SaltMarketModel", name := "brings", desc := "(II)I" } : Jvm.MethodName) prog_8_method_63_code (3 : Nat) (Option.some Jvm.ClassFile.FieldType.int)), (Jvm.Cond.methodLink "SaltMarketLaw" (150 : Nat) ({ cls := "SaltMarketModel", name := "bumps", desc := "(I)I" } : Jvm.MethodName))]
def ck_5_5 : List Cond := [(Jvm.Cond.instanceMethod ({ cls := "SaltMarketModel", name := "bumps", desc := "(I)I" } : Jvm.MethodName)), (Jvm.Cond.selects "SaltMarketModel" ({ cls := "SaltMarketModel", name := "bumps", desc := "(I)I" } : Jvm.MethodName) ({ cls := "SaltMarketModel", name := "bumps", desc := "(I)I" } : Jvm.MethodName)), (Jvm.Cond.code ({ cls := "SaltMarketModel", name := "bumps", desc := "(I)I" } : Jvm.MethodName) prog_8_method_64_code (2 : Nat) (Option.some Jvm.ClassFile.FieldType.int)), (Jvm.Cond.methodLink "SaltMarketLaw" (153 : Nat) ({ cls := "SaltMarketModel", name := "best", desc := "(I)I" } : Jvm.MethodName)), (Jvm.Cond.instanceMethod ({ cls := "SaltMarketModel", name := "best", desc := "(I)I" } : Jvm.MethodName)), (Jvm.Cond.selects "SaltMarketModel" ({ cls := "SaltMarketModel", name := "best", desc := "(I)I" } : Jvm.MethodName) ({ cls := "SaltMarketModel", name := "best", desc := "(I)I" } : Jvm.MethodName)), (Jvm.Cond.code ({ cls := "SaltMarketModel", name := "best", desc := "(I)I" } : Jvm.MethodName) prog_8_method_65_code (2 : Nat) (Option.some Jvm.ClassFile.FieldType.int)), (Jvm.Cond.methodLink "SaltMarketLaw" (156 : Nat) ({ cls := "SaltMarketModel", name := "loses", desc := "(II)I" } : Jvm.MethodName)), (Jvm.Cond.instanceMethod ({ cls := "SaltMarketModel", name := "loses", desc := "(II)I" } : Jvm.MethodName)), (Jvm.Cond.selects "SaltMarketModel" ({ cls := "SaltMarketModel", name := "loses", desc := "(II)I" } : Jvm.MethodName) ({ cls := "SaltMarketModel", name := "loses", desc := "(II)I" } : Jvm.MethodName)), (Jvm.Cond.code ({ cls := "SaltMarketModel", name := "loses", desc := "(II)I" } : Jvm.MethodName) prog_8_method_66_code (3 : Nat) (Option.some Jvm.ClassFile.FieldType.int)), (Jvm.Cond.methodLink "SaltMarketLaw" (159 : Nat) ({ cls := "SaltMarketModel", name := "goesOn", desc := "(I)I" } : Jvm.MethodName)), (Jvm.Cond.instanceMethod ({ cls := "SaltMarketModel", name := "goesOn", desc := "(I)I" } : Jvm.MethodName)), (Jvm.Cond.selects "SaltMarketModel" ({ cls := "SaltMarketModel", name := "goesOn", desc := "(I)I" } : Jvm.MethodName) ({ cls := "SaltMarketModel", name := "goesOn", desc := "(I)I" } : Jvm.MethodName)), (Jvm.Cond.code ({ cls := "SaltMarketModel", name := "goesOn", desc := "(I)I" } : Jvm.MethodName) prog_8_method_68_code (3 : Nat) (Option.some Jvm.ClassFile.FieldType.int)), (Jvm.Cond.methodLink "SaltMarketModel" (236 : Nat) ({ cls := "SaltMarketModel", name := "keeps", desc := "()V" } : Jvm.MethodName)), (Jvm.Cond.privateMethod ({ cls := "SaltMarketModel", name := "keeps", desc := "()V" } : Jvm.MethodName)), (Jvm.Cond.instanceMethod ({ cls := "SaltMarketModel", name := "keeps", desc := "()V" } : Jvm.MethodName)), (Jvm.Cond.code ({ cls := "SaltMarketModel", name := "keeps", desc := "()V" } : Jvm.MethodName) prog_8_method_15_code (2 : Nat) (Option.none : Option Jvm.ClassFile.FieldType)), (Jvm.Cond.methodLink "SaltMarketModel" (239 : Nat) ({ cls := "SaltMarketModel", name := "richest", desc := "()I" } : Jvm.MethodName)), (Jvm.Cond.privateMethod ({ cls := "SaltMarketModel", name := "richest", desc := "()I" } : Jvm.MethodName)), (Jvm.Cond.instanceMethod ({ cls := "SaltMarketModel", name := "richest", desc := "()I" } : Jvm.MethodName)), (Jvm.Cond.code ({ cls := "SaltMarketModel", name := "richest", desc := "()I" } : Jvm.MethodName) prog_8_method_67_code (3 : Nat) (Option.some Jvm.ClassFile.FieldType.int)), (Jvm.Cond.methodLink "SaltMarketModel" (242 : Nat) ({ cls := "SaltMarketModel", name := "takesKept", desc := "()V" } : Jvm.MethodName)), (Jvm.Cond.privateMethod ({ cls := "SaltMarketModel", name := "takesKept", desc := "()V" } : Jvm.MethodName)), (Jvm.Cond.instanceMethod ({ cls := "SaltMarketModel", name := "takesKept", desc := "()V" } : Jvm.MethodName)), (Jvm.Cond.code ({ cls := "SaltMarketModel", name := "takesKept", desc := "()V" } : Jvm.MethodName) prog_8_method_16_code (2 : Nat) (Option.none : Option Jvm.ClassFile.FieldType)), (Jvm.Cond.methodLink "SaltMarketLaw" (162 : Nat) ({ cls := "SaltMarketModel", name := "weather", desc := "(I)I" } : Jvm.MethodName)), (Jvm.Cond.instanceMethod ({ cls := "SaltMarketModel", name := "weather", desc := "(I)I" } : Jvm.MethodName)), (Jvm.Cond.selects "SaltMarketModel" ({ cls := "SaltMarketModel", name := "weather", desc := "(I)I" } : Jvm.MethodName) ({ cls := "SaltMarketModel", name := "weather", desc := "(I)I" } : Jvm.MethodName))]
def ck_5_6 : List Cond := [(Jvm.Cond.code ({ cls := "SaltMarketModel", name := "weather", desc := "(I)I" } : Jvm.MethodName) prog_8_method_69_code (5 : Nat) (Option.some Jvm.ClassFile.FieldType.int)), (Jvm.Cond.methodLink "SaltMarketLaw" (165 : Nat) ({ cls := "SaltMarketModel", name := "runScript", desc := "(IJ)I" } : Jvm.MethodName)), (Jvm.Cond.instanceMethod ({ cls := "SaltMarketModel", name := "runScript", desc := "(IJ)I" } : Jvm.MethodName)), (Jvm.Cond.selects "SaltMarketModel" ({ cls := "SaltMarketModel", name := "runScript", desc := "(IJ)I" } : Jvm.MethodName) ({ cls := "SaltMarketModel", name := "runScript", desc := "(IJ)I" } : Jvm.MethodName)), (Jvm.Cond.code ({ cls := "SaltMarketModel", name := "runScript", desc := "(IJ)I" } : Jvm.MethodName) prog_8_method_74_code (11 : Nat) (Option.some Jvm.ClassFile.FieldType.int)), (Jvm.Cond.constantLong "SaltMarketModel" (255 : Nat) (10000 : Int64)), (Jvm.Cond.methodLink "SaltMarketModel" (257 : Nat) ({ cls := "SaltMarketModel", name := "does", desc := "(IIII)Z" } : Jvm.MethodName)), (Jvm.Cond.privateMethod ({ cls := "SaltMarketModel", name := "does", desc := "(IIII)Z" } : Jvm.MethodName)), (Jvm.Cond.instanceMethod ({ cls := "SaltMarketModel", name := "does", desc := "(IIII)Z" } : Jvm.MethodName)), (Jvm.Cond.code ({ cls := "SaltMarketModel", name := "does", desc := "(IIII)Z" } : Jvm.MethodName) prog_8_method_73_code (5 : Nat) (Option.some Jvm.ClassFile.FieldType.boolean)), (Jvm.Cond.methodLink "SaltMarketModel" (245 : Nat) ({ cls := "SaltMarketModel", name := "doesPlace", desc := "(II)Z" } : Jvm.MethodName)), (Jvm.Cond.privateMethod ({ cls := "SaltMarketModel", name := "doesPlace", desc := "(II)Z" } : Jvm.MethodName)), (Jvm.Cond.instanceMethod ({ cls := "SaltMarketModel", name := "doesPlace", desc := "(II)Z" } : Jvm.MethodName)), (Jvm.Cond.code ({ cls := "SaltMarketModel", name := "doesPlace", desc := "(II)Z" } : Jvm.MethodName) prog_8_method_70_code (4 : Nat) (Option.some Jvm.ClassFile.FieldType.boolean)), (Jvm.Cond.methodLink "SaltMarketModel" (248 : Nat) ({ cls := "SaltMarketModel", name := "doesTurn", desc := "(Z)Z" } : Jvm.MethodName)), (Jvm.Cond.privateMethod ({ cls := "SaltMarketModel", name := "doesTurn", desc := "(Z)Z" } : Jvm.MethodName)), (Jvm.Cond.instanceMethod ({ cls := "SaltMarketModel", name := "doesTurn", desc := "(Z)Z" } : Jvm.MethodName)), (Jvm.Cond.code ({ cls := "SaltMarketModel", name := "doesTurn", desc := "(Z)Z" } : Jvm.MethodName) prog_8_method_71_code (3 : Nat) (Option.some Jvm.ClassFile.FieldType.boolean)), (Jvm.Cond.methodLink "SaltMarketModel" (252 : Nat) ({ cls := "SaltMarketModel", name := "doesSet", desc := "(II)Z" } : Jvm.MethodName)), (Jvm.Cond.privateMethod ({ cls := "SaltMarketModel", name := "doesSet", desc := "(II)Z" } : Jvm.MethodName)), (Jvm.Cond.instanceMethod ({ cls := "SaltMarketModel", name := "doesSet", desc := "(II)Z" } : Jvm.MethodName)), (Jvm.Cond.code ({ cls := "SaltMarketModel", name := "doesSet", desc := "(II)Z" } : Jvm.MethodName) prog_8_method_72_code (4 : Nat) (Option.some Jvm.ClassFile.FieldType.boolean)), (Jvm.Cond.methodLink "SaltMarketLaw" (169 : Nat) ({ cls := "SaltMarketModel", name := "simulate", desc := "(JI)I" } : Jvm.MethodName)), (Jvm.Cond.instanceMethod ({ cls := "SaltMarketModel", name := "simulate", desc := "(JI)I" } : Jvm.MethodName)), (Jvm.Cond.selects "SaltMarketModel" ({ cls := "SaltMarketModel", name := "simulate", desc := "(JI)I" } : Jvm.MethodName) ({ cls := "SaltMarketModel", name := "simulate", desc := "(JI)I" } : Jvm.MethodName)), (Jvm.Cond.code ({ cls := "SaltMarketModel", name := "simulate", desc := "(JI)I" } : Jvm.MethodName) prog_8_method_76_code (9 : Nat) (Option.some Jvm.ClassFile.FieldType.int)), (Jvm.Cond.methodLink "SaltMarketModel" (261 : Nat) ({ cls := "SaltMarketModel", name := "simulates", desc := "(I)V" } : Jvm.MethodName)), (Jvm.Cond.privateMethod ({ cls := "SaltMarketModel", name := "simulates", desc := "(I)V" } : Jvm.MethodName)), (Jvm.Cond.instanceMethod ({ cls := "SaltMarketModel", name := "simulates", desc := "(I)V" } : Jvm.MethodName)), (Jvm.Cond.code ({ cls := "SaltMarketModel", name := "simulates", desc := "(I)V" } : Jvm.MethodName) prog_8_method_75_code (4 : Nat) (Option.none : Option Jvm.ClassFile.FieldType))]
def ck_5_7 : List Cond := [(Jvm.Cond.methodLink "SaltMarketLaw" (172 : Nat) ({ cls := "SaltMarketModel", name := "save", desc := "(I)I" } : Jvm.MethodName)), (Jvm.Cond.instanceMethod ({ cls := "SaltMarketModel", name := "save", desc := "(I)I" } : Jvm.MethodName)), (Jvm.Cond.selects "SaltMarketModel" ({ cls := "SaltMarketModel", name := "save", desc := "(I)I" } : Jvm.MethodName) ({ cls := "SaltMarketModel", name := "save", desc := "(I)I" } : Jvm.MethodName)), (Jvm.Cond.code ({ cls := "SaltMarketModel", name := "save", desc := "(I)I" } : Jvm.MethodName) prog_8_method_77_code (3 : Nat) (Option.some Jvm.ClassFile.FieldType.int)), (Jvm.Cond.methodLink "SaltMarketLaw" (175 : Nat) ({ cls := "SaltMarketModel", name := "restore", desc := "(I)I" } : Jvm.MethodName)), (Jvm.Cond.instanceMethod ({ cls := "SaltMarketModel", name := "restore", desc := "(I)I" } : Jvm.MethodName)), (Jvm.Cond.selects "SaltMarketModel" ({ cls := "SaltMarketModel", name := "restore", desc := "(I)I" } : Jvm.MethodName) ({ cls := "SaltMarketModel", name := "restore", desc := "(I)I" } : Jvm.MethodName)), (Jvm.Cond.code ({ cls := "SaltMarketModel", name := "restore", desc := "(I)I" } : Jvm.MethodName) prog_8_method_78_code (3 : Nat) (Option.some Jvm.ClassFile.FieldType.int)), (Jvm.Cond.constantLong "SaltMarketLaw" (124 : Nat) (4294967295 : Int64)), (Jvm.Cond.sameMethod "java/lang/Throwable" "java/lang/Throwable" "fillInStackTrace" "(I)Ljava/lang/Throwable;")]
set_option maxRecDepth 100000 in
theorem ck_eq_0 : k2_sels lw_privs = ck_0_0 ++ (ck_0_1) := rfl
theorem ck_0_0_in : ∀ w ∈ ck_0_0, w ∈ lw_tbl := fun w h => List.mem_append_left _ (ck_eq_0 ▸ (List.mem_append_left _ h) : w ∈ k2_sels lw_privs)
theorem ck_0_1_in : ∀ w ∈ ck_0_1, w ∈ lw_tbl := fun w h => List.mem_append_left _ (ck_eq_0 ▸ (List.mem_append_right _ (h)) : w ∈ k2_sels lw_privs)
set_option maxRecDepth 100000 in
theorem ck_eq_1 : tables_1_1 = ck_1_0 ++ (ck_1_1 ++ (ck_1_2 ++ (ck_1_3 ++ (ck_1_4 ++ (ck_1_5 ++ (ck_1_6 ++ (ck_1_7))))))) := rfl
theorem ck_1_0_in : ∀ w ∈ ck_1_0, w ∈ lw_tbl := fun w h => List.mem_append_right _ (show w ∈ tables_1 from List.mem_append_left _ (ck_eq_1 ▸ (List.mem_append_left _ h) : w ∈ tables_1_1))
theorem ck_1_1_in : ∀ w ∈ ck_1_1, w ∈ lw_tbl := fun w h => List.mem_append_right _ (show w ∈ tables_1 from List.mem_append_left _ (ck_eq_1 ▸ (List.mem_append_right _ (List.mem_append_left _ h)) : w ∈ tables_1_1))
theorem ck_1_2_in : ∀ w ∈ ck_1_2, w ∈ lw_tbl := fun w h => List.mem_append_right _ (show w ∈ tables_1 from List.mem_append_left _ (ck_eq_1 ▸ (List.mem_append_right _ (List.mem_append_right _ (List.mem_append_left _ h))) : w ∈ tables_1_1))
theorem ck_1_3_in : ∀ w ∈ ck_1_3, w ∈ lw_tbl := fun w h => List.mem_append_right _ (show w ∈ tables_1 from List.mem_append_left _ (ck_eq_1 ▸ (List.mem_append_right _ (List.mem_append_right _ (List.mem_append_right _ (List.mem_append_left _ h)))) : w ∈ tables_1_1))
theorem ck_1_4_in : ∀ w ∈ ck_1_4, w ∈ lw_tbl := fun w h => List.mem_append_right _ (show w ∈ tables_1 from List.mem_append_left _ (ck_eq_1 ▸ (List.mem_append_right _ (List.mem_append_right _ (List.mem_append_right _ (List.mem_append_right _ (List.mem_append_left _ h))))) : w ∈ tables_1_1))
theorem ck_1_5_in : ∀ w ∈ ck_1_5, w ∈ lw_tbl := fun w h => List.mem_append_right _ (show w ∈ tables_1 from List.mem_append_left _ (ck_eq_1 ▸ (List.mem_append_right _ (List.mem_append_right _ (List.mem_append_right _ (List.mem_append_right _ (List.mem_append_right _ (List.mem_append_left _ h)))))) : w ∈ tables_1_1))
theorem ck_1_6_in : ∀ w ∈ ck_1_6, w ∈ lw_tbl := fun w h => List.mem_append_right _ (show w ∈ tables_1 from List.mem_append_left _ (ck_eq_1 ▸ (List.mem_append_right _ (List.mem_append_right _ (List.mem_append_right _ (List.mem_append_right _ (List.mem_append_right _ (List.mem_append_right _ (List.mem_append_left _ h))))))) : w ∈ tables_1_1))
theorem ck_1_7_in : ∀ w ∈ ck_1_7, w ∈ lw_tbl := fun w h => List.mem_append_right _ (show w ∈ tables_1 from List.mem_append_left _ (ck_eq_1 ▸ (List.mem_append_right _ (List.mem_append_right _ (List.mem_append_right _ (List.mem_append_right _ (List.mem_append_right _ (List.mem_append_right _ (List.mem_append_right _ (h)))))))) : w ∈ tables_1_1))
set_option maxRecDepth 100000 in
theorem ck_eq_2 : tables_1_2 = ck_2_0 ++ (ck_2_1 ++ (ck_2_2 ++ (ck_2_3 ++ (ck_2_4 ++ (ck_2_5 ++ (ck_2_6 ++ (ck_2_7))))))) := rfl
theorem ck_2_0_in : ∀ w ∈ ck_2_0, w ∈ lw_tbl := fun w h => List.mem_append_right _ (show w ∈ tables_1 from List.mem_append_right _ (List.mem_append_left _ (ck_eq_2 ▸ (List.mem_append_left _ h) : w ∈ tables_1_2)))
theorem ck_2_1_in : ∀ w ∈ ck_2_1, w ∈ lw_tbl := fun w h => List.mem_append_right _ (show w ∈ tables_1 from List.mem_append_right _ (List.mem_append_left _ (ck_eq_2 ▸ (List.mem_append_right _ (List.mem_append_left _ h)) : w ∈ tables_1_2)))
theorem ck_2_2_in : ∀ w ∈ ck_2_2, w ∈ lw_tbl := fun w h => List.mem_append_right _ (show w ∈ tables_1 from List.mem_append_right _ (List.mem_append_left _ (ck_eq_2 ▸ (List.mem_append_right _ (List.mem_append_right _ (List.mem_append_left _ h))) : w ∈ tables_1_2)))
theorem ck_2_3_in : ∀ w ∈ ck_2_3, w ∈ lw_tbl := fun w h => List.mem_append_right _ (show w ∈ tables_1 from List.mem_append_right _ (List.mem_append_left _ (ck_eq_2 ▸ (List.mem_append_right _ (List.mem_append_right _ (List.mem_append_right _ (List.mem_append_left _ h)))) : w ∈ tables_1_2)))
theorem ck_2_4_in : ∀ w ∈ ck_2_4, w ∈ lw_tbl := fun w h => List.mem_append_right _ (show w ∈ tables_1 from List.mem_append_right _ (List.mem_append_left _ (ck_eq_2 ▸ (List.mem_append_right _ (List.mem_append_right _ (List.mem_append_right _ (List.mem_append_right _ (List.mem_append_left _ h))))) : w ∈ tables_1_2)))
theorem ck_2_5_in : ∀ w ∈ ck_2_5, w ∈ lw_tbl := fun w h => List.mem_append_right _ (show w ∈ tables_1 from List.mem_append_right _ (List.mem_append_left _ (ck_eq_2 ▸ (List.mem_append_right _ (List.mem_append_right _ (List.mem_append_right _ (List.mem_append_right _ (List.mem_append_right _ (List.mem_append_left _ h)))))) : w ∈ tables_1_2)))
theorem ck_2_6_in : ∀ w ∈ ck_2_6, w ∈ lw_tbl := fun w h => List.mem_append_right _ (show w ∈ tables_1 from List.mem_append_right _ (List.mem_append_left _ (ck_eq_2 ▸ (List.mem_append_right _ (List.mem_append_right _ (List.mem_append_right _ (List.mem_append_right _ (List.mem_append_right _ (List.mem_append_right _ (List.mem_append_left _ h))))))) : w ∈ tables_1_2)))
theorem ck_2_7_in : ∀ w ∈ ck_2_7, w ∈ lw_tbl := fun w h => List.mem_append_right _ (show w ∈ tables_1 from List.mem_append_right _ (List.mem_append_left _ (ck_eq_2 ▸ (List.mem_append_right _ (List.mem_append_right _ (List.mem_append_right _ (List.mem_append_right _ (List.mem_append_right _ (List.mem_append_right _ (List.mem_append_right _ (h)))))))) : w ∈ tables_1_2)))
set_option maxRecDepth 100000 in
theorem ck_eq_3 : tables_1_3 = ck_3_0 ++ (ck_3_1 ++ (ck_3_2 ++ (ck_3_3 ++ (ck_3_4 ++ (ck_3_5 ++ (ck_3_6 ++ (ck_3_7))))))) := rfl
theorem ck_3_0_in : ∀ w ∈ ck_3_0, w ∈ lw_tbl := fun w h => List.mem_append_right _ (show w ∈ tables_1 from List.mem_append_right _ (List.mem_append_right _ (List.mem_append_left _ (ck_eq_3 ▸ (List.mem_append_left _ h) : w ∈ tables_1_3))))
theorem ck_3_1_in : ∀ w ∈ ck_3_1, w ∈ lw_tbl := fun w h => List.mem_append_right _ (show w ∈ tables_1 from List.mem_append_right _ (List.mem_append_right _ (List.mem_append_left _ (ck_eq_3 ▸ (List.mem_append_right _ (List.mem_append_left _ h)) : w ∈ tables_1_3))))
theorem ck_3_2_in : ∀ w ∈ ck_3_2, w ∈ lw_tbl := fun w h => List.mem_append_right _ (show w ∈ tables_1 from List.mem_append_right _ (List.mem_append_right _ (List.mem_append_left _ (ck_eq_3 ▸ (List.mem_append_right _ (List.mem_append_right _ (List.mem_append_left _ h))) : w ∈ tables_1_3))))
theorem ck_3_3_in : ∀ w ∈ ck_3_3, w ∈ lw_tbl := fun w h => List.mem_append_right _ (show w ∈ tables_1 from List.mem_append_right _ (List.mem_append_right _ (List.mem_append_left _ (ck_eq_3 ▸ (List.mem_append_right _ (List.mem_append_right _ (List.mem_append_right _ (List.mem_append_left _ h)))) : w ∈ tables_1_3))))
theorem ck_3_4_in : ∀ w ∈ ck_3_4, w ∈ lw_tbl := fun w h => List.mem_append_right _ (show w ∈ tables_1 from List.mem_append_right _ (List.mem_append_right _ (List.mem_append_left _ (ck_eq_3 ▸ (List.mem_append_right _ (List.mem_append_right _ (List.mem_append_right _ (List.mem_append_right _ (List.mem_append_left _ h))))) : w ∈ tables_1_3))))
theorem ck_3_5_in : ∀ w ∈ ck_3_5, w ∈ lw_tbl := fun w h => List.mem_append_right _ (show w ∈ tables_1 from List.mem_append_right _ (List.mem_append_right _ (List.mem_append_left _ (ck_eq_3 ▸ (List.mem_append_right _ (List.mem_append_right _ (List.mem_append_right _ (List.mem_append_right _ (List.mem_append_right _ (List.mem_append_left _ h)))))) : w ∈ tables_1_3))))
theorem ck_3_6_in : ∀ w ∈ ck_3_6, w ∈ lw_tbl := fun w h => List.mem_append_right _ (show w ∈ tables_1 from List.mem_append_right _ (List.mem_append_right _ (List.mem_append_left _ (ck_eq_3 ▸ (List.mem_append_right _ (List.mem_append_right _ (List.mem_append_right _ (List.mem_append_right _ (List.mem_append_right _ (List.mem_append_right _ (List.mem_append_left _ h))))))) : w ∈ tables_1_3))))
theorem ck_3_7_in : ∀ w ∈ ck_3_7, w ∈ lw_tbl := fun w h => List.mem_append_right _ (show w ∈ tables_1 from List.mem_append_right _ (List.mem_append_right _ (List.mem_append_left _ (ck_eq_3 ▸ (List.mem_append_right _ (List.mem_append_right _ (List.mem_append_right _ (List.mem_append_right _ (List.mem_append_right _ (List.mem_append_right _ (List.mem_append_right _ (h)))))))) : w ∈ tables_1_3))))
set_option maxRecDepth 100000 in
theorem ck_eq_4 : tables_1_4 = ck_4_0 ++ (ck_4_1 ++ (ck_4_2 ++ (ck_4_3 ++ (ck_4_4 ++ (ck_4_5 ++ (ck_4_6 ++ (ck_4_7))))))) := rfl
theorem ck_4_0_in : ∀ w ∈ ck_4_0, w ∈ lw_tbl := fun w h => List.mem_append_right _ (show w ∈ tables_1 from List.mem_append_right _ (List.mem_append_right _ (List.mem_append_right _ (List.mem_append_left _ (ck_eq_4 ▸ (List.mem_append_left _ h) : w ∈ tables_1_4)))))
theorem ck_4_1_in : ∀ w ∈ ck_4_1, w ∈ lw_tbl := fun w h => List.mem_append_right _ (show w ∈ tables_1 from List.mem_append_right _ (List.mem_append_right _ (List.mem_append_right _ (List.mem_append_left _ (ck_eq_4 ▸ (List.mem_append_right _ (List.mem_append_left _ h)) : w ∈ tables_1_4)))))
theorem ck_4_2_in : ∀ w ∈ ck_4_2, w ∈ lw_tbl := fun w h => List.mem_append_right _ (show w ∈ tables_1 from List.mem_append_right _ (List.mem_append_right _ (List.mem_append_right _ (List.mem_append_left _ (ck_eq_4 ▸ (List.mem_append_right _ (List.mem_append_right _ (List.mem_append_left _ h))) : w ∈ tables_1_4)))))
theorem ck_4_3_in : ∀ w ∈ ck_4_3, w ∈ lw_tbl := fun w h => List.mem_append_right _ (show w ∈ tables_1 from List.mem_append_right _ (List.mem_append_right _ (List.mem_append_right _ (List.mem_append_left _ (ck_eq_4 ▸ (List.mem_append_right _ (List.mem_append_right _ (List.mem_append_right _ (List.mem_append_left _ h)))) : w ∈ tables_1_4)))))
theorem ck_4_4_in : ∀ w ∈ ck_4_4, w ∈ lw_tbl := fun w h => List.mem_append_right _ (show w ∈ tables_1 from List.mem_append_right _ (List.mem_append_right _ (List.mem_append_right _ (List.mem_append_left _ (ck_eq_4 ▸ (List.mem_append_right _ (List.mem_append_right _ (List.mem_append_right _ (List.mem_append_right _ (List.mem_append_left _ h))))) : w ∈ tables_1_4)))))
theorem ck_4_5_in : ∀ w ∈ ck_4_5, w ∈ lw_tbl := fun w h => List.mem_append_right _ (show w ∈ tables_1 from List.mem_append_right _ (List.mem_append_right _ (List.mem_append_right _ (List.mem_append_left _ (ck_eq_4 ▸ (List.mem_append_right _ (List.mem_append_right _ (List.mem_append_right _ (List.mem_append_right _ (List.mem_append_right _ (List.mem_append_left _ h)))))) : w ∈ tables_1_4)))))
theorem ck_4_6_in : ∀ w ∈ ck_4_6, w ∈ lw_tbl := fun w h => List.mem_append_right _ (show w ∈ tables_1 from List.mem_append_right _ (List.mem_append_right _ (List.mem_append_right _ (List.mem_append_left _ (ck_eq_4 ▸ (List.mem_append_right _ (List.mem_append_right _ (List.mem_append_right _ (List.mem_append_right _ (List.mem_append_right _ (List.mem_append_right _ (List.mem_append_left _ h))))))) : w ∈ tables_1_4)))))
theorem ck_4_7_in : ∀ w ∈ ck_4_7, w ∈ lw_tbl := fun w h => List.mem_append_right _ (show w ∈ tables_1 from List.mem_append_right _ (List.mem_append_right _ (List.mem_append_right _ (List.mem_append_left _ (ck_eq_4 ▸ (List.mem_append_right _ (List.mem_append_right _ (List.mem_append_right _ (List.mem_append_right _ (List.mem_append_right _ (List.mem_append_right _ (List.mem_append_right _ (h)))))))) : w ∈ tables_1_4)))))
set_option maxRecDepth 100000 in
theorem ck_eq_5 : tables_1_5 = ck_5_0 ++ (ck_5_1 ++ (ck_5_2 ++ (ck_5_3 ++ (ck_5_4 ++ (ck_5_5 ++ (ck_5_6 ++ (ck_5_7))))))) := rfl
theorem ck_5_0_in : ∀ w ∈ ck_5_0, w ∈ lw_tbl := fun w h => List.mem_append_right _ (show w ∈ tables_1 from List.mem_append_right _ (List.mem_append_right _ (List.mem_append_right _ (List.mem_append_right _ ((ck_eq_5 ▸ (List.mem_append_left _ h) : w ∈ tables_1_5))))))
theorem ck_5_1_in : ∀ w ∈ ck_5_1, w ∈ lw_tbl := fun w h => List.mem_append_right _ (show w ∈ tables_1 from List.mem_append_right _ (List.mem_append_right _ (List.mem_append_right _ (List.mem_append_right _ ((ck_eq_5 ▸ (List.mem_append_right _ (List.mem_append_left _ h)) : w ∈ tables_1_5))))))
theorem ck_5_2_in : ∀ w ∈ ck_5_2, w ∈ lw_tbl := fun w h => List.mem_append_right _ (show w ∈ tables_1 from List.mem_append_right _ (List.mem_append_right _ (List.mem_append_right _ (List.mem_append_right _ ((ck_eq_5 ▸ (List.mem_append_right _ (List.mem_append_right _ (List.mem_append_left _ h))) : w ∈ tables_1_5))))))
theorem ck_5_3_in : ∀ w ∈ ck_5_3, w ∈ lw_tbl := fun w h => List.mem_append_right _ (show w ∈ tables_1 from List.mem_append_right _ (List.mem_append_right _ (List.mem_append_right _ (List.mem_append_right _ ((ck_eq_5 ▸ (List.mem_append_right _ (List.mem_append_right _ (List.mem_append_right _ (List.mem_append_left _ h)))) : w ∈ tables_1_5))))))
theorem ck_5_4_in : ∀ w ∈ ck_5_4, w ∈ lw_tbl := fun w h => List.mem_append_right _ (show w ∈ tables_1 from List.mem_append_right _ (List.mem_append_right _ (List.mem_append_right _ (List.mem_append_right _ ((ck_eq_5 ▸ (List.mem_append_right _ (List.mem_append_right _ (List.mem_append_right _ (List.mem_append_right _ (List.mem_append_left _ h))))) : w ∈ tables_1_5))))))
theorem ck_5_5_in : ∀ w ∈ ck_5_5, w ∈ lw_tbl := fun w h => List.mem_append_right _ (show w ∈ tables_1 from List.mem_append_right _ (List.mem_append_right _ (List.mem_append_right _ (List.mem_append_right _ ((ck_eq_5 ▸ (List.mem_append_right _ (List.mem_append_right _ (List.mem_append_right _ (List.mem_append_right _ (List.mem_append_right _ (List.mem_append_left _ h)))))) : w ∈ tables_1_5))))))
theorem ck_5_6_in : ∀ w ∈ ck_5_6, w ∈ lw_tbl := fun w h => List.mem_append_right _ (show w ∈ tables_1 from List.mem_append_right _ (List.mem_append_right _ (List.mem_append_right _ (List.mem_append_right _ ((ck_eq_5 ▸ (List.mem_append_right _ (List.mem_append_right _ (List.mem_append_right _ (List.mem_append_right _ (List.mem_append_right _ (List.mem_append_right _ (List.mem_append_left _ h))))))) : w ∈ tables_1_5))))))
theorem ck_5_7_in : ∀ w ∈ ck_5_7, w ∈ lw_tbl := fun w h => List.mem_append_right _ (show w ∈ tables_1 from List.mem_append_right _ (List.mem_append_right _ (List.mem_append_right _ (List.mem_append_right _ ((ck_eq_5 ▸ (List.mem_append_right _ (List.mem_append_right _ (List.mem_append_right _ (List.mem_append_right _ (List.mem_append_right _ (List.mem_append_right _ (List.mem_append_right _ (h)))))))) : w ∈ tables_1_5))))))
def sm_tbl : List Cond := lw_tbl.filter goodWord
theorem sm_tc {c : List Cond} (hc : ∀ w ∈ c, w ∈ lw_tbl) (i : Nat) {w : Cond} (h : c[i]? = some w) (g : goodWord w = true) : w ∈ sm_tbl := List.mem_filter.mpr ⟨hc w (List.mem_of_getElem? h), g⟩
theorem sm_tbl_good : ∀ w ∈ sm_tbl, (w.onTables && w.keeps) = true ∨ ∃ ty, w = .arrayClass ty := fun _ h => good_of_word (List.mem_filter.mp h).2
theorem sm_tbl_in : ∀ w ∈ sm_tbl, w ∈ lw_tbl := fun _ h => (List.mem_filter.mp h).1
/-- the abstract heap: what is known of the cells, by their addresses; at 0 (where nothing of ours lies) the heap's size, where it is known -/
abbrev sm_H : Type := Nat → Option va_E
/-- the launch, the classes' numbers and slots, the arrays' classes, where our cells begin, where the static arrays lie, where the texts lie -/
abbrev sm_G : Type := Launch × va_G × (Nat → ClassId) × Nat × (Nat → Nat) × (Nat → Nat)
abbrev sm_c (G : sm_G) (k : Nat) : ClassId := G.2.2.1 k
abbrev sm_B (G : sm_G) : Nat := G.2.2.2.1
abbrev sm_sa (G : sm_G) : Nat → Nat := G.2.2.2.2.1
abbrev sm_ss (G : sm_G) : Nat → Nat := G.2.2.2.2.2
def sm_ty : List FieldType := [.int, .long, .boolean, .char, .object RX3, .object RX2, .object RX0]
def sm_tys (G : sm_G) : List (ClassId × FieldType) := [(sm_c G 0, .int), (sm_c G 1, .long), (sm_c G 2, .boolean), (sm_c G 3, .char), (sm_c G 4, .object RX3), (sm_c G 5, .object RX2), (sm_c G 6, .object RX0)]
def sm_A (G : sm_G) : Nat → Prop := fun q => sm_B G ≤ q
def sm_R (G : sm_G) (h : sm_H) (H : Heap) : Prop := ∀ a e, h a = some e → (a = 0 → ∃ n, e = .inr (n, []) ∧ H.size = n) ∧ (a ≠ 0 → sm_B G ≤ a ∧ va_at G.2.1 vwCl (a, e) H)
def sm_up (h : sm_H) (a : Nat) (e : va_E) : sm_H := fun b => if b = a then some e else h b
/-- a new cell at n, the heap's size -/
def sm_nw (h : sm_H) (n : Nat) (e : va_E) : sm_H := fun b => if b = 0 then some (.inr (n + 1, [])) else if b = n then some e else h b
/-- the size isn't known any more -/
def sm_fg (h : sm_H) : sm_H := fun b => if b = 0 then none else h b
abbrev sm_ai (G : sm_G) (n : Nat) (f : Nat → Int32) : va_E := .inl (sm_c G 0, n, .inl f)
abbrev sm_aj (G : sm_G) (n : Nat) (f : Nat → Int64) : va_E := .inl (sm_c G 1, n, .inr (.inl f))
abbrev sm_az (G : sm_G) (n : Nat) (f : Nat → Int32) : va_E := .inl (sm_c G 2, n, .inl f)
abbrev sm_ac (G : sm_G) (n : Nat) (f : Nat → Int32) : va_E := .inl (sm_c G 3, n, .inl f)
abbrev sm_ar (G : sm_G) (k n : Nat) (f : Nat → Option Nat) : va_E := .inl (sm_c G k, n, .inr (.inr (.inr (.inr f))))
/-- a class of ours: its place, its name, its fields -/
def sm_cl (ci : Nat) (C : String) (T : u_T) (N : Nat) (ty : Nat → FieldType) : Prop := vwCl[ci]? = some (C, T, N) ∧ (∀ w ∈ u_ws C T N, w ∈ sm_tbl) ∧ (∀ k, k < N → parseFieldDescriptor (T k).2.2.1 = some (ty k)) ∧ ∀ a, a < N → ∀ b, b < N → a ≠ b → (T a).2.1 ≠ (T b).2.1
def sm_sts : List (String × List Int32) := [("LOSING_ORDER", [1, 0, 2]), ("LEAST_SETTING", [1, 0, 1]), ("FIRST_SETTING", [6, 1, 2]), ("GREATEST_SETTING", [12, 5, 3]), ("PLACING_PLACES", [0, 1, 2, 2, 2, 3, 3, 3, 3, 3, 3, 3, 3, 3, 4, 5]), ("PLACING_CHOICES", [0, 0, 1, 2, 3, 1, 2, 3, 11, 12, 13, 21, 22, 23, 0, 0]), ("FIRST_PRICE", [3, 3, 6])]
def sm_nestw (w : Cond) : Bool := match w with
  | .fieldLinkNest .. => true
  | .methodLinkNest .. => true
  | .castable .. => true
  | .declares .. => true
  | _ => false
def sm_nest : List Cond := lw_tbl.filter sm_nestw
theorem sm_mh {c : List Cond} (hc : ∀ w ∈ c, w ∈ lw_tbl) (i : Nat) {w : Cond} (h : c[i]? = some w) (g : sm_nestw w = true) : w ∈ sm_nest := List.mem_filter.mpr ⟨hc w (List.mem_of_getElem? h), g⟩
def sm_nocast : List (String × String) := [("java/lang/IllegalStateException", "java/lang/IllegalArgumentException"), ("java/lang/IllegalArgumentException", "java/lang/IndexOutOfBoundsException"), ("java/lang/IllegalStateException", "java/lang/IndexOutOfBoundsException")]
def sm_strs : List (Nat × String) := [(43, "a character code is 0 to 255"), (54, "the text is full"), (65, "the text is not a game"), (108, "what is 0 to 11"), (118, "there is no such player"), (121, "what is 0 to 8"), (132, "there is no such place"), (134, "k is 0 or more"), (148, "what is 0 to 2"), (154, "players are 2 to 4"), (166, "the place has no such choice"), (171, "the placing is not possible"), (179, "there is no turn"), (190, "there is no such setting or value"), (195, "no state is remembered"), (222, "what is 0 to 4"), (236, "n is 1 to 12"), (251, "n is 1 to 3"), (257, "a script has at most 4 * n digits"), (277, "m is 1 to 80"), (292, "there is no such save slot"), (294, "nothing has been saved in this slot")]
/-- what is known of the launch in a state -/
def sm_K (G : sm_G) (U : State) : Prop :=
  va_K G.2.1 vwCl (sm_tys G) U ∧ (∀ w ∈ sm_nest, va_Nw w U) ∧ (∀ q ∈ sm_nocast, va_Nc q.1 q.2 U) ∧
  (∀ (i : Nat) (q : String × List Int32), sm_sts[i]? = some q → va_Z RX5 q.1 "[I" (.ref (sm_sa G i)) (sm_A G) U U.heap ∧ va_T .int (sm_sa G i) q.2.length (fun j => .int (q.2.getD j 0)) (sm_A G) U U.heap) ∧
  (∀ (i : Nat) (q : Nat × String), sm_strs[i]? = some q → vk_R RX5 q.1 q.2 (sm_ss G i) U) ∧
  vx_Zq Bundle.tN "UNASSIGNED_STACK" Bundle.steD (sm_A G) U U.heap ∧ vx_Zq Bundle.tN "SUPPRESSED_SENTINEL" Bundle.listD (sm_A G) U U.heap ∧ (∀ C ∈ [RX3, RX2, RX0], va_AO C U) ∧ G.1.stackTraces = false ∧ 0 < sm_B G
theorem sm_nest_go {s U : State} (hW : s.WarmedH U.vm) {w : Cond} (h : sm_nestw w = true) (hw : va_Nw w s) : va_Nw w U := by
  cases w <;> first | exact absurd h Bool.false_ne_true | exact va_Nw.warmF hW hw | exact va_Nw.warmM hW hw | exact va_Nw.warmC hW hw | exact va_Nw.warmD hW hw
theorem sm_K_go {G : sm_G} {s T : State} {H : Heap} {locs : List Loc} (hK : sm_K G s) (hW : s.WarmedH T.vm) (hT : T.heap = H) (hS : va_S (sm_A G) s.heap H locs) : sm_K G T := by
  obtain ⟨k1, k2, k3, k4, k5, k6, k7, k8, k9, k10⟩ := hK
  have hv := hW.alike
  subst hT
  have hq : ∀ a : Nat, a < s.heap.size → ¬ sm_A G a → T.heap[a]? = s.heap[a]? := hS.2.1
  exact ⟨k1.moved hv, fun w h => sm_nest_go hW (List.mem_filter.mp h).2 (k2 w h), fun q h => (k3 q h).moved hv, fun i q h => ⟨((k4 i q h).1.kept hq).moved hv, ((k4 i q h).2.kept hq).moved hv⟩,
    fun i q h => (k5 i q h).warm hW, vx_Zq.moved hv (k6.kept hq), vx_Zq.moved hv (k7.kept hq), fun C h => (k8 C h).moved hv, k9, k10⟩
theorem sm_R_set {G : sm_G} {h : sm_H} {H H1 : Heap} {a : Nat} {e : va_E} (hR : sm_R G h H) (h0 : a ≠ 0) (hB : sm_B G ≤ a) (he : va_at G.2.1 vwCl (a, e) H1) (z : H1.size = H.size) (oq : ∀ q : Nat, q ≠ a → H1[q]? = H[q]?) : sm_R G (sm_up h a e) H1 := by
  intro b e' hb
  unfold sm_up at hb
  by_cases hba : b = a
  · rw [if_pos hba] at hb
    cases hb
    subst hba
    exact ⟨fun q => absurd q h0, fun _ => ⟨hB, he⟩⟩
  · rw [if_neg hba] at hb
    obtain ⟨r1, r2⟩ := hR b e' hb
    exact ⟨fun q => by rw [z]; exact r1 q, fun q => ⟨(r2 q).1, (r2 q).2.kept (oq b hba)⟩⟩
theorem sm_R_kept {G : sm_G} {h : sm_H} {H H1 : Heap} (hR : sm_R G h H) (oq : ∀ q : Nat, q < H.size → H1[q]? = H[q]?) : sm_R G (sm_fg h) H1 := by
  intro b e' hb
  unfold sm_fg at hb
  by_cases h0 : b = 0
  · rw [if_pos h0] at hb; cases hb
  · rw [if_neg h0] at hb
    obtain ⟨-, r2⟩ := hR b e' hb
    exact ⟨fun q => absurd q h0, fun q => ⟨(r2 q).1, (r2 q).2.kept (oq b (r2 q).2.lt)⟩⟩
theorem sm_R_new {G : sm_G} {h : sm_H} {H H1 : Heap} {n : Nat} {e : va_E} (hR : sm_R G h H) (hn : h 0 = some (.inr (n, []))) (h0 : n ≠ 0) (hB : sm_B G ≤ n) (he : va_at G.2.1 vwCl (n, e) H1) (z : H1.size = n + 1) (oq : ∀ q : Nat, q < H.size → H1[q]? = H[q]?) : sm_R G (sm_nw h n e) H1 := by
  intro b e' hb
  unfold sm_nw at hb
  by_cases hb0 : b = 0
  · rw [if_pos hb0] at hb
    cases hb
    exact ⟨fun _ => ⟨_, rfl, z⟩, fun q => absurd hb0 q⟩
  · rw [if_neg hb0] at hb
    by_cases hbn : b = n
    · rw [if_pos hbn] at hb
      cases hb
      subst hbn
      exact ⟨fun q => absurd q hb0, fun _ => ⟨hB, he⟩⟩
    · rw [if_neg hbn] at hb
      obtain ⟨-, r2⟩ := hR b e' hb
      exact ⟨fun q => absurd q hb0, fun q => ⟨(r2 q).1, (r2 q).2.kept (oq b (r2 q).2.lt)⟩⟩
theorem sm_R_size {G : sm_G} {h : sm_H} {H : Heap} {n : Nat} (hR : sm_R G h H) (hn : h 0 = some (.inr (n, []))) : H.size = n := by
  obtain ⟨r1, -⟩ := hR 0 _ hn
  obtain ⟨k, e1, e2⟩ := r1 rfl
  cases e1
  exact e2
theorem sm_R_at {G : sm_G} {h : sm_H} {H : Heap} {a : Nat} {e : va_E} (hR : sm_R G h H) (he : h a = some e) (h0 : a ≠ 0) : sm_B G ≤ a ∧ va_at G.2.1 vwCl (a, e) H := (hR a e he).2 h0
theorem sm_R_ne {G : sm_G} {h : sm_H} {H : Heap} {a ci k : Nat} {fs : List Value} {v : Value} (hR : sm_R G h H) (he : h a = some (.inr (ci, fs))) (hv : fs[k]? = some v) : a ≠ 0 := by
  intro h0
  obtain ⟨n, e1, -⟩ := (hR a _ he).1 h0
  cases e1
  simp at hv
theorem sm_R_na {G : sm_G} {h : sm_H} {H : Heap} {a : Nat} {x : ClassId × vp_A} (hR : sm_R G h H) (he : h a = some (.inl x)) : a ≠ 0 := by
  intro h0
  obtain ⟨n, e1, -⟩ := (hR a _ he).1 h0
  cases e1
/-- a method: its name, its code, its locals, what it returns, its handlers -/
abbrev sm_M : Type := MethodName × ByteArray × Nat × Option FieldType × List (Nat × Nat × Nat × Nat)
def sm_hd (M : sm_M) : Cond := match M.2.2.2.2 with
  | [] => .code M.1 M.2.1 M.2.2.1 M.2.2.2.1
  | hh => .codeWith M.1 M.2.1 M.2.2.1 M.2.2.2.1 hh
def sm_ws (M : sm_M) : List Cond := sm_hd M :: sm_tbl
def sm_rm (d mc ms : Nat) : Room := { frames := d, cells := mc, slots := ms, locals := 30 * d }
/-- how a call ends: a value or nothing, or the class of what it threw -/
abbrev sm_O : Type := Option Value ⊕ String
abbrev sm_Q : Type := sm_O → sm_H → Prop
def sm_Qc (G : sm_G) (Q : sm_Q) : Array Value → State → Outcome → State → Prop := fun _ st o t => (∃ (v : Option Value) (h' : sm_H), o = .returned v ∧ Q (.inl v) h' ∧ sm_R G h' t.heap) ∧ va_F (sm_A G) st t
def sm_XC (G : sm_G) (Q : sm_Q) : String → State → State → Prop := fun E st t => (∃ h' : sm_H, Q (.inr E) h' ∧ sm_R G h' t.heap) ∧ va_F (sm_A G) st t
def sm_E (G : sm_G) (M : sm_M) (p : Program) (s : State) (m : MethodId) (args : Array Value) (meth : Method) (c : Code) : Prop :=
  p.tables.exec = Jvm.exec ∧ c.code = M.2.1 ∧ meth.sig.returnType = M.2.2.2.1 ∧ c.maxLocals = M.2.2.1 ∧ s.vm.findClass M.1.cls = some m.cls ∧ (∀ w ∈ sm_tbl, w.before args s = true) ∧ meth.locks = false ∧ c.exceptionTable.toList = tableOf M.2.2.2.2 ∧ sm_K G s ∧ sm_B G ≤ s.heap.size ∧ meth.name = M.1.name
/-- what a walk is to reach: behind these frames, with these arguments, from this start -/
abbrev sm_Z : Type := List Frame → Array Value → State → State → Prop
def sm_Zm (G : sm_G) (Q : sm_Q) (mc ms : Nat) : sm_Z := fun below args s => vx_MQ below (sm_Qc G Q) (sm_XC G Q) args s mc ms (sm_A G)
/-- from here, at pc with these locals and this stack over this heap, the method comes to what Z tells -/
def sm_V (G : sm_G) (M : sm_M) (R : Room) (Z : sm_Z) (cells slots pc : Nat) (lv : List (Nat × Value)) (st : List Value) (h : sm_H) : Prop :=
  ∀ (p : Program) (e : Env) (s : State) (m : MethodId) (args : Array Value) (below : List Frame) (meth : Method) (c : Code) (H : Heap) (locs : List Loc) (ls : Array Slot),
    sm_E G M p s m args meth c → va_S (sm_A G) s.heap H locs → sm_R G h H → lv_has ls M.2.2.1 lv →
    W p G.1 e R s m args below meth c H locs cells slots (Z below args s) (F0 m pc ls st)
/-- a thrown object is over the frame -/
def sm_VX (G : sm_G) (M : sm_M) (R : Room) (Z : sm_Z) (cells slots pc : Nat) (lv : List (Nat × Value)) (E : String) (h : sm_H) : Prop :=
  ∀ (p : Program) (e : Env) (s : State) (m : MethodId) (args : Array Value) (below : List Frame) (meth : Method) (c : Code) (H : Heap) (locs : List Loc) (ls : Array Slot) (q : Addr) (ce : Cell) (rest : List Value),
    sm_E G M p s m args meth c → va_S (sm_A G) s.heap H locs → sm_R G h H → lv_has ls M.2.2.1 lv → H[q]? = some ce → ce.vm = .none → s.vm.findClass E = some ce.cls →
    vx_W p G.1 e R s m args below meth c H locs cells slots (Z below args s) (F0 m pc ls rest) q
/-- a method's contract: called with these arguments over this heap -/
def sm_C (G : sm_G) (M : sm_M) (d mc ms : Nat) (As : List Value) (h : sm_H) (Q : sm_Q) : Prop := sm_V G M (sm_rm d mc ms) (sm_Zm G Q mc ms) 0 0 0 (lv_args 0 As) [] h
/-- the contract whose end is one outcome and one heap -/
def sm_F (G : sm_G) (M : sm_M) (d : Nat) (As : List Value) (h : sm_H) (r : sm_O) (h' : sm_H) : Prop := sm_C G M d 0 0 As h (fun r1 h1 => r1 = r ∧ h1 = h')

theorem sm_u0 : ∀ k, k < 16 → u_lay RX0 TX0 k ∈ sm_tbl := by
  intro k hk
  match k, hk with
  | 0, _ => exact sm_tc ck_1_4_in 2 rfl rfl
  | 1, _ => exact sm_tc ck_1_4_in 4 rfl rfl
  | 2, _ => exact sm_tc ck_1_4_in 6 rfl rfl
  | 3, _ => exact sm_tc ck_1_4_in 8 rfl rfl
  | 4, _ => exact sm_tc ck_1_4_in 10 rfl rfl
  | 5, _ => exact sm_tc ck_1_4_in 12 rfl rfl
  | 6, _ => exact sm_tc ck_1_4_in 14 rfl rfl
  | 7, _ => exact sm_tc ck_1_4_in 16 rfl rfl
  | 8, _ => exact sm_tc ck_1_4_in 18 rfl rfl
  | 9, _ => exact sm_tc ck_1_4_in 20 rfl rfl
  | 10, _ => exact sm_tc ck_1_4_in 22 rfl rfl
  | 11, _ => exact sm_tc ck_1_4_in 24 rfl rfl
  | 12, _ => exact sm_tc ck_1_4_in 26 rfl rfl
  | 13, _ => exact sm_tc ck_1_4_in 28 rfl rfl
  | 14, _ => exact sm_tc ck_1_5_in 0 rfl rfl
  | 15, _ => exact sm_tc ck_1_5_in 2 rfl rfl
  | k + 16, h => exact absurd h (by omega)
theorem sm_cl0 : sm_cl 0 RX0 TX0 16 tyX0 := ⟨rfl, fun w hw => by obtain ⟨k, hk, rfl⟩ := List.mem_map.mp hw; exact sm_u0 k (List.mem_range.mp hk), tyX0_ok, nmX0⟩
theorem sm_u1 : ∀ k, k < 3 → u_lay RX1 TX1 k ∈ sm_tbl := by
  intro k hk
  match k, hk with
  | 0, _ => exact sm_tc ck_1_5_in 18 rfl rfl
  | 1, _ => exact sm_tc ck_1_5_in 20 rfl rfl
  | 2, _ => exact sm_tc ck_1_5_in 22 rfl rfl
  | k + 3, h => exact absurd h (by omega)
theorem sm_cl1 : sm_cl 1 RX1 TX1 3 tyX1 := ⟨rfl, fun w hw => by obtain ⟨k, hk, rfl⟩ := List.mem_map.mp hw; exact sm_u1 k (List.mem_range.mp hk), tyX1_ok, nmX1⟩
theorem sm_u2 : ∀ k, k < 2 → u_lay RX2 TX2 k ∈ sm_tbl := by
  intro k hk
  match k, hk with
  | 0, _ => exact sm_tc ck_1_2_in 27 rfl rfl
  | 1, _ => exact sm_tc ck_1_2_in 29 rfl rfl
  | k + 2, h => exact absurd h (by omega)
theorem sm_cl2 : sm_cl 2 RX2 TX2 2 tyX2 := ⟨rfl, fun w hw => by obtain ⟨k, hk, rfl⟩ := List.mem_map.mp hw; exact sm_u2 k (List.mem_range.mp hk), tyX2_ok, nmX2⟩
theorem sm_u3 : ∀ k, k < 6 → u_lay RX3 TX3 k ∈ sm_tbl := by
  intro k hk
  match k, hk with
  | 0, _ => exact sm_tc ck_1_2_in 4 rfl rfl
  | 1, _ => exact sm_tc ck_1_2_in 6 rfl rfl
  | 2, _ => exact sm_tc ck_1_2_in 8 rfl rfl
  | 3, _ => exact sm_tc ck_1_2_in 10 rfl rfl
  | 4, _ => exact sm_tc ck_1_2_in 12 rfl rfl
  | 5, _ => exact sm_tc ck_1_2_in 14 rfl rfl
  | k + 6, h => exact absurd h (by omega)
theorem sm_cl3 : sm_cl 3 RX3 TX3 6 tyX3 := ⟨rfl, fun w hw => by obtain ⟨k, hk, rfl⟩ := List.mem_map.mp hw; exact sm_u3 k (List.mem_range.mp hk), tyX3_ok, nmX3⟩
theorem sm_u4 : ∀ k, k < 2 → u_lay RX4 TX4 k ∈ sm_tbl := by
  intro k hk
  match k, hk with
  | 0, _ => exact sm_tc ck_1_1_in 2 rfl rfl
  | 1, _ => exact sm_tc ck_1_1_in 4 rfl rfl
  | k + 2, h => exact absurd h (by omega)
theorem sm_cl4 : sm_cl 4 RX4 TX4 2 tyX4 := ⟨rfl, fun w hw => by obtain ⟨k, hk, rfl⟩ := List.mem_map.mp hw; exact sm_u4 k (List.mem_range.mp hk), tyX4_ok, nmX4⟩
theorem sm_u5 : ∀ k, k < 6 → u_lay RX5 TX5 k ∈ sm_tbl := by
  intro k hk
  match k, hk with
  | 0, _ => exact sm_tc ck_1_6_in 1 rfl rfl
  | 1, _ => exact sm_tc ck_1_6_in 3 rfl rfl
  | 2, _ => exact sm_tc ck_1_6_in 5 rfl rfl
  | 3, _ => exact sm_tc ck_1_6_in 7 rfl rfl
  | 4, _ => exact sm_tc ck_1_6_in 9 rfl rfl
  | 5, _ => exact sm_tc ck_1_6_in 11 rfl rfl
  | k + 6, h => exact absurd h (by omega)
theorem sm_cl5 : sm_cl 5 RX5 TX5 6 tyX5 := ⟨rfl, fun w hw => by obtain ⟨k, hk, rfl⟩ := List.mem_map.mp hw; exact sm_u5 k (List.mem_range.mp hk), tyX5_ok, nmX5⟩
theorem sm_u6 : ∀ k, k < 24 → u_lay RX6 TX6 k ∈ sm_tbl := by
  intro k hk
  match k, hk with
  | 0, _ => exact sm_tc ck_4_3_in 18 rfl rfl
  | 1, _ => exact sm_tc ck_4_3_in 20 rfl rfl
  | 2, _ => exact sm_tc ck_4_3_in 22 rfl rfl
  | 3, _ => exact sm_tc ck_4_3_in 24 rfl rfl
  | 4, _ => exact sm_tc ck_4_3_in 26 rfl rfl
  | 5, _ => exact sm_tc ck_4_3_in 28 rfl rfl
  | 6, _ => exact sm_tc ck_4_4_in 0 rfl rfl
  | 7, _ => exact sm_tc ck_4_4_in 2 rfl rfl
  | 8, _ => exact sm_tc ck_4_4_in 4 rfl rfl
  | 9, _ => exact sm_tc ck_4_4_in 6 rfl rfl
  | 10, _ => exact sm_tc ck_4_4_in 8 rfl rfl
  | 11, _ => exact sm_tc ck_4_4_in 10 rfl rfl
  | 12, _ => exact sm_tc ck_4_4_in 12 rfl rfl
  | 13, _ => exact sm_tc ck_4_4_in 14 rfl rfl
  | 14, _ => exact sm_tc ck_4_4_in 16 rfl rfl
  | 15, _ => exact sm_tc ck_4_4_in 18 rfl rfl
  | 16, _ => exact sm_tc ck_4_4_in 20 rfl rfl
  | 17, _ => exact sm_tc ck_4_4_in 22 rfl rfl
  | 18, _ => exact sm_tc ck_4_4_in 24 rfl rfl
  | 19, _ => exact sm_tc ck_4_4_in 26 rfl rfl
  | 20, _ => exact sm_tc ck_4_4_in 28 rfl rfl
  | 21, _ => exact sm_tc ck_4_5_in 0 rfl rfl
  | 22, _ => exact sm_tc ck_4_5_in 2 rfl rfl
  | 23, _ => exact sm_tc ck_4_5_in 4 rfl rfl
  | k + 24, h => exact absurd h (by omega)
theorem sm_cl6 : sm_cl 6 RX6 TX6 24 tyX6 := ⟨rfl, fun w hw => by obtain ⟨k, hk, rfl⟩ := List.mem_map.mp hw; exact sm_u6 k (List.mem_range.mp hk), tyX6_ok, nmX6⟩
end
section
section SVA
variable {G : sm_G} {M : sm_M} {R : Room} {Z : sm_Z} {Q : sm_Q} {mc ms : Nat} {cells slots pc : Nat} {lv lv' : List (Nat × Value)} {st rest : List Value} {h : sm_H}
/-- a local's value -/
def sm_lk : List (Nat × Value) → Nat → Option Value
  | [], _ => none
  | (j, v) :: l, i => bif Nat.beq j i then some v else sm_lk l i
theorem sm_lk_mem {v : Value} {i : Nat} : ∀ {l : List (Nat × Value)}, sm_lk l i = some v → (i, v) ∈ l
  | (j, w) :: l, e => by
    unfold sm_lk at e
    cases hj : Nat.beq j i with
    | true => rw [hj] at e; cases e; rw [Nat.eq_of_beq_eq_true hj]; exact List.mem_cons_self
    | false => rw [hj] at e; exact List.mem_cons_of_mem _ (sm_lk_mem e)
theorem sm_lk_at {ls : Array Slot} {n i : Nat} {v : Value} (hl : lv_has ls n lv) (e : sm_lk lv i = some v) : ls[i]? = some (.val v) := hl.2.2 _ (sm_lk_mem e)
def sm_s1 (lv : List (Nat × Value)) (i : Nat) (v : Value) : List (Nat × Value) := (i, v) :: lv.filter (fun q => !(q.1 == i) && !(q.1 + 1 == i && q.2.category == 2))
def sm_s2 (lv : List (Nat × Value)) (i : Nat) (v : Value) : List (Nat × Value) := (i, v) :: lv.filter (fun q => !(q.1 == i) && (!(q.1 == i + 1) && !(q.1 + 1 == i && q.2.category == 2)))
theorem sv_sub (ks : List Nat) (hk : lv_pick lv ks = lv') (k : sm_V G M R Z cells slots pc lv' st h) : sm_V G M R Z cells slots pc lv st h := by
  intro p e s m args below meth c H locs ls E hS hR hl
  exact k p e s m args below meth c H locs ls E hS hR (lv_sub hl ks hk)
theorem sv_heap {h' : sm_H} (e : h = h') (k : sm_V G M R Z cells slots pc lv st h') : sm_V G M R Z cells slots pc lv st h := e ▸ k
theorem sv_wide {c2 s2 : Nat} (h1 : cells ≤ c2) (h2 : slots ≤ s2) (k : sm_V G M R Z c2 s2 pc lv st h) : sm_V G M R Z cells slots pc lv st h := by
  intro p e s m args below meth c H locs ls E hS hR hl
  exact W.widen h1 h2 (k p e s m args below meth c H locs ls E hS hR hl)
theorem sv_iconst {n : Int} (v : Int32) (hd : decode M.2.1 pc = .ok (.iconst n, 1)) (hv : Int32.ofInt n = v) (k : sm_V G M R Z cells slots (pc + 1) lv (.int v :: st) h) : sm_V G M R Z cells slots pc lv (st) h := by
  intro p e s m args below meth c H locs ls E hS hR hl
  exact lv_iconst E.1 E.2.1 hd hv (k p e s m args below meth c H locs ls E hS hR hl)
theorem sv_bipush {n : Int} (v : Int32) (hd : decode M.2.1 pc = .ok (.bipush n, 2)) (hv : (Int8.ofInt n).toInt32 = v) (k : sm_V G M R Z cells slots (pc + 2) lv (.int v :: st) h) : sm_V G M R Z cells slots pc lv (st) h := by
  intro p e s m args below meth c H locs ls E hS hR hl
  exact lv_bipush E.1 E.2.1 hd hv (k p e s m args below meth c H locs ls E hS hR hl)
theorem sv_sipush {n : Int} (v : Int32) (hd : decode M.2.1 pc = .ok (.sipush n, 3)) (hv : (Int16.ofInt n).toInt32 = v) (k : sm_V G M R Z cells slots (pc + 3) lv (.int v :: st) h) : sm_V G M R Z cells slots pc lv (st) h := by
  intro p e s m args below meth c H locs ls E hS hR hl
  exact lv_sipush E.1 E.2.1 hd hv (k p e s m args below meth c H locs ls E hS hR hl)
theorem sv_lconst {n : Fin 2} (v : Int64) (hd : decode M.2.1 pc = .ok (.lconst n, 1)) (hv : Int64.ofNat (n : Nat) = v) (k : sm_V G M R Z cells slots (pc + 1) lv (.long v :: st) h) : sm_V G M R Z cells slots pc lv (st) h := by
  intro p e s m args below meth c H locs ls E hS hR hl
  exact lv_lconst E.1 E.2.1 hd hv (k p e s m args below meth c H locs ls E hS hR hl)
theorem sv_iload_n {k9 : Fin 4} {x : Int32} (hd : decode M.2.1 pc = .ok (.iload_n k9, 1)) (hx : sm_lk lv (k9 : Nat) = some (.int x)) (k : sm_V G M R Z cells slots (pc + 1) lv (.int x :: st) h) : sm_V G M R Z cells slots pc lv (st) h := by
  intro p e s m args below meth c H locs ls E hS hR hl
  exact lv_iload_n E.1 E.2.1 hd rfl (sm_lk_at hl hx) (k p e s m args below meth c H locs ls E hS hR hl)
theorem sv_iload {i : Nat} {x : Int32} (hd : decode M.2.1 pc = .ok (.iload i, 2)) (hx : sm_lk lv i = some (.int x)) (k : sm_V G M R Z cells slots (pc + 2) lv (.int x :: st) h) : sm_V G M R Z cells slots pc lv (st) h := by
  intro p e s m args below meth c H locs ls E hS hR hl
  exact lv_iload E.1 E.2.1 hd (sm_lk_at hl hx) (k p e s m args below meth c H locs ls E hS hR hl)
theorem sv_lload_n {k9 : Fin 4} {x : Int64} (hd : decode M.2.1 pc = .ok (.lload_n k9, 1)) (hx : sm_lk lv (k9 : Nat) = some (.long x)) (k : sm_V G M R Z cells slots (pc + 1) lv (.long x :: st) h) : sm_V G M R Z cells slots pc lv (st) h := by
  intro p e s m args below meth c H locs ls E hS hR hl
  exact lv_lload_n E.1 E.2.1 hd rfl (sm_lk_at hl hx) (k p e s m args below meth c H locs ls E hS hR hl)
theorem sv_lload {i : Nat} {x : Int64} (hd : decode M.2.1 pc = .ok (.lload i, 2)) (hx : sm_lk lv i = some (.long x)) (k : sm_V G M R Z cells slots (pc + 2) lv (.long x :: st) h) : sm_V G M R Z cells slots pc lv (st) h := by
  intro p e s m args below meth c H locs ls E hS hR hl
  exact lv_lload E.1 E.2.1 hd (sm_lk_at hl hx) (k p e s m args below meth c H locs ls E hS hR hl)
theorem sv_aload_n {k9 : Fin 4} {x : Nat} (hd : decode M.2.1 pc = .ok (.aload_n k9, 1)) (hx : sm_lk lv (k9 : Nat) = some (.ref x)) (k : sm_V G M R Z cells slots (pc + 1) lv (.ref x :: st) h) : sm_V G M R Z cells slots pc lv (st) h := by
  intro p e s m args below meth c H locs ls E hS hR hl
  exact lv_aload_n E.1 E.2.1 hd rfl (sm_lk_at hl hx) (k p e s m args below meth c H locs ls E hS hR hl)
theorem sv_aload {i : Nat} {x : Nat} (hd : decode M.2.1 pc = .ok (.aload i, 2)) (hx : sm_lk lv i = some (.ref x)) (k : sm_V G M R Z cells slots (pc + 2) lv (.ref x :: st) h) : sm_V G M R Z cells slots pc lv (st) h := by
  intro p e s m args below meth c H locs ls E hS hR hl
  exact lv_aload E.1 E.2.1 hd (sm_lk_at hl hx) (k p e s m args below meth c H locs ls E hS hR hl)
theorem sv_istore_n {k9 : Fin 4} {x : Int32} (hd : decode M.2.1 pc = .ok (.istore_n k9, 1)) (hn : (k9 : Nat) < M.2.2.1) (hs : sm_s1 lv (k9 : Nat) (.int x) = lv') (k : sm_V G M R Z cells slots (pc + 1) lv' st h) : sm_V G M R Z cells slots pc lv (.int x :: st) h := by
  intro p e s m args below meth c H locs ls E hS hR hl
  exact lv_istore_n E.1 E.2.1 hd rfl hl hn hs (fun ls1 hl1 => k p e s m args below meth c H locs ls1 E hS hR hl1)
theorem sv_istore {i : Nat} {x : Int32} (hd : decode M.2.1 pc = .ok (.istore i, 2)) (hn : i < M.2.2.1) (hs : sm_s1 lv i (.int x) = lv') (k : sm_V G M R Z cells slots (pc + 2) lv' st h) : sm_V G M R Z cells slots pc lv (.int x :: st) h := by
  intro p e s m args below meth c H locs ls E hS hR hl
  exact lv_istore E.1 E.2.1 hd hl hn hs (fun ls1 hl1 => k p e s m args below meth c H locs ls1 E hS hR hl1)
theorem sv_lstore_n {k9 : Fin 4} {x : Int64} (hd : decode M.2.1 pc = .ok (.lstore_n k9, 1)) (hn : (k9 : Nat) + 1 < M.2.2.1) (hs : sm_s2 lv (k9 : Nat) (.long x) = lv') (k : sm_V G M R Z cells slots (pc + 1) lv' st h) : sm_V G M R Z cells slots pc lv (.long x :: st) h := by
  intro p e s m args below meth c H locs ls E hS hR hl
  exact lv_lstore_n E.1 E.2.1 hd rfl hl hn hs (fun ls1 hl1 => k p e s m args below meth c H locs ls1 E hS hR hl1)
theorem sv_lstore {i : Nat} {x : Int64} (hd : decode M.2.1 pc = .ok (.lstore i, 2)) (hn : i + 1 < M.2.2.1) (hs : sm_s2 lv i (.long x) = lv') (k : sm_V G M R Z cells slots (pc + 2) lv' st h) : sm_V G M R Z cells slots pc lv (.long x :: st) h := by
  intro p e s m args below meth c H locs ls E hS hR hl
  exact lv_lstore E.1 E.2.1 hd hl hn hs (fun ls1 hl1 => k p e s m args below meth c H locs ls1 E hS hR hl1)
theorem sv_astore_n {k9 : Fin 4} {x : Nat} (hd : decode M.2.1 pc = .ok (.astore_n k9, 1)) (hn : (k9 : Nat) < M.2.2.1) (hs : sm_s1 lv (k9 : Nat) (.ref x) = lv') (k : sm_V G M R Z cells slots (pc + 1) lv' st h) : sm_V G M R Z cells slots pc lv (.ref x :: st) h := by
  intro p e s m args below meth c H locs ls E hS hR hl
  exact lv_astore_n E.1 E.2.1 hd rfl hl hn hs (fun ls1 hl1 => k p e s m args below meth c H locs ls1 E hS hR hl1)
theorem sv_astore {i : Nat} {x : Nat} (hd : decode M.2.1 pc = .ok (.astore i, 2)) (hn : i < M.2.2.1) (hs : sm_s1 lv i (.ref x) = lv') (k : sm_V G M R Z cells slots (pc + 2) lv' st h) : sm_V G M R Z cells slots pc lv (.ref x :: st) h := by
  intro p e s m args below meth c H locs ls E hS hR hl
  exact lv_astore E.1 E.2.1 hd hl hn hs (fun ls1 hl1 => k p e s m args below meth c H locs ls1 E hS hR hl1)
theorem sv_iinc {i : Nat} {n : Int} {x : Int32} (v : Int32) (hd : decode M.2.1 pc = .ok (.iinc i n, 3)) (hx : sm_lk lv i = some (.int x)) (hv : x + Int32.ofInt n = v) (hn : i < M.2.2.1) (hs : sm_s1 lv i (.int v) = lv') (k : sm_V G M R Z cells slots (pc + 3) lv' st h) : sm_V G M R Z cells slots pc lv st h := by
  intro p e s m args below meth c H locs ls E hS hR hl
  obtain ⟨k9, hk9⟩ := List.getElem?_of_mem (sm_lk_mem hx)
  exact lv_iinc E.1 E.2.1 hd hl hk9 hv hn hs (fun ls1 hl1 => k p e s m args below meth c H locs ls1 E hS hR hl1)
theorem sv_iadd {x y : Int32} (hd : decode M.2.1 pc = .ok (.iadd, 1))  (k : sm_V G M R Z cells slots (pc + 1) lv (.int (x + y) :: st) h) : sm_V G M R Z cells slots pc lv (.int y :: .int x :: st) h := by
  intro p e s m args below meth c H locs ls E hS hR hl
  exact lv_iadd E.1 E.2.1 hd (k p e s m args below meth c H locs ls E hS hR hl)
theorem sv_isub {x y : Int32} (hd : decode M.2.1 pc = .ok (.isub, 1))  (k : sm_V G M R Z cells slots (pc + 1) lv (.int (x - y) :: st) h) : sm_V G M R Z cells slots pc lv (.int y :: .int x :: st) h := by
  intro p e s m args below meth c H locs ls E hS hR hl
  exact lv_isub E.1 E.2.1 hd (k p e s m args below meth c H locs ls E hS hR hl)
theorem sv_imul {x y : Int32} (hd : decode M.2.1 pc = .ok (.imul, 1))  (k : sm_V G M R Z cells slots (pc + 1) lv (.int (x * y) :: st) h) : sm_V G M R Z cells slots pc lv (.int y :: .int x :: st) h := by
  intro p e s m args below meth c H locs ls E hS hR hl
  exact lv_imul E.1 E.2.1 hd (k p e s m args below meth c H locs ls E hS hR hl)
theorem sv_iand {x y : Int32} (hd : decode M.2.1 pc = .ok (.iand, 1))  (k : sm_V G M R Z cells slots (pc + 1) lv (.int (x &&& y) :: st) h) : sm_V G M R Z cells slots pc lv (.int y :: .int x :: st) h := by
  intro p e s m args below meth c H locs ls E hS hR hl
  exact lv_iand E.1 E.2.1 hd (k p e s m args below meth c H locs ls E hS hR hl)
theorem sv_idiv {x y : Int32} (hd : decode M.2.1 pc = .ok (.idiv, 1)) (hne : ¬ y = 0) (k : sm_V G M R Z cells slots (pc + 1) lv (.int (x / y) :: st) h) : sm_V G M R Z cells slots pc lv (.int y :: .int x :: st) h := by
  intro p e s m args below meth c H locs ls E hS hR hl
  exact lv_idiv E.1 E.2.1 hd hne (k p e s m args below meth c H locs ls E hS hR hl)
theorem sv_irem {x y : Int32} (hd : decode M.2.1 pc = .ok (.irem, 1)) (hne : ¬ y = 0) (k : sm_V G M R Z cells slots (pc + 1) lv (.int (x - x / y * y) :: st) h) : sm_V G M R Z cells slots pc lv (.int y :: .int x :: st) h := by
  intro p e s m args below meth c H locs ls E hS hR hl
  exact lv_irem E.1 E.2.1 hd hne (k p e s m args below meth c H locs ls E hS hR hl)
theorem sv_ineg {x : Int32} (hd : decode M.2.1 pc = .ok (.ineg, 1))  (k : sm_V G M R Z cells slots (pc + 1) lv (.int (-x) :: st) h) : sm_V G M R Z cells slots pc lv (.int x :: st) h := by
  intro p e s m args below meth c H locs ls E hS hR hl
  exact lv_ineg E.1 E.2.1 hd (k p e s m args below meth c H locs ls E hS hR hl)
theorem sv_ladd {x y : Int64} (hd : decode M.2.1 pc = .ok (.ladd, 1))  (k : sm_V G M R Z cells slots (pc + 1) lv (.long (x + y) :: st) h) : sm_V G M R Z cells slots pc lv (.long y :: .long x :: st) h := by
  intro p e s m args below meth c H locs ls E hS hR hl
  exact lv_ladd E.1 E.2.1 hd (k p e s m args below meth c H locs ls E hS hR hl)
theorem sv_lmul {x y : Int64} (hd : decode M.2.1 pc = .ok (.lmul, 1))  (k : sm_V G M R Z cells slots (pc + 1) lv (.long (x * y) :: st) h) : sm_V G M R Z cells slots pc lv (.long y :: .long x :: st) h := by
  intro p e s m args below meth c H locs ls E hS hR hl
  exact lv_lmul E.1 E.2.1 hd (k p e s m args below meth c H locs ls E hS hR hl)
theorem sv_lor {x y : Int64} (hd : decode M.2.1 pc = .ok (.lor, 1))  (k : sm_V G M R Z cells slots (pc + 1) lv (.long (x ||| y) :: st) h) : sm_V G M R Z cells slots pc lv (.long y :: .long x :: st) h := by
  intro p e s m args below meth c H locs ls E hS hR hl
  exact lv_lor E.1 E.2.1 hd (k p e s m args below meth c H locs ls E hS hR hl)
theorem sv_land {x y : Int64} (hd : decode M.2.1 pc = .ok (.land, 1))  (k : sm_V G M R Z cells slots (pc + 1) lv (.long (x &&& y) :: st) h) : sm_V G M R Z cells slots pc lv (.long y :: .long x :: st) h := by
  intro p e s m args below meth c H locs ls E hS hR hl
  exact lv_land E.1 E.2.1 hd (k p e s m args below meth c H locs ls E hS hR hl)
theorem sv_ldiv {x y : Int64} (hd : decode M.2.1 pc = .ok (.ldiv, 1)) (hne : ¬ y = 0) (k : sm_V G M R Z cells slots (pc + 1) lv (.long (x / y) :: st) h) : sm_V G M R Z cells slots pc lv (.long y :: .long x :: st) h := by
  intro p e s m args below meth c H locs ls E hS hR hl
  exact lv_ldiv E.1 E.2.1 hd hne (k p e s m args below meth c H locs ls E hS hR hl)
theorem sv_lrem {x y : Int64} (hd : decode M.2.1 pc = .ok (.lrem, 1)) (hne : ¬ y = 0) (k : sm_V G M R Z cells slots (pc + 1) lv (.long (x - x / y * y) :: st) h) : sm_V G M R Z cells slots pc lv (.long y :: .long x :: st) h := by
  intro p e s m args below meth c H locs ls E hS hR hl
  exact lv_lrem E.1 E.2.1 hd hne (k p e s m args below meth c H locs ls E hS hR hl)
theorem sv_i2l {x : Int32} (hd : decode M.2.1 pc = .ok (.i2l, 1))  (k : sm_V G M R Z cells slots (pc + 1) lv (.long x.toInt64 :: st) h) : sm_V G M R Z cells slots pc lv (.int x :: st) h := by
  intro p e s m args below meth c H locs ls E hS hR hl
  exact lv_i2l E.1 E.2.1 hd rfl (k p e s m args below meth c H locs ls E hS hR hl)
theorem sv_l2i {x : Int64} (hd : decode M.2.1 pc = .ok (.l2i, 1))  (k : sm_V G M R Z cells slots (pc + 1) lv (.int x.toInt32 :: st) h) : sm_V G M R Z cells slots pc lv (.long x :: st) h := by
  intro p e s m args below meth c H locs ls E hS hR hl
  exact lv_l2i E.1 E.2.1 hd rfl (k p e s m args below meth c H locs ls E hS hR hl)
theorem sv_i2c {x : Int32} (hd : decode M.2.1 pc = .ok (.i2c, 1))  (k : sm_V G M R Z cells slots (pc + 1) lv (.int (x.toUInt32 % 65536).toInt32 :: st) h) : sm_V G M R Z cells slots pc lv (.int x :: st) h := by
  intro p e s m args below meth c H locs ls E hS hR hl
  exact lv_i2c E.1 E.2.1 hd rfl (k p e s m args below meth c H locs ls E hS hR hl)
theorem sv_lshl {x : Int64} {y : Int32} (hd : decode M.2.1 pc = .ok (.lshl, 1))  (k : sm_V G M R Z cells slots (pc + 1) lv (.long (x <<< (y.toInt64 &&& 63)) :: st) h) : sm_V G M R Z cells slots pc lv (.int y :: .long x :: st) h := by
  intro p e s m args below meth c H locs ls E hS hR hl
  exact lv_lshl E.1 E.2.1 hd rfl (k p e s m args below meth c H locs ls E hS hR hl)
theorem sv_lushr {x : Int64} {y : Int32} (hd : decode M.2.1 pc = .ok (.lushr, 1))  (k : sm_V G M R Z cells slots (pc + 1) lv (.long (x.toUInt64 >>> (y.toInt64.toUInt64 &&& Int64.toUInt64 63)).toInt64 :: st) h) : sm_V G M R Z cells slots pc lv (.int y :: .long x :: st) h := by
  intro p e s m args below meth c H locs ls E hS hR hl
  exact lv_lushr E.1 E.2.1 hd rfl (k p e s m args below meth c H locs ls E hS hR hl)
theorem sv_lcmp {x y : Int64} (hd : decode M.2.1 pc = .ok (.lcmp, 1))  (k : sm_V G M R Z cells slots (pc + 1) lv (.int (lg_cmp x y) :: st) h) : sm_V G M R Z cells slots pc lv (.long y :: .long x :: st) h := by
  intro p e s m args below meth c H locs ls E hS hR hl
  exact W.lcmp E.1 E.2.1 hd (k p e s m args below meth c H locs ls E hS hR hl)
theorem sv_dup {v : Value} (hd : decode M.2.1 pc = .ok (.dup, 1)) (hc : v.category = 1) (k : sm_V G M R Z cells slots (pc + 1) lv (v :: v :: st) h) : sm_V G M R Z cells slots pc lv (v :: st) h := by
  intro p e s m args below meth c H locs ls E hS hR hl
  exact lv_dup E.1 E.2.1 hd hc (k p e s m args below meth c H locs ls E hS hR hl)
theorem sv_dup2 {v w : Value} (hd : decode M.2.1 pc = .ok (.dup2, 1)) (hc : v.category = 1) (hc2 : w.category = 1) (k : sm_V G M R Z cells slots (pc + 1) lv (v :: w :: v :: w :: st) h) : sm_V G M R Z cells slots pc lv (v :: w :: st) h := by
  intro p e s m args below meth c H locs ls E hS hR hl
  exact lv_dup2_11 E.1 E.2.1 hd hc hc2 (k p e s m args below meth c H locs ls E hS hR hl)
theorem sv_pop {v : Value} (hd : decode M.2.1 pc = .ok (.pop, 1)) (hc : v.category = 1) (k : sm_V G M R Z cells slots (pc + 1) lv (st) h) : sm_V G M R Z cells slots pc lv (v :: st) h := by
  intro p e s m args below meth c H locs ls E hS hR hl
  exact lv_pop E.1 E.2.1 hd hc (k p e s m args below meth c H locs ls E hS hR hl)
theorem sv_top {x : Int32} (y : Int32) (e : x = y) (k : sm_V G M R Z cells slots pc lv (.int y :: st) h) : sm_V G M R Z cells slots pc lv (.int x :: st) h := by subst e; exact k
theorem sv_topl {x : Int64} (y : Int64) (e : x = y) (k : sm_V G M R Z cells slots pc lv (.long y :: st) h) : sm_V G M R Z cells slots pc lv (.long x :: st) h := by subst e; exact k
theorem sv_goto {off : Int} (tgt : Nat) (hd : decode M.2.1 pc = .ok (.goto off, 3)) (ht : (pc : Int) + off = (tgt : Int)) (k : sm_V G M R Z cells slots tgt lv st h) : sm_V G M R Z cells slots pc lv st h := by
  intro p e s m args below meth c H locs ls E hS hR hl
  exact lv_goto E.1 E.2.1 hd ht (k p e s m args below meth c H locs ls E hS hR hl)
theorem sv_if_eq {x : Int32} {off : Int} (tgt : Nat) (hd : decode M.2.1 pc = .ok (.ifCond .eq off, 3)) (ht : (pc : Int) + off = (tgt : Int)) (kt : x = 0 → sm_V G M R Z cells slots tgt lv st h) (kf : ¬ (x = 0) → sm_V G M R Z cells slots (pc + 3) lv st h) : sm_V G M R Z cells slots pc lv (.int x :: st) h := by
  intro p e s m args below meth c H locs ls E hS hR hl
  exact lv_if_eq E.1 E.2.1 hd ht (fun q => kt q p e s m args below meth c H locs ls E hS hR hl) (fun q => kf q p e s m args below meth c H locs ls E hS hR hl)
theorem sv_icmp_eq {x y : Int32} {off : Int} (tgt : Nat) (hd : decode M.2.1 pc = .ok (.if_icmp .eq off, 3)) (ht : (pc : Int) + off = (tgt : Int)) (kt : x = y → sm_V G M R Z cells slots tgt lv st h) (kf : ¬ (x = y) → sm_V G M R Z cells slots (pc + 3) lv st h) : sm_V G M R Z cells slots pc lv (.int y :: .int x :: st) h := by
  intro p e s m args below meth c H locs ls E hS hR hl
  exact lv_icmp_eq E.1 E.2.1 hd ht (fun q => kt q p e s m args below meth c H locs ls E hS hR hl) (fun q => kf q p e s m args below meth c H locs ls E hS hR hl)
theorem sv_if_ne {x : Int32} {off : Int} (tgt : Nat) (hd : decode M.2.1 pc = .ok (.ifCond .ne off, 3)) (ht : (pc : Int) + off = (tgt : Int)) (kt : x ≠ 0 → sm_V G M R Z cells slots tgt lv st h) (kf : x = 0 → sm_V G M R Z cells slots (pc + 3) lv st h) : sm_V G M R Z cells slots pc lv (.int x :: st) h := by
  intro p e s m args below meth c H locs ls E hS hR hl
  exact lv_if_ne E.1 E.2.1 hd ht (fun q => kt q p e s m args below meth c H locs ls E hS hR hl) (fun q => kf q p e s m args below meth c H locs ls E hS hR hl)
theorem sv_icmp_ne {x y : Int32} {off : Int} (tgt : Nat) (hd : decode M.2.1 pc = .ok (.if_icmp .ne off, 3)) (ht : (pc : Int) + off = (tgt : Int)) (kt : x ≠ y → sm_V G M R Z cells slots tgt lv st h) (kf : x = y → sm_V G M R Z cells slots (pc + 3) lv st h) : sm_V G M R Z cells slots pc lv (.int y :: .int x :: st) h := by
  intro p e s m args below meth c H locs ls E hS hR hl
  exact lv_icmp_ne E.1 E.2.1 hd ht (fun q => kt q p e s m args below meth c H locs ls E hS hR hl) (fun q => kf q p e s m args below meth c H locs ls E hS hR hl)
theorem sv_if_lt {x : Int32} {off : Int} (tgt : Nat) (hd : decode M.2.1 pc = .ok (.ifCond .lt off, 3)) (ht : (pc : Int) + off = (tgt : Int)) (kt : x < 0 → sm_V G M R Z cells slots tgt lv st h) (kf : ¬ (x < 0) → sm_V G M R Z cells slots (pc + 3) lv st h) : sm_V G M R Z cells slots pc lv (.int x :: st) h := by
  intro p e s m args below meth c H locs ls E hS hR hl
  exact lv_if_lt E.1 E.2.1 hd ht (fun q => kt q p e s m args below meth c H locs ls E hS hR hl) (fun q => kf q p e s m args below meth c H locs ls E hS hR hl)
theorem sv_icmp_lt {x y : Int32} {off : Int} (tgt : Nat) (hd : decode M.2.1 pc = .ok (.if_icmp .lt off, 3)) (ht : (pc : Int) + off = (tgt : Int)) (kt : x < y → sm_V G M R Z cells slots tgt lv st h) (kf : ¬ (x < y) → sm_V G M R Z cells slots (pc + 3) lv st h) : sm_V G M R Z cells slots pc lv (.int y :: .int x :: st) h := by
  intro p e s m args below meth c H locs ls E hS hR hl
  exact lv_icmp_lt E.1 E.2.1 hd ht (fun q => kt q p e s m args below meth c H locs ls E hS hR hl) (fun q => kf q p e s m args below meth c H locs ls E hS hR hl)
theorem sv_if_ge {x : Int32} {off : Int} (tgt : Nat) (hd : decode M.2.1 pc = .ok (.ifCond .ge off, 3)) (ht : (pc : Int) + off = (tgt : Int)) (kt : 0 ≤ x → sm_V G M R Z cells slots tgt lv st h) (kf : ¬ (0 ≤ x) → sm_V G M R Z cells slots (pc + 3) lv st h) : sm_V G M R Z cells slots pc lv (.int x :: st) h := by
  intro p e s m args below meth c H locs ls E hS hR hl
  exact lv_if_ge E.1 E.2.1 hd ht (fun q => kt q p e s m args below meth c H locs ls E hS hR hl) (fun q => kf q p e s m args below meth c H locs ls E hS hR hl)
theorem sv_icmp_ge {x y : Int32} {off : Int} (tgt : Nat) (hd : decode M.2.1 pc = .ok (.if_icmp .ge off, 3)) (ht : (pc : Int) + off = (tgt : Int)) (kt : y ≤ x → sm_V G M R Z cells slots tgt lv st h) (kf : ¬ (y ≤ x) → sm_V G M R Z cells slots (pc + 3) lv st h) : sm_V G M R Z cells slots pc lv (.int y :: .int x :: st) h := by
  intro p e s m args below meth c H locs ls E hS hR hl
  exact lv_icmp_ge E.1 E.2.1 hd ht (fun q => kt q p e s m args below meth c H locs ls E hS hR hl) (fun q => kf q p e s m args below meth c H locs ls E hS hR hl)
theorem sv_if_gt {x : Int32} {off : Int} (tgt : Nat) (hd : decode M.2.1 pc = .ok (.ifCond .gt off, 3)) (ht : (pc : Int) + off = (tgt : Int)) (kt : 0 < x → sm_V G M R Z cells slots tgt lv st h) (kf : ¬ (0 < x) → sm_V G M R Z cells slots (pc + 3) lv st h) : sm_V G M R Z cells slots pc lv (.int x :: st) h := by
  intro p e s m args below meth c H locs ls E hS hR hl
  exact lv_if_gt E.1 E.2.1 hd ht (fun q => kt q p e s m args below meth c H locs ls E hS hR hl) (fun q => kf q p e s m args below meth c H locs ls E hS hR hl)
theorem sv_icmp_gt {x y : Int32} {off : Int} (tgt : Nat) (hd : decode M.2.1 pc = .ok (.if_icmp .gt off, 3)) (ht : (pc : Int) + off = (tgt : Int)) (kt : y < x → sm_V G M R Z cells slots tgt lv st h) (kf : ¬ (y < x) → sm_V G M R Z cells slots (pc + 3) lv st h) : sm_V G M R Z cells slots pc lv (.int y :: .int x :: st) h := by
  intro p e s m args below meth c H locs ls E hS hR hl
  exact lv_icmp_gt E.1 E.2.1 hd ht (fun q => kt q p e s m args below meth c H locs ls E hS hR hl) (fun q => kf q p e s m args below meth c H locs ls E hS hR hl)
theorem sv_if_le {x : Int32} {off : Int} (tgt : Nat) (hd : decode M.2.1 pc = .ok (.ifCond .le off, 3)) (ht : (pc : Int) + off = (tgt : Int)) (kt : x ≤ 0 → sm_V G M R Z cells slots tgt lv st h) (kf : ¬ (x ≤ 0) → sm_V G M R Z cells slots (pc + 3) lv st h) : sm_V G M R Z cells slots pc lv (.int x :: st) h := by
  intro p e s m args below meth c H locs ls E hS hR hl
  exact lv_if_le E.1 E.2.1 hd ht (fun q => kt q p e s m args below meth c H locs ls E hS hR hl) (fun q => kf q p e s m args below meth c H locs ls E hS hR hl)
theorem sv_icmp_le {x y : Int32} {off : Int} (tgt : Nat) (hd : decode M.2.1 pc = .ok (.if_icmp .le off, 3)) (ht : (pc : Int) + off = (tgt : Int)) (kt : x ≤ y → sm_V G M R Z cells slots tgt lv st h) (kf : ¬ (x ≤ y) → sm_V G M R Z cells slots (pc + 3) lv st h) : sm_V G M R Z cells slots pc lv (.int y :: .int x :: st) h := by
  intro p e s m args below meth c H locs ls E hS hR hl
  exact lv_icmp_le E.1 E.2.1 hd ht (fun q => kt q p e s m args below meth c H locs ls E hS hR hl) (fun q => kf q p e s m args below meth c H locs ls E hS hR hl)
theorem sm_n0 {a : Nat} (ha : a < 2 ^ 31) : nI a = 0 ↔ a = 0 := by rw [← nI_0]; exact nI_eq ha (by omega)
theorem sm_n1 {a : Nat} (ha : a < 2 ^ 31) : 0 < nI a ↔ a ≠ 0 := by rw [← nI_0, nI_ltI (by omega) ha]; omega
theorem sm_n2 {a : Nat} (ha : a < 2 ^ 31) : nI a ≤ 0 ↔ a = 0 := by rw [← nI_0, nI_leI ha (by omega)]; omega
theorem sv_ifN_eq {a : Nat} {off : Int} (tgt : Nat) (hd : decode M.2.1 pc = .ok (.ifCond .eq off, 3)) (ht : (pc : Int) + off = (tgt : Int)) (ha : a < 2 ^ 31) (kt : a = 0 → sm_V G M R Z cells slots tgt lv st h) (kf : a ≠ 0 → sm_V G M R Z cells slots (pc + 3) lv st h) : sm_V G M R Z cells slots pc lv (.int (nI a) :: st) h :=
  sv_if_eq tgt hd ht (fun q => kt ((sm_n0 ha).mp q)) (fun q => kf (by have z : ¬ (a = 0) := fun w => q ((sm_n0 ha).mpr w); omega))
theorem sv_icmpN_eq {a b : Nat} {off : Int} (tgt : Nat) (hd : decode M.2.1 pc = .ok (.if_icmp .eq off, 3)) (ht : (pc : Int) + off = (tgt : Int)) (ha : a < 2 ^ 31) (hb : b < 2 ^ 31) (kt : a = b → sm_V G M R Z cells slots tgt lv st h) (kf : a ≠ b → sm_V G M R Z cells slots (pc + 3) lv st h) : sm_V G M R Z cells slots pc lv (.int (nI b) :: .int (nI a) :: st) h :=
  sv_icmp_eq tgt hd ht (fun q => kt ((nI_eq ha hb).mp q)) (fun q => kf (by have z : ¬ (a = b) := fun w => q ((nI_eq ha hb).mpr w); omega))
theorem sv_ifN_ne {a : Nat} {off : Int} (tgt : Nat) (hd : decode M.2.1 pc = .ok (.ifCond .ne off, 3)) (ht : (pc : Int) + off = (tgt : Int)) (ha : a < 2 ^ 31) (kt : a ≠ 0 → sm_V G M R Z cells slots tgt lv st h) (kf : a = 0 → sm_V G M R Z cells slots (pc + 3) lv st h) : sm_V G M R Z cells slots pc lv (.int (nI a) :: st) h :=
  sv_if_ne tgt hd ht (fun q => kt (fun w => q ((sm_n0 ha).mpr w))) (fun q => kf ((sm_n0 ha).mp q))
theorem sv_icmpN_ne {a b : Nat} {off : Int} (tgt : Nat) (hd : decode M.2.1 pc = .ok (.if_icmp .ne off, 3)) (ht : (pc : Int) + off = (tgt : Int)) (ha : a < 2 ^ 31) (hb : b < 2 ^ 31) (kt : a ≠ b → sm_V G M R Z cells slots tgt lv st h) (kf : a = b → sm_V G M R Z cells slots (pc + 3) lv st h) : sm_V G M R Z cells slots pc lv (.int (nI b) :: .int (nI a) :: st) h :=
  sv_icmp_ne tgt hd ht (fun q => kt (fun w => q ((nI_eq ha hb).mpr w))) (fun q => kf ((nI_eq ha hb).mp q))
theorem sv_icmpN_lt {a b : Nat} {off : Int} (tgt : Nat) (hd : decode M.2.1 pc = .ok (.if_icmp .lt off, 3)) (ht : (pc : Int) + off = (tgt : Int)) (ha : a < 2 ^ 31) (hb : b < 2 ^ 31) (kt : a < b → sm_V G M R Z cells slots tgt lv st h) (kf : b ≤ a → sm_V G M R Z cells slots (pc + 3) lv st h) : sm_V G M R Z cells slots pc lv (.int (nI b) :: .int (nI a) :: st) h :=
  sv_icmp_lt tgt hd ht (fun q => kt ((nI_ltI ha hb).mp q)) (fun q => kf (by have z : ¬ (a < b) := fun w => q ((nI_ltI ha hb).mpr w); omega))
theorem sv_icmpN_ge {a b : Nat} {off : Int} (tgt : Nat) (hd : decode M.2.1 pc = .ok (.if_icmp .ge off, 3)) (ht : (pc : Int) + off = (tgt : Int)) (ha : a < 2 ^ 31) (hb : b < 2 ^ 31) (kt : b ≤ a → sm_V G M R Z cells slots tgt lv st h) (kf : a < b → sm_V G M R Z cells slots (pc + 3) lv st h) : sm_V G M R Z cells slots pc lv (.int (nI b) :: .int (nI a) :: st) h :=
  sv_icmp_ge tgt hd ht (fun q => kt ((nI_leI hb ha).mp q)) (fun q => kf (by have z : ¬ (b ≤ a) := fun w => q ((nI_leI hb ha).mpr w); omega))
theorem sv_ifN_gt {a : Nat} {off : Int} (tgt : Nat) (hd : decode M.2.1 pc = .ok (.ifCond .gt off, 3)) (ht : (pc : Int) + off = (tgt : Int)) (ha : a < 2 ^ 31) (kt : a ≠ 0 → sm_V G M R Z cells slots tgt lv st h) (kf : a = 0 → sm_V G M R Z cells slots (pc + 3) lv st h) : sm_V G M R Z cells slots pc lv (.int (nI a) :: st) h :=
  sv_if_gt tgt hd ht (fun q => kt ((sm_n1 ha).mp q)) (fun q => kf (by have z : ¬ (a ≠ 0) := fun w => q ((sm_n1 ha).mpr w); omega))
theorem sv_icmpN_gt {a b : Nat} {off : Int} (tgt : Nat) (hd : decode M.2.1 pc = .ok (.if_icmp .gt off, 3)) (ht : (pc : Int) + off = (tgt : Int)) (ha : a < 2 ^ 31) (hb : b < 2 ^ 31) (kt : b < a → sm_V G M R Z cells slots tgt lv st h) (kf : a ≤ b → sm_V G M R Z cells slots (pc + 3) lv st h) : sm_V G M R Z cells slots pc lv (.int (nI b) :: .int (nI a) :: st) h :=
  sv_icmp_gt tgt hd ht (fun q => kt ((nI_ltI hb ha).mp q)) (fun q => kf (by have z : ¬ (b < a) := fun w => q ((nI_ltI hb ha).mpr w); omega))
theorem sv_ifN_le {a : Nat} {off : Int} (tgt : Nat) (hd : decode M.2.1 pc = .ok (.ifCond .le off, 3)) (ht : (pc : Int) + off = (tgt : Int)) (ha : a < 2 ^ 31) (kt : a = 0 → sm_V G M R Z cells slots tgt lv st h) (kf : a ≠ 0 → sm_V G M R Z cells slots (pc + 3) lv st h) : sm_V G M R Z cells slots pc lv (.int (nI a) :: st) h :=
  sv_if_le tgt hd ht (fun q => kt ((sm_n2 ha).mp q)) (fun q => kf (by have z : ¬ (a = 0) := fun w => q ((sm_n2 ha).mpr w); omega))
theorem sv_icmpN_le {a b : Nat} {off : Int} (tgt : Nat) (hd : decode M.2.1 pc = .ok (.if_icmp .le off, 3)) (ht : (pc : Int) + off = (tgt : Int)) (ha : a < 2 ^ 31) (hb : b < 2 ^ 31) (kt : a ≤ b → sm_V G M R Z cells slots tgt lv st h) (kf : b < a → sm_V G M R Z cells slots (pc + 3) lv st h) : sm_V G M R Z cells slots pc lv (.int (nI b) :: .int (nI a) :: st) h :=
  sv_icmp_le tgt hd ht (fun q => kt ((nI_leI ha hb).mp q)) (fun q => kf (by have z : ¬ (a ≤ b) := fun w => q ((nI_leI ha hb).mpr w); omega))
theorem sv_iaddN {a b : Nat} (hd : decode M.2.1 pc = .ok (.iadd, 1))  (k : sm_V G M R Z cells slots (pc + 1) lv (.int (nI (a + b)) :: st) h) : sm_V G M R Z cells slots pc lv (.int (nI b) :: .int (nI a) :: st) h := sv_iadd hd (sv_top _ (nI_add a b) k)
theorem sv_isubN {a b : Nat} (hd : decode M.2.1 pc = .ok (.isub, 1)) (hb : b ≤ a) (k : sm_V G M R Z cells slots (pc + 1) lv (.int (nI (a - b)) :: st) h) : sm_V G M R Z cells slots pc lv (.int (nI b) :: .int (nI a) :: st) h := sv_isub hd (sv_top _ (pk_sub hb) k)
theorem sv_imulN {a b : Nat} (hd : decode M.2.1 pc = .ok (.imul, 1))  (k : sm_V G M R Z cells slots (pc + 1) lv (.int (nI (a * b)) :: st) h) : sm_V G M R Z cells slots pc lv (.int (nI b) :: .int (nI a) :: st) h := sv_imul hd (sv_top _ (pk_mul a b) k)
theorem sv_idivN {a b : Nat} (hd : decode M.2.1 pc = .ok (.idiv, 1)) (ha : a < 2 ^ 31) (h0 : 0 < b) (hb : b < 2 ^ 31) (k : sm_V G M R Z cells slots (pc + 1) lv (.int (nI (a / b)) :: st) h) : sm_V G M R Z cells slots pc lv (.int (nI b) :: .int (nI a) :: st) h := sv_idiv hd (nI_ne0 h0 hb) (sv_top _ (pk_div ha h0 hb) k)
theorem sv_iremN {a b : Nat} (hd : decode M.2.1 pc = .ok (.irem, 1)) (ha : a < 2 ^ 31) (h0 : 0 < b) (hb : b < 2 ^ 31) (k : sm_V G M R Z cells slots (pc + 1) lv (.int (nI (a % b)) :: st) h) : sm_V G M R Z cells slots pc lv (.int (nI b) :: .int (nI a) :: st) h := sv_irem hd (nI_ne0 h0 hb) (sv_top _ (pk_rem ha h0 hb) k)
theorem sv_lookup {dflt : Int} {ps : Array (Int × Int)} {len : Nat} {x : Int32} {off : Int} (tgt : Nat) (hd : decode M.2.1 pc = .ok (.lookupswitch dflt ps, len)) (hp : (ps.toList.zip (ps.toList.drop 1)).all (fun (a, next) => a.1 < next.1) = true) (ho : Op.lookupswitch.offset ps.toList dflt x.toInt = off) (ht : (pc : Int) + off = (tgt : Int)) (k : sm_V G M R Z cells slots tgt lv st h) : sm_V G M R Z cells slots pc lv (.int x :: st) h := by
  intro p e s m args below meth c H locs ls E hS hR hl
  exact lv_lookup E.1 E.2.1 hd hp ho ht (k p e s m args below meth c H locs ls E hS hR hl)
theorem sv_tableIn {dflt lo hi : Int} {offs : Array Int} {len : Nat} {x : Int32} {off : Int} (tgt : Nat) (hd : decode M.2.1 pc = .ok (.tableswitch dflt lo hi offs, len)) (h1 : ¬ x.toInt < lo) (h2 : ¬ hi < x.toInt) (ho : offs[(x.toInt - lo).toNat]? = some off) (ht : (pc : Int) + off = (tgt : Int)) (k : sm_V G M R Z cells slots tgt lv st h) : sm_V G M R Z cells slots pc lv (.int x :: st) h := by
  intro p e s m args below meth c H locs ls E hS hR hl
  exact lv_tableIn E.1 E.2.1 hd h1 h2 ho ht (k p e s m args below meth c H locs ls E hS hR hl)
theorem sv_tableOut {dflt lo hi : Int} {offs : Array Int} {len : Nat} {x : Int32} (tgt : Nat) (hd : decode M.2.1 pc = .ok (.tableswitch dflt lo hi offs, len)) (h1 : x.toInt < lo ∨ hi < x.toInt) (ht : (pc : Int) + dflt = (tgt : Int)) (k : sm_V G M R Z cells slots tgt lv st h) : sm_V G M R Z cells slots pc lv (.int x :: st) h := by
  intro p e s m args below meth c H locs ls E hS hR hl
  exact lv_tableOut E.1 E.2.1 hd h1 ht (k p e s m args below meth c H locs ls E hS hR hl)
theorem sv_ldc {index : Nat} {v : Int32} (hd : decode M.2.1 pc = .ok (.ldc index, 2)) (hw : Jvm.Cond.constant M.1.cls index v ∈ sm_tbl) (k : sm_V G M R Z cells slots (pc + 2) lv (.int v :: st) h) : sm_V G M R Z cells slots pc lv st h := by
  intro p e s m args below meth c H locs ls E hS hR hl
  exact lv_ldc E.1 E.2.1 E.2.2.2.2.1 (E.2.2.2.2.2.1 _ hw) hd (k p e s m args below meth c H locs ls E hS hR hl)
theorem sv_ldc2 {index : Nat} {v : Int64} (hd : decode M.2.1 pc = .ok (.ldc2_w index, 3)) (hw : Jvm.Cond.constantLong M.1.cls index v ∈ sm_tbl) (k : sm_V G M R Z cells slots (pc + 3) lv (.long v :: st) h) : sm_V G M R Z cells slots pc lv st h := by
  intro p e s m args below meth c H locs ls E hS hR hl
  exact lv_ldc2 E.1 E.2.1 E.2.2.2.2.1 (E.2.2.2.2.2.1 _ hw) hd (k p e s m args below meth c H locs ls E hS hR hl)
theorem sv_iret {v : Int32} {ty : FieldType} (hd : decode M.2.1 pc = .ok (.ireturn, 1)) (hr : M.2.2.2.1 = some ty) (hn : narrow ty (.int v) = .int v) (hc : cells ≤ mc) (hs : slots ≤ ms) (hq : Q (.inl (some (.int v))) h) : sm_V G M R (sm_Zm G Q mc ms) cells slots pc lv [.int v] h := by
  intro p e s m args below meth c H locs ls E hS hR hl
  exact vx_ret (W.widen hc hs (W.zret E.1 E.2.1 (E.2.2.1.trans hr) hn (fun t ht hW => ⟨⟨some (.int v), h, rfl, hq, by rw [ht]; exact hR⟩, hS.F ht⟩) (fun q hq => hS.2.2 q hq) hd E.2.2.2.2.2.2.1))
theorem sv_lret {v : Int64} (hd : decode M.2.1 pc = .ok (.lreturn, 1)) (hr : M.2.2.2.1 = some .long) (hc : cells ≤ mc) (hs : slots ≤ ms) (hq : Q (.inl (some (.long v))) h) : sm_V G M R (sm_Zm G Q mc ms) cells slots pc lv [.long v] h := by
  intro p e s m args below meth c H locs ls E hS hR hl
  exact vx_ret (W.widen hc hs (W.lret E.1 E.2.1 (E.2.2.1.trans hr) (fun t ht hW => ⟨⟨some (.long v), h, rfl, hq, by rw [ht]; exact hR⟩, hS.F ht⟩) (fun q hq => hS.2.2 q hq) hd E.2.2.2.2.2.2.1))
theorem sv_vret (hd : decode M.2.1 pc = .ok (.return_, 1)) (hr : M.2.2.2.1 = none) (hc : cells ≤ mc) (hs : slots ≤ ms) (hq : Q (.inl none) h) : sm_V G M R (sm_Zm G Q mc ms) cells slots pc lv [] h := by
  intro p e s m args below meth c H locs ls E hS hR hl
  exact vx_ret (W.widen hc hs (W.vret E.1 E.2.1 (E.2.2.1.trans hr) (fun t ht hW => ⟨⟨none, h, rfl, hq, by rw [ht]; exact hR⟩, hS.F ht⟩) (fun q hq => hS.2.2 q hq) hd E.2.2.2.2.2.2.1))
theorem sm_P1 {G : sm_G} {H : Heap} {a : Nat} {e : va_E} (hat : va_at G.2.1 vwCl (a, e) H) : va_P G.2.1 vwCl [(a, e)] H := by
  intro k q hk
  cases k with
  | zero => cases hk; exact hat
  | succ k => simp at hk
theorem sv_get {ci k index a : Nat} {C : String} {T : u_T} {N : Nat} {ty : Nat → FieldType} {fs : List Value} {v : Value} (hC : sm_cl ci C T N ty) (hd : decode M.2.1 pc = .ok (.getfield index, 3)) (hk : k < N) (hw : Cond.fieldLink M.1.cls index (T k).1 (T k).2.1 (T k).2.2.1 ∈ sm_tbl) (he : h a = some (.inr (ci, fs))) (hv : fs[k]? = some v) (kk : sm_V G M R Z cells slots (pc + 3) lv (v :: st) h) : sm_V G M R Z cells slots pc lv (.ref a :: st) h := by
  intro p e s m args below meth c H locs ls E hS hR hl
  obtain ⟨-, hat⟩ := sm_R_at hR he (sm_R_ne hR he hv)
  exact va_get (ws := [(a, .inr (ci, fs))]) E.1 E.2.1 E.2.2.2.2.2.1 hC.2.1 E.2.2.2.2.1 E.2.2.2.2.2.2.2.2.1.1 (sm_P1 hat) 0 rfl hC.1 k hk (E.2.2.2.2.2.1 _ hw) (fun _ q => q) hv hd (kk p e s m args below meth c H locs ls E hS hR hl)
theorem sv_put {ci k index a : Nat} {C : String} {T : u_T} {N : Nat} {ty : Nat → FieldType} {fs : List Value} {v : Value} (hC : sm_cl ci C T N ty) (hd : decode M.2.1 pc = .ok (.putfield index, 3)) (hk : k < N) (hw : Cond.fieldLink M.1.cls index (T k).1 (T k).2.1 (T k).2.2.1 ∈ sm_tbl) (hfin : (T k).2.2.2 = false) (he : h a = some (.inr (ci, fs))) (hl0 : k < fs.length) (hn : narrow (ty k) v = v) (hfit : fits (ty k) v = true) (kk : sm_V G M R Z cells slots (pc + 3) lv st (sm_up h a (.inr (ci, fs.set k v)))) : sm_V G M R Z cells slots pc lv (v :: .ref a :: st) h := by
  intro p e s m args below meth c H locs ls E hS hR hl
  have h0 : a ≠ 0 := sm_R_ne hR he (List.getElem?_eq_getElem hl0)
  obtain ⟨hB, hat⟩ := sm_R_at hR he h0
  have hts := E.2.2.2.2.2.1
  have hap := va_apart (own := C) hts hC.2.1 ty hC.2.2.1 hC.2.2.2 E.2.2.2.2.2.2.2.2.1.1 hC.1
  obtain ⟨r, h1, cell, q1, q2, q3, q4⟩ := hat
  have hr : r = (C, T, N) := Option.some.inj (h1.symm.trans hC.1)
  subst hr
  obtain ⟨hSl, hfc, kC, hkC, hkind⟩ := E.2.2.2.2.2.2.2.2.1.1.1 ci _ hC.1
  obtain ⟨cf, kf, fi, f, hi, hsl⟩ := hSl k hk
  have hlay := hts _ (hC.2.1 _ (u_in_lay hk))
  unfold u_lay at hlay
  rw [if_neg (by rw [hfin]; decide)] at hlay
  have hst := (u_facts hfc hkC (u_lays hts hC.2.1 hk) hi).1
  have h6 := u_store hfc hkC hkind hlay hi (hC.2.2.1 k hk) hn hfit
  refine W.putK E.1 E.2.1 (f := f) ⟨E.2.2.2.2.1, hts _ hw, ⟨_, _, _, hi⟩, hst⟩ (by rw [q2]; exact h6) q1 q3 (by rw [hsl]; exact k2_hasslot (q4 k hk)) rfl rfl hd fun H' e1 e2 e3 => ?_
  rw [hsl] at e1 ⊢
  exact kk p e s m args below meth c H' _ ls E (hS.put e2 e3 hB) (sm_R_set hR h0 hB ⟨_, hC.1, t_OB.to (V := updV (vp_V fs) k v) ⟨_, e1, q2, q3, t_set q4 hap hk v⟩ (fun j _ => vp_updV_set hl0 v j)⟩ e2 e3) hl
theorem sv_putF {ci k index a : Nat} {C : String} {T : u_T} {N : Nat} {ty : Nat → FieldType} {fs : List Value} {v : Value} (hC : sm_cl ci C T N ty) (hd : decode M.2.1 pc = .ok (.putfield index, 3)) (hk : k < N) (hw : Cond.fieldLink M.1.cls index (T k).1 (T k).2.1 (T k).2.2.1 ∈ sm_tbl) (hfin : (T k).2.2.2 = true) (hin2 : M.1.name = "<init>") (hdecl : (T k).1 = M.1.cls) (he : h a = some (.inr (ci, fs))) (hl0 : k < fs.length) (hn : narrow (ty k) v = v) (hfit : fits (ty k) v = true) (kk : sm_V G M R Z cells slots (pc + 3) lv st (sm_up h a (.inr (ci, fs.set k v)))) : sm_V G M R Z cells slots pc lv (v :: .ref a :: st) h := by
  intro p e s m args below meth c H locs ls E hS hR hl
  have h0 : a ≠ 0 := sm_R_ne hR he (List.getElem?_eq_getElem hl0)
  obtain ⟨hB, hat⟩ := sm_R_at hR he h0
  have hts := E.2.2.2.2.2.1
  have hap := va_apart (own := C) hts hC.2.1 ty hC.2.2.1 hC.2.2.2 E.2.2.2.2.2.2.2.2.1.1 hC.1
  obtain ⟨r, h1, cell, q1, q2, q3, q4⟩ := hat
  have hr : r = (C, T, N) := Option.some.inj (h1.symm.trans hC.1)
  subst hr
  obtain ⟨hSl, hfc, kC, hkC, hkind⟩ := E.2.2.2.2.2.2.2.2.1.1.1 ci _ hC.1
  obtain ⟨cf, kf, fi, f, hi, hsl⟩ := hSl k hk
  have hlay := hts _ (hC.2.1 _ (u_in_lay hk))
  unfold u_lay at hlay
  rw [if_pos hfin] at hlay
  have hst := (u_facts hfc hkC (u_lays hts hC.2.1 hk) hi).1
  have hcf : m.cls = cf := by
    obtain ⟨_, _, c', _, _, _, -, -, hf', -, -, -, hown2, -⟩ := Cond.laysFinal_spec hlay
    have e1 : c' = cf := by have := hi.symm.trans hf'; simp at this; exact this.1.symm
    rw [hdecl] at hown2
    rw [← e1]; exact Option.some.inj (E.2.2.2.2.1.symm.trans hown2)
  have h6 := u_fits hfc hkC hkind (Or.inr hlay) hi (hC.2.2.1 k hk) hn hfit
  refine W.putFinK E.1 E.2.1 E.2.2.2.2.1 (hts _ hw) hi hst hcf (E.2.2.2.2.2.2.2.2.2.2.trans hin2) (by rw [q2]; exact h6) q1 q3 (by rw [hsl]; exact k2_hasslot (q4 k hk)) rfl rfl hd fun H' e1 e2 e3 => ?_
  rw [hsl] at e1 ⊢
  exact kk p e s m args below meth c H' _ ls E (hS.put e2 e3 hB) (sm_R_set hR h0 hB ⟨_, hC.1, t_OB.to (V := updV (vp_V fs) k v) ⟨_, e1, q2, q3, t_set q4 hap hk v⟩ (fun j _ => vp_updV_set hl0 v j)⟩ e2 e3) hl
theorem sv_iaload {a n : Nat} {f : Nat → Int32} {i : Int32} (hd : decode M.2.1 pc = .ok (.iaload, 1)) (he : h a = some (sm_ai G n f)) (hin : vp_in i n) (kk : sm_V G M R Z cells slots (pc + 1) lv (.int (f i.toNatClampNeg) :: st) h) : sm_V G M R Z cells slots pc lv (.int i :: .ref a :: st) h := by
  intro p e s m args below meth c H locs ls E hS hR hl
  obtain ⟨-, hat⟩ := sm_R_at hR he (sm_R_na hR he)
  exact va_iald (ws := [(a, _)]) E.1 E.2.1 E.2.2.2.2.2.2.2.2.1.1 (sm_P1 hat) 0 0 rfl rfl hin hd (kk p e s m args below meth c H locs ls E hS hR hl)
theorem sv_laload {a n : Nat} {f : Nat → Int64} {i : Int32} (hd : decode M.2.1 pc = .ok (.laload, 1)) (he : h a = some (sm_aj G n f)) (hin : vp_in i n) (kk : sm_V G M R Z cells slots (pc + 1) lv (.long (f i.toNatClampNeg) :: st) h) : sm_V G M R Z cells slots pc lv (.int i :: .ref a :: st) h := by
  intro p e s m args below meth c H locs ls E hS hR hl
  obtain ⟨-, hat⟩ := sm_R_at hR he (sm_R_na hR he)
  exact va_lald (ws := [(a, _)]) E.1 E.2.1 E.2.2.2.2.2.2.2.2.1.1 (sm_P1 hat) 0 1 rfl rfl hin hd (kk p e s m args below meth c H locs ls E hS hR hl)
theorem sv_baload {a n : Nat} {f : Nat → Int32} {i : Int32} (hd : decode M.2.1 pc = .ok (.baload, 1)) (he : h a = some (sm_az G n f)) (hin : vp_in i n) (kk : sm_V G M R Z cells slots (pc + 1) lv (.int (f i.toNatClampNeg) :: st) h) : sm_V G M R Z cells slots pc lv (.int i :: .ref a :: st) h := by
  intro p e s m args below meth c H locs ls E hS hR hl
  obtain ⟨-, hat⟩ := sm_R_at hR he (sm_R_na hR he)
  exact va_zald (ws := [(a, _)]) E.1 E.2.1 E.2.2.2.2.2.2.2.2.1.1 (sm_P1 hat) 0 2 rfl rfl hin hd (kk p e s m args below meth c H locs ls E hS hR hl)
theorem sv_caload {a n : Nat} {f : Nat → Int32} {i : Int32} (hd : decode M.2.1 pc = .ok (.caload, 1)) (he : h a = some (sm_ac G n f)) (hin : vp_in i n) (kk : sm_V G M R Z cells slots (pc + 1) lv (.int (f i.toNatClampNeg) :: st) h) : sm_V G M R Z cells slots pc lv (.int i :: .ref a :: st) h := by
  intro p e s m args below meth c H locs ls E hS hR hl
  obtain ⟨-, hat⟩ := sm_R_at hR he (sm_R_na hR he)
  exact va_cald (ws := [(a, _)]) E.1 E.2.1 E.2.2.2.2.2.2.2.2.1.1 (sm_P1 hat) 0 3 rfl rfl hin hd (kk p e s m args below meth c H locs ls E hS hR hl)
theorem sv_aaload4 {a n : Nat} {f : Nat → Option Nat} {i : Int32} (hd : decode M.2.1 pc = .ok (.aaload, 1)) (he : h a = some (sm_ar G 4 n f)) (hin : vp_in i n) (kk : sm_V G M R Z cells slots (pc + 1) lv (va_rf (f i.toNatClampNeg) :: st) h) : sm_V G M R Z cells slots pc lv (.int i :: .ref a :: st) h := by
  intro p e s m args below meth c H locs ls E hS hR hl
  obtain ⟨-, hat⟩ := sm_R_at hR he (sm_R_na hR he)
  exact va_aldq (ws := [(a, _)]) E.1 E.2.1 E.2.2.2.2.2.2.2.2.1.1 (sm_P1 hat) 0 4 rfl rfl hin hd (kk p e s m args below meth c H locs ls E hS hR hl)
theorem sv_aaload5 {a n : Nat} {f : Nat → Option Nat} {i : Int32} (hd : decode M.2.1 pc = .ok (.aaload, 1)) (he : h a = some (sm_ar G 5 n f)) (hin : vp_in i n) (kk : sm_V G M R Z cells slots (pc + 1) lv (va_rf (f i.toNatClampNeg) :: st) h) : sm_V G M R Z cells slots pc lv (.int i :: .ref a :: st) h := by
  intro p e s m args below meth c H locs ls E hS hR hl
  obtain ⟨-, hat⟩ := sm_R_at hR he (sm_R_na hR he)
  exact va_aldq (ws := [(a, _)]) E.1 E.2.1 E.2.2.2.2.2.2.2.2.1.1 (sm_P1 hat) 0 5 rfl rfl hin hd (kk p e s m args below meth c H locs ls E hS hR hl)
theorem sv_aaload6 {a n : Nat} {f : Nat → Option Nat} {i : Int32} (hd : decode M.2.1 pc = .ok (.aaload, 1)) (he : h a = some (sm_ar G 6 n f)) (hin : vp_in i n) (kk : sm_V G M R Z cells slots (pc + 1) lv (va_rf (f i.toNatClampNeg) :: st) h) : sm_V G M R Z cells slots pc lv (.int i :: .ref a :: st) h := by
  intro p e s m args below meth c H locs ls E hS hR hl
  obtain ⟨-, hat⟩ := sm_R_at hR he (sm_R_na hR he)
  exact va_aldq (ws := [(a, _)]) E.1 E.2.1 E.2.2.2.2.2.2.2.2.1.1 (sm_P1 hat) 0 6 rfl rfl hin hd (kk p e s m args below meth c H locs ls E hS hR hl)
theorem sv_iastore {a n : Nat} {f : Nat → Int32} {i : Int32} {x : Int32} (hd : decode M.2.1 pc = .ok (.iastore, 1)) (he : h a = some (sm_ai G n f)) (hin : vp_in i n) (kk : sm_V G M R Z cells slots (pc + 1) lv st (sm_up h a (sm_ai G n (upd f i.toNatClampNeg x)))) : sm_V G M R Z cells slots pc lv (.int x :: .int i :: .ref a :: st) h := by
  intro p e s m args below meth c H locs ls E hS hR hl
  have h0 := sm_R_na hR he
  obtain ⟨hB, hat⟩ := sm_R_at hR he h0
  refine W.iast E.1 E.2.1 hat ((E.2.2.2.2.2.2.2.2.1.1.2 0 _ rfl).1 n (fun j => .int (f j))) (fun q => by cases q) (by show ¬ (i < 0 ∨ (arrV _ _ _).slots.size ≤ _); rw [arrV_size]; exact hin) rfl rfl hd fun H1 e9 z oq => ?_
  refine kk p e s m args below meth c H1 _ ls E (hS.put z oq hB) (sm_R_set hR h0 hB ?_ z oq) hl
  show H1[a]? = some (vp_cell _ _)
  rw [e9]
  rw [vp_cell_i, vp_cell_i, arrV_store]
  congr 2
  funext q
  by_cases hq : q = i.toNatClampNeg
  · subst hq
    simp [updV, upd, vp_updL]
    try rfl
  · simp [updV, upd, vp_updL, hq]
theorem sv_lastore {a n : Nat} {f : Nat → Int64} {i : Int32} {x : Int64} (hd : decode M.2.1 pc = .ok (.lastore, 1)) (he : h a = some (sm_aj G n f)) (hin : vp_in i n) (kk : sm_V G M R Z cells slots (pc + 1) lv st (sm_up h a (sm_aj G n (vp_updL f i.toNatClampNeg x)))) : sm_V G M R Z cells slots pc lv (.long x :: .int i :: .ref a :: st) h := by
  intro p e s m args below meth c H locs ls E hS hR hl
  have h0 := sm_R_na hR he
  obtain ⟨hB, hat⟩ := sm_R_at hR he h0
  refine W.last E.1 E.2.1 hat ((E.2.2.2.2.2.2.2.2.1.1.2 1 _ rfl).1 n (fun j => .long (f j))) (fun q => by cases q) (by show ¬ (i < 0 ∨ (arrV _ _ _).slots.size ≤ _); rw [arrV_size]; exact hin) rfl rfl hd fun H1 e9 z oq => ?_
  refine kk p e s m args below meth c H1 _ ls E (hS.put z oq hB) (sm_R_set hR h0 hB ?_ z oq) hl
  show H1[a]? = some (vp_cell _ _)
  rw [e9]
  rw [vp_cell_l, vp_cell_l, arrV_store]
  congr 2
  funext q
  by_cases hq : q = i.toNatClampNeg
  · subst hq
    simp [updV, upd, vp_updL]
    try rfl
  · simp [updV, upd, vp_updL, hq]
theorem sv_bastore {a n : Nat} {f : Nat → Int32} {i : Int32} {x : Int32} (hd : decode M.2.1 pc = .ok (.bastore, 1)) (he : h a = some (sm_az G n f)) (hin : vp_in i n) (kk : sm_V G M R Z cells slots (pc + 1) lv st (sm_up h a (sm_az G n (upd f i.toNatClampNeg (vp_nar .boolean x))))) : sm_V G M R Z cells slots pc lv (.int x :: .int i :: .ref a :: st) h := by
  intro p e s m args below meth c H locs ls E hS hR hl
  have h0 := sm_R_na hR he
  obtain ⟨hB, hat⟩ := sm_R_at hR he h0
  refine W.zast E.1 E.2.1 hat ((E.2.2.2.2.2.2.2.2.1.1.2 2 _ rfl).1 n (fun j => .int (f j))) (fun q => by cases q) (by show ¬ (i < 0 ∨ (arrV _ _ _).slots.size ≤ _); rw [arrV_size]; exact hin) rfl rfl hd fun H1 e9 z oq => ?_
  refine kk p e s m args below meth c H1 _ ls E (hS.put z oq hB) (sm_R_set hR h0 hB ?_ z oq) hl
  show H1[a]? = some (vp_cell _ _)
  rw [e9]
  rw [vp_cell_i, vp_cell_i, arrV_store]
  congr 2
  funext q
  by_cases hq : q = i.toNatClampNeg
  · subst hq
    simp [updV, upd, vp_updL, vp_nar]
    try rfl
  · simp [updV, upd, vp_updL, hq]
theorem sv_castore {a n : Nat} {f : Nat → Int32} {i : Int32} {x : Int32} (hd : decode M.2.1 pc = .ok (.castore, 1)) (he : h a = some (sm_ac G n f)) (hin : vp_in i n) (kk : sm_V G M R Z cells slots (pc + 1) lv st (sm_up h a (sm_ac G n (upd f i.toNatClampNeg (vp_nar .char x))))) : sm_V G M R Z cells slots pc lv (.int x :: .int i :: .ref a :: st) h := by
  intro p e s m args below meth c H locs ls E hS hR hl
  have h0 := sm_R_na hR he
  obtain ⟨hB, hat⟩ := sm_R_at hR he h0
  refine W.cast E.1 E.2.1 hat ((E.2.2.2.2.2.2.2.2.1.1.2 3 _ rfl).1 n (fun j => .int (f j))) (fun q => by cases q) (by show ¬ (i < 0 ∨ (arrV _ _ _).slots.size ≤ _); rw [arrV_size]; exact hin) rfl rfl hd fun H1 e9 z oq => ?_
  refine kk p e s m args below meth c H1 _ ls E (hS.put z oq hB) (sm_R_set hR h0 hB ?_ z oq) hl
  show H1[a]? = some (vp_cell _ _)
  rw [e9]
  rw [vp_cell_i, vp_cell_i, arrV_store]
  congr 2
  funext q
  by_cases hq : q = i.toNatClampNeg
  · subst hq
    simp [updV, upd, vp_updL, vp_nar]
    try rfl
  · simp [updV, upd, vp_updL, hq]
theorem sv_aastore4 {a n v : Nat} {vs : List Value} {f : Nat → Option Nat} {i : Int32} (hd : decode M.2.1 pc = .ok (.aastore, 1)) (he : h a = some (sm_ar G 4 n f)) (hv : h v = some (.inr (3, vs))) (hv0 : vs ≠ []) (hin : vp_in i n) (kk : sm_V G M R Z cells slots (pc + 1) lv st (sm_up h a (sm_ar G 4 n (va_up f i.toNatClampNeg (some v))))) : sm_V G M R Z cells slots pc lv (.ref v :: .int i :: .ref a :: st) h := by
  intro p e s m args below meth c H locs ls E hS hR hl
  have h0 := sm_R_na hR he
  obtain ⟨hB, hat⟩ := sm_R_at hR he h0
  obtain ⟨v0, vr, rfl⟩ : ∃ v0 vr, vs = v0 :: vr := by cases vs with | nil => exact absurd rfl hv0 | cons x y => exact ⟨x, y, rfl⟩
  obtain ⟨-, hatv⟩ := sm_R_at hR hv (sm_R_ne (k := 0) hR hv rfl)
  have hlt : i.toNatClampNeg < n := Nat.not_le.mp fun q => hin (Or.inr q)
  have hi0 : ¬ i < 0 := fun q => hin (Or.inl q)
  have hK := E.2.2.2.2.2.2.2.2.1.1
  obtain ⟨r', hr', cellV, g1, g2, g3, -⟩ := hatv
  have hcls := (hK.1 3 _ rfl).2
  obtain ⟨kA, comp, k1, k2, k3, -⟩ := (hK.2 4 _ rfl).2
  have hcomp : comp = G.2.1.1 3 := Option.some.inj (k3.symm.trans hcls.1)
  subst hcomp
  obtain ⟨kC, hkC, -⟩ := hcls.2
  refine W.aast E.1 E.2.1 hat (fun q h => by cases h) (fun h => by cases h) k1 k2 rfl hkC ⟨hi0, by show _ < (arrV _ _ _).slots.size; rw [arrV_size]; exact hlt⟩ g1 (fun q h => by rw [g3] at h; cases h) (by rw [g2]; exact hkC) (by rw [g2]; exact va_assign hcls) rfl rfl hd fun H1 e9 z oq => ?_
  refine kk p e s m args below meth c H1 _ ls E (hS.put z oq hB) (sm_R_set hR h0 hB ?_ z oq) hl
  show H1[a]? = some (vp_cell _ _)
  rw [e9]
  rw [vp_cell_q, vp_cell_q, arrV_store]
  congr 2
  funext q
  by_cases hq : q = i.toNatClampNeg
  · subst hq
    simp [updV, va_up, va_rf]
  · simp [updV, va_up, hq]
theorem sv_aastore5 {a n v : Nat} {vs : List Value} {f : Nat → Option Nat} {i : Int32} (hd : decode M.2.1 pc = .ok (.aastore, 1)) (he : h a = some (sm_ar G 5 n f)) (hv : h v = some (.inr (2, vs))) (hv0 : vs ≠ []) (hin : vp_in i n) (kk : sm_V G M R Z cells slots (pc + 1) lv st (sm_up h a (sm_ar G 5 n (va_up f i.toNatClampNeg (some v))))) : sm_V G M R Z cells slots pc lv (.ref v :: .int i :: .ref a :: st) h := by
  intro p e s m args below meth c H locs ls E hS hR hl
  have h0 := sm_R_na hR he
  obtain ⟨hB, hat⟩ := sm_R_at hR he h0
  obtain ⟨v0, vr, rfl⟩ : ∃ v0 vr, vs = v0 :: vr := by cases vs with | nil => exact absurd rfl hv0 | cons x y => exact ⟨x, y, rfl⟩
  obtain ⟨-, hatv⟩ := sm_R_at hR hv (sm_R_ne (k := 0) hR hv rfl)
  have hlt : i.toNatClampNeg < n := Nat.not_le.mp fun q => hin (Or.inr q)
  have hi0 : ¬ i < 0 := fun q => hin (Or.inl q)
  have hK := E.2.2.2.2.2.2.2.2.1.1
  obtain ⟨r', hr', cellV, g1, g2, g3, -⟩ := hatv
  have hcls := (hK.1 2 _ rfl).2
  obtain ⟨kA, comp, k1, k2, k3, -⟩ := (hK.2 5 _ rfl).2
  have hcomp : comp = G.2.1.1 2 := Option.some.inj (k3.symm.trans hcls.1)
  subst hcomp
  obtain ⟨kC, hkC, -⟩ := hcls.2
  refine W.aast E.1 E.2.1 hat (fun q h => by cases h) (fun h => by cases h) k1 k2 rfl hkC ⟨hi0, by show _ < (arrV _ _ _).slots.size; rw [arrV_size]; exact hlt⟩ g1 (fun q h => by rw [g3] at h; cases h) (by rw [g2]; exact hkC) (by rw [g2]; exact va_assign hcls) rfl rfl hd fun H1 e9 z oq => ?_
  refine kk p e s m args below meth c H1 _ ls E (hS.put z oq hB) (sm_R_set hR h0 hB ?_ z oq) hl
  show H1[a]? = some (vp_cell _ _)
  rw [e9]
  rw [vp_cell_q, vp_cell_q, arrV_store]
  congr 2
  funext q
  by_cases hq : q = i.toNatClampNeg
  · subst hq
    simp [updV, va_up, va_rf]
  · simp [updV, va_up, hq]
theorem sv_aastore6 {a n v : Nat} {vs : List Value} {f : Nat → Option Nat} {i : Int32} (hd : decode M.2.1 pc = .ok (.aastore, 1)) (he : h a = some (sm_ar G 6 n f)) (hv : h v = some (.inr (0, vs))) (hv0 : vs ≠ []) (hin : vp_in i n) (kk : sm_V G M R Z cells slots (pc + 1) lv st (sm_up h a (sm_ar G 6 n (va_up f i.toNatClampNeg (some v))))) : sm_V G M R Z cells slots pc lv (.ref v :: .int i :: .ref a :: st) h := by
  intro p e s m args below meth c H locs ls E hS hR hl
  have h0 := sm_R_na hR he
  obtain ⟨hB, hat⟩ := sm_R_at hR he h0
  obtain ⟨v0, vr, rfl⟩ : ∃ v0 vr, vs = v0 :: vr := by cases vs with | nil => exact absurd rfl hv0 | cons x y => exact ⟨x, y, rfl⟩
  obtain ⟨-, hatv⟩ := sm_R_at hR hv (sm_R_ne (k := 0) hR hv rfl)
  have hlt : i.toNatClampNeg < n := Nat.not_le.mp fun q => hin (Or.inr q)
  have hi0 : ¬ i < 0 := fun q => hin (Or.inl q)
  have hK := E.2.2.2.2.2.2.2.2.1.1
  obtain ⟨r', hr', cellV, g1, g2, g3, -⟩ := hatv
  have hcls := (hK.1 0 _ rfl).2
  obtain ⟨kA, comp, k1, k2, k3, -⟩ := (hK.2 6 _ rfl).2
  have hcomp : comp = G.2.1.1 0 := Option.some.inj (k3.symm.trans hcls.1)
  subst hcomp
  obtain ⟨kC, hkC, -⟩ := hcls.2
  refine W.aast E.1 E.2.1 hat (fun q h => by cases h) (fun h => by cases h) k1 k2 rfl hkC ⟨hi0, by show _ < (arrV _ _ _).slots.size; rw [arrV_size]; exact hlt⟩ g1 (fun q h => by rw [g3] at h; cases h) (by rw [g2]; exact hkC) (by rw [g2]; exact va_assign hcls) rfl rfl hd fun H1 e9 z oq => ?_
  refine kk p e s m args below meth c H1 _ ls E (hS.put z oq hB) (sm_R_set hR h0 hB ?_ z oq) hl
  show H1[a]? = some (vp_cell _ _)
  rw [e9]
  rw [vp_cell_q, vp_cell_q, arrV_store]
  congr 2
  funext q
  by_cases hq : q = i.toNatClampNeg
  · subst hq
    simp [updV, va_up, va_rf]
  · simp [updV, va_up, hq]
theorem sv_new {ci index n : Nat} {C : String} {T : u_T} {N : Nat} {ty : Nat → FieldType} (fs : List Value) (hC : sm_cl ci C T N ty) (hd : decode M.2.1 pc = .ok (.new index, 3)) (w1 : Cond.classLink M.1.cls index C ∈ sm_tbl) (w2 : Cond.instantiable C N ∈ sm_tbl) (w3 : Cond.initialized C ∈ sm_tbl) (hfs : ∀ j, j < N → defaultValue (ty j) = vp_V fs j) (hc : cells + 1 ≤ R.cells) (hs : slots + N ≤ R.slots) (hn : h 0 = some (.inr (n, []))) (kk : sm_V G M R Z (cells + 1) (slots + N) (pc + 3) lv (.ref n :: st) (sm_nw h n (.inr (ci, fs)))) : sm_V G M R Z cells slots pc lv st h := by
  intro p e s m args below meth c H locs ls E hS hR hl
  have hts := E.2.2.2.2.2.1
  have hK := E.2.2.2.2.2.2.2.2.1
  have hKn := hK.1.1 ci _ hC.1
  have hz := sm_R_size hR hn
  have hB : sm_B G ≤ n := by rw [← hz]; exact Nat.le_trans E.2.2.2.2.2.2.2.2.2.1 hS.1
  have hB0 : 0 < sm_B G := hK.2.2.2.2.2.2.2.2.2
  refine W.newcK E.1 E.2.1 E.2.2.2.2.1 (hts _ w1) (hts _ w2) (hts _ w3) rfl hd hc hs hKn.2.1 hz fun H1 kC hkC e1 z1 o1 => ?_
  refine kk p e s m args below meth c H1 locs ls E ⟨Nat.le_trans hS.1 (by omega), fun x h1 h2 => (o1 x (by have := hS.1; omega)).trans (hS.2.1 x h1 h2), hS.2.2⟩ (sm_R_new hR hn (by omega) hB ⟨_, hC.1, (u_born ty hts hC.2.1 hKn hkC e1 hC.2.2.1).to hfs⟩ z1 (fun q hq => o1 q (by omega))) hl
theorem sv_newa {at9 : ArrayType} {n N : Nat} {x : Int32} (ty : FieldType) (k9 : Nat) (e0 : va_E) (hd : decode M.2.1 pc = .ok (.newarray at9, 2)) (hty : newarray.typeOf at9 = ty) (hk9 : (sm_tys G)[k9]? = some (sm_c G k9, ty)) (w1 : Cond.arrayClass (newarray.typeOf at9) ∈ sm_tbl) (hx : ¬ x < 0) (hN : x.toNatClampNeg = N) (hb : N * componentBytes ty ≤ 536870912) (he0 : ∀ H : Heap, H[n]? = some (arrV (sm_c G k9) N (fun _ => defaultValue ty)) → va_at G.2.1 vwCl (n, e0) H) (hc : cells + 1 ≤ R.cells) (hs : slots + N ≤ R.slots) (hn : h 0 = some (.inr (n, []))) (hfind : ∀ U : State, ∀ cA : ClassId, va_RA U cA ty → U.vm.findClass ("[" ++ ty.toString) = some cA) (kk : sm_V G M R Z (cells + 1) (slots + N) (pc + 2) lv (.ref n :: st) (sm_nw h n e0)) : sm_V G M R Z cells slots pc lv (.int x :: st) h := by
  subst hty
  intro p e s m args below meth c H locs ls E hS hR hl
  have hts := E.2.2.2.2.2.1
  have hK := E.2.2.2.2.2.2.2.2.1
  have hz := sm_R_size hR hn
  have hB : sm_B G ≤ n := by rw [← hz]; exact Nat.le_trans E.2.2.2.2.2.2.2.2.2.1 hS.1
  have hB0 : 0 < sm_B G := hK.2.2.2.2.2.2.2.2.2
  refine va_newaK E.1 E.2.1 (hts _ w1) rfl hd rfl hx hN hb hc hs hz fun H1 cA e1 z1 o1 hAr hNm => ?_
  have hcA : cA = sm_c G k9 := Option.some.inj (hNm.symm.trans (hfind _ _ (hK.1.2 k9 _ hk9).2))
  subst hcA
  refine kk p e s m args below meth c H1 locs ls E ⟨Nat.le_trans hS.1 (by omega), fun x h1 h2 => (o1 x (by have := hS.1; omega)).trans (hS.2.1 x h1 h2), hS.2.2⟩ (sm_R_new hR hn (by omega) hB (he0 H1 e1) z1 (fun q hq => o1 q (by omega))) hl
theorem sv_newq {index n N : Nat} {x : Int32} (C : String) (k9 : Nat) (hd : decode M.2.1 pc = .ok (.anewarray index, 3)) (w1 : Cond.classLink M.1.cls index C ∈ sm_tbl) (hAO : C ∈ [RX3, RX2, RX0]) (hk9 : (sm_tys G)[k9]? = some (sm_c G k9, .object C)) (hx : ¬ x < 0) (hN : x.toNatClampNeg = N) (hb : N * 4 ≤ 536870912) (hc : cells + 1 ≤ R.cells) (hs : slots + N ≤ R.slots) (hn : h 0 = some (.inr (n, []))) (kk : sm_V G M R Z (cells + 1) (slots + N) (pc + 3) lv (.ref n :: st) (sm_nw h n (sm_ar G k9 N (fun _ => none)))) : sm_V G M R Z cells slots pc lv (.int x :: st) h := by
  subst hN
  intro p e s m args below meth c H locs ls E hS hR hl
  have hts := E.2.2.2.2.2.1
  have hK := E.2.2.2.2.2.2.2.2.1
  have hz := sm_R_size hR hn
  have hB : sm_B G ≤ n := by rw [← hz]; exact Nat.le_trans E.2.2.2.2.2.2.2.2.2.1 hS.1
  have hB0 : 0 < sm_B G := hK.2.2.2.2.2.2.2.2.2
  refine W.anew E.1 E.2.1 E.2.2.2.2.1 (hts _ w1) (va_AO.use (hK.2.2.2.2.2.2.2.1 C hAO)) rfl hd rfl hx hb hc hs fun cA kA comp f1 f2 f3 f4 => ?_
  generalize hH1 : H.push ({ cls := cA, slots := Array.replicate x.toNatClampNeg .null, vm := .none } : Cell) = H1
  have z1 : H1.size = H.size + 1 := by rw [← hH1, Array.size_push]
  have e1 : H1[H.size]? = some (arrV cA x.toNatClampNeg (fun _ => .null)) := by rw [← hH1, Array.getElem?_push_size, ← arrV_new]
  have o1 : ∀ q : Nat, q < H.size → H1[q]? = H[q]? := fun q hq => by rw [← hH1, Array.getElem?_push, if_neg (Nat.ne_of_lt hq)]
  obtain ⟨kA', comp', j1, j2, j3, j4⟩ := (hK.1.2 k9 _ hk9).2
  have hcA : cA = sm_c G k9 := Option.some.inj (f1.symm.trans j4)
  subst hcA
  rw [hz] at e1 z1 ⊢
  refine kk p e s m args below meth c H1 locs ls E ⟨Nat.le_trans hS.1 (by omega), fun x h1 h2 => (o1 x (by have := hS.1; omega)).trans (hS.2.1 x h1 h2), hS.2.2⟩ (sm_R_new hR hn (by omega) hB e1 (by omega) (fun q hq => o1 q hq)) hl
theorem sv_objInit {idx a : Nat} (hd : decode M.2.1 pc = .ok (.invokespecial idx, 3)) (w1 : Cond.methodLink M.1.cls idx Lib.objectInit ∈ sm_tbl) (w2 : Cond.instanceMethod Lib.objectInit ∈ sm_tbl) (w3 : Cond.code Lib.objectInit ⟨#[0xb1]⟩ 1 none ∈ sm_tbl) (hf : 1 ≤ R.frames) (hlo : (st.map fun v => v.category).sum + 12 ≤ R.locals) (k : sm_V G M R Z cells slots (pc + 3) lv st h) : sm_V G M R Z cells slots pc lv (.ref a :: st) h := by
  intro p e s m args below meth c H locs ls E hS hR hl
  have hts := E.2.2.2.2.2.1
  exact W.objInit E.1 E.2.1 E.2.2.2.2.1 (hts _ w1) (hts _ w2) (hts _ w3) rfl (hl.1.trans E.2.2.2.1.symm) rfl hd hf (by show 2 * 0 + _ + 12 ≤ R.locals; omega) (k p e s m args below meth c H locs ls E hS hR hl)
theorem sv_gets {index : Nat} (i : Nat) {q : String × List Int32} (hi : sm_sts[i]? = some q) (hd : decode M.2.1 pc = .ok (.getstatic index, 3)) (w1 : Cond.fieldLink M.1.cls index RX5 q.1 "[I" ∈ sm_tbl) (k : sm_V G M R Z cells slots (pc + 3) lv (.ref (sm_sa G i) :: st) h) : sm_V G M R Z cells slots pc lv st h := by
  intro p e s m args below meth c H locs ls E hS hR hl
  exact va_gets E.1 E.2.1 (E.2.2.2.2.2.2.2.2.1.2.2.2.1 i q hi).1 hS E.2.2.2.2.1 (E.2.2.2.2.2.1 _ w1) (fun _ z => z) hd (k p e s m args below meth c H locs ls E hS hR hl)
theorem sv_getsN {index : Nat} (i : Nat) {q : String × List Int32} (hi : sm_sts[i]? = some q) (hd : decode M.2.1 pc = .ok (.getstatic index, 3)) (w1 : Cond.fieldLinkNest M.1.cls index RX5 q.1 "[I" RX5 ∈ sm_nest) (k : sm_V G M R Z cells slots (pc + 3) lv (.ref (sm_sa G i) :: st) h) : sm_V G M R Z cells slots pc lv st h := by
  intro p e s m args below meth c H locs ls E hS hR hl
  exact va_getsN E.1 E.2.1 (E.2.2.2.2.2.2.2.2.1.2.2.2.1 i q hi).1 hS E.2.2.2.2.1 (va_Nw.use rfl (E.2.2.2.2.2.2.2.2.1.2.1 _ w1)) (fun _ z => z) hd (k p e s m args below meth c H locs ls E hS hR hl)
theorem sv_sald (i : Nat) {q : String × List Int32} (hi : sm_sts[i]? = some q) {x v : Int32} (hd : decode M.2.1 pc = .ok (.iaload, 1)) (hin : vp_in x q.2.length) (hv : q.2.getD x.toNatClampNeg 0 = v) (k : sm_V G M R Z cells slots (pc + 1) lv (.int v :: st) h) : sm_V G M R Z cells slots pc lv (.int x :: .ref (sm_sa G i) :: st) h := by
  intro p e s m args below meth c H locs ls E hS hR hl
  exact va_ti E.1 E.2.1 (E.2.2.2.2.2.2.2.2.1.2.2.2.1 i q hi).2 hS hin (by rw [hv]) hd (k p e s m args below meth c H locs ls E hS hR hl)
theorem sv_slen (i : Nat) {q : String × List Int32} (hi : sm_sts[i]? = some q) {v : Int32} (hd : decode M.2.1 pc = .ok (.arraylength, 1)) (hv : Int32.ofNat q.2.length = v) (k : sm_V G M R Z cells slots (pc + 1) lv (.int v :: st) h) : sm_V G M R Z cells slots pc lv (.ref (sm_sa G i) :: st) h := by
  intro p e s m args below meth c H locs ls E hS hR hl
  exact va_tlen E.1 E.2.1 (E.2.2.2.2.2.2.2.2.1.2.2.2.1 i q hi).2 hS hv hd (k p e s m args below meth c H locs ls E hS hR hl)
end SVA
end
section
section SCA
variable {G : sm_G} {M : sm_M} {R : Room} {Z : sm_Z} {Q Q2 : sm_Q} {mc ms : Nat} {cells slots pc : Nat} {lv lv' : List (Nat × Value)} {st rest : List Value} {h h' : sm_H}
variable {y2 : MethodName} {cc2 : ByteArray} {nL2 : Nat} {ret2 : Option FieldType} {hh2 : List (Nat × Nat × Nat × Nat)} {d2 mc2 ms2 idx n b : Nat} {As : List Value} {v : Option Value}
abbrev sm_Pc (G : sm_G) (As : List Value) (h : sm_H) : Array Value → State → Prop := va_Pc As (fun U => sm_K G U ∧ sm_B G ≤ U.heap.size ∧ sm_R G h U.heap)
theorem sm_blind : FrameBlind (sm_Pc G As h) := fun a U g mk q => ⟨q.1, sm_K_go (s := U) (T := U.calling g mk a) (H := U.heap) (locs := []) q.2.1 (State.WarmedH.refl U) rfl va_S.rf, q.2.2.1, q.2.2.2⟩
theorem sm_pre {p : Program} {s : State} {m : MethodId} {args : Array Value} {meth : Method} {c : Code} {H : Heap} {locs : List Loc} (E : sm_E G M p s m args meth c) (hS : va_S (sm_A G) s.heap H locs) (hR : sm_R G h H) : ∀ U : State, U.heap = H → s.WarmedH U.vm → sm_Pc G As h As.toArray U :=
  fun U hU hW => ⟨rfl, sm_K_go E.2.2.2.2.2.2.2.2.1 hW hU hS, by rw [hU]; exact Nat.le_trans E.2.2.2.2.2.2.2.2.2.1 hS.1, by rw [hU]; exact hR⟩
theorem sm_met (hy : plainName y2.cls = true) (hlen : (lg_sl As).length ≤ nL2) (hc : sm_C G (y2, cc2, nL2, ret2, []) d2 mc2 ms2 As h Q2) : vx_Met G.1 y2 (sm_ws (y2, cc2, nL2, ret2, [])) (sm_rm d2 mc2 ms2) (sm_Pc G As h) (sm_Qc G Q2) (sm_XC G Q2) mc2 ms2 (sm_A G) := by
  refine vx_ofW (cc := cc2) (maxL := nL2) (ret := ret2) hy rfl ?_
  intro p e s m args below meth c s₁ B hml ht hv
  obtain ⟨rfl, hK, hB, hR⟩ := hv
  have hts := atoms_spec (ws := sm_ws (y2, cc2, nL2, ret2, [])) B.pre
  have E : sm_E G (y2, cc2, nL2, ret2, []) p s m As.toArray meth c := ⟨B.exec, B.bytes, B.returns, hml, findClass_of_methodNamed B.named, fun w hw => hts w (List.mem_cons_of_mem _ hw), B.notSynchronized, List.eq_nil_iff_forall_not_mem.mpr ht, hK, hB, (name_of_methodNamed B.named B.method).1⟩
  rw [lg_entry_eq]
  exact hc p e s m _ below meth c s.heap [] _ E va_S.rf hR (lv_entry As hlen)
theorem sm_metH {q : Nat × Nat × Nat × Nat} (hy : plainName y2.cls = true) (hlen : (lg_sl As).length ≤ nL2) (hc : sm_C G (y2, cc2, nL2, ret2, q :: hh2) d2 mc2 ms2 As h Q2) : vx_Met G.1 y2 (sm_ws (y2, cc2, nL2, ret2, q :: hh2)) (sm_rm d2 mc2 ms2) (sm_Pc G As h) (sm_Qc G Q2) (sm_XC G Q2) mc2 ms2 (sm_A G) := by
  refine vx_ofWH (cc := cc2) (maxL := nL2) (ret := ret2) (hh := q :: hh2) hy rfl ?_
  intro p e s m args below meth c s₁ B hml hv
  obtain ⟨rfl, hK, hB, hR⟩ := hv
  have hts := atoms_spec (ws := sm_ws (y2, cc2, nL2, ret2, q :: hh2)) B.pre
  have E : sm_E G (y2, cc2, nL2, ret2, q :: hh2) p s m As.toArray meth c := ⟨B.exec, B.bytes, B.returns, hml, findClass_of_methodNamed B.named, fun w hw => hts w (List.mem_cons_of_mem _ hw), B.notSynchronized, vx_table (x := y2) B (hts _ List.mem_cons_self), hK, hB, (name_of_methodNamed B.named B.method).1⟩
  rw [lg_entry_eq]
  exact hc p e s m _ below meth c s.heap [] _ E va_S.rf hR (lv_entry As hlen)
/-- a callee that throws nothing -/
theorem sm_metN {l : Launch} {y : MethodName} {ws : List Cond} {rm : Room} {Pc : Array Value → State → Prop} {Qc : Array Value → State → Outcome → State → Prop} {XC : String → State → State → Prop} {mc ms : Nat} {free : Addr → Prop} (hM : vx_Met l y ws rm Pc Qc XC mc ms free) (hx : ∀ E a b, ¬ XC E a b) : Met l y ws rm Pc Qc mc ms free := by
  intro p e ha hc hk s m args below hf happ hp hK
  obtain ⟨n, o, h1, h2, h3, hQ⟩ := hM p e ha hc hk s m args below hf happ hp hK
  refine ⟨n, o, h1, h2, h3, ?_⟩
  rcases hQ with hQ | ⟨q, -, E, ce, L, hX, -⟩
  · exact hQ
  · exact absurd hX (hx _ _ _)
theorem sm_good (hw : sm_hd M ∈ sm_tbl) (pre : List Cond) (hp : ∀ w ∈ pre, w ∈ sm_tbl) : GoodIn sm_tbl (pre ++ sm_ws M) := by
  intro w h9
  have hi : w ∈ sm_tbl := by
    rcases List.mem_append.mp h9 with h9 | h9
    · exact hp w h9
    · rcases List.mem_cons.mp h9 with h9 | h9
      · rw [h9]; exact hw
      · exact h9
  exact ⟨hi, sm_tbl_good w hi⟩
/-- behind a call -/
theorem sm_cont {p : Program} {e : Env} {s : State} {m : MethodId} {args : Array Value} {below : List Frame} {meth : Method} {c : Code} {H : Heap} {locs : List Loc} {ls : Array Slot} {a : Array Value} (E : sm_E G M p s m args meth c) (hS : va_S (sm_A G) s.heap H locs) (hl : lv_has ls M.2.2.1 lv)
    (hr : vx_Run p G.1 e R s m args below meth c H locs cells slots mc2 ms2 (F0 m pc ls st) rest (sm_Qc G Q2 a) (sm_XC G Q2) (sm_A G))
    (kk : ∀ v h', Q2 (.inl v) h' → sm_V G M R Z (cells + mc2) (slots + ms2) (pc + 3) lv (v.toList ++ rest) h') (kx : ∀ E h', Q2 (.inr E) h' → sm_VX G M R Z (cells + mc2) (slots + ms2) pc lv E h') :
    W p G.1 e R s m args below meth c H locs cells slots (Z below args s) (F0 m pc ls st) := by
  intro T hT X
  rcases hr T hT X with ⟨v, st₀, t, T', L, h0, X', hL, e1, e2, ⟨⟨v', h', hv, hq, hR'⟩, hF⟩, st1⟩ | ⟨q, st₀, t, T', L, E9, ce, h0, X', hL, e1, e2, ⟨⟨h', hq, hR'⟩, hF⟩, hce, hcv, hcl, st1⟩
  · cases hv
    obtain ⟨k1, k2, k3⟩ := vx_keep h0 e1 hS (fun q _ h => h) (fun q h => h) hL hF
    obtain ⟨t2, a1, b1⟩ := kk v h' hq p e s m args below meth c T'.heap (locs ++ L) ls E k3 (by rw [e1]; exact hR') hl T' rfl X'
    exact ⟨t2, st1 t2 a1, b1⟩
  · obtain ⟨k1, k2, k3⟩ := vx_keep h0 e1 hS (fun q _ h => h) (fun q h => h) hL hF
    obtain ⟨t2, a1, b1⟩ := kx E9 h' hq p e s m args below meth c T'.heap (locs ++ L) ls q ce rest E k3 (by rw [e1]; exact hR') hl (by rw [e1]; exact hce) hcv hcl T' rfl X'
    exact ⟨t2, st1.trans a1, b1⟩
theorem sm_contN {p : Program} {e : Env} {s : State} {m : MethodId} {args : Array Value} {below : List Frame} {meth : Method} {c : Code} {H : Heap} {locs : List Loc} {ls : Array Slot} {a : Array Value} (E : sm_E G M p s m args meth c) (hS : va_S (sm_A G) s.heap H locs) (hl : lv_has ls M.2.2.1 lv)
    (hr : va_Run p G.1 e R s m args below meth c H locs cells slots mc2 ms2 (F0 m pc ls st) rest (sm_Qc G Q2 a) (sm_A G))
    (kk : ∀ v h', Q2 (.inl v) h' → sm_V G M R Z (cells + mc2) (slots + ms2) (pc + 3) lv (v.toList ++ rest) h') :
    W p G.1 e R s m args below meth c H locs cells slots (Z below args s) (F0 m pc ls st) := by
  intro T hT X
  obtain ⟨v, st₀, t, T', L, h0, X', hL, e1, e2, ⟨⟨v', h', hv, hq, hR'⟩, hF⟩, st1⟩ := hr T hT X
  cases hv
  obtain ⟨k1, k2, k3⟩ := vx_keep h0 e1 hS (fun q _ h => h) (fun q h => h) hL hF
  obtain ⟨t2, a1, b1⟩ := kk v h' hq p e s m args below meth c T'.heap (locs ++ L) ls E k3 (by rw [e1]; exact hR') hl T' rfl X'
  exact ⟨t2, st1 t2 a1, b1⟩
abbrev sm_CF {p : Program} {s : State} {m : MethodId} {args : Array Value} {meth : Method} {c : Code} (E : sm_E G M p s m args meth c) : CallFix p m c M.2.1 M.2.2.1 s args sm_tbl M.1.cls := ⟨E.1, E.2.1, E.2.2.2.1, E.2.2.2.2.1, E.2.2.2.2.2.1⟩
def sm_sV (own : String) (idx : Nat) (M2 : sm_M) (n : Nat) : Prop := sm_hd M2 ∈ sm_tbl ∧ Cond.methodLink own idx M2.1 ∈ sm_tbl ∧ Cond.instanceMethod M2.1 ∈ sm_tbl ∧ Cond.selects M2.1.cls M2.1 M2.1 ∈ sm_tbl ∧ Cond.initialized M2.1.cls ∈ sm_tbl ∧ plainName M2.1.cls = true ∧ (M2.1.cls ≠ "java/lang/invoke/MethodHandle" ∧ M2.1.cls ≠ "java/lang/invoke/VarHandle" ∧ (parseMethodDescriptor M2.1.desc).map (fun d => d.parameters.length) = some n)
def sm_sS (own : String) (idx : Nat) (M2 : sm_M) (n : Nat) : Prop := sm_hd M2 ∈ sm_tbl ∧ Cond.methodLink own idx M2.1 ∈ sm_tbl ∧ Cond.static M2.1 ∈ sm_tbl ∧ Cond.initialized M2.1.cls ∈ sm_tbl ∧ plainName M2.1.cls = true ∧ (M2.1.cls ≠ "java/lang/invoke/MethodHandle" ∧ M2.1.cls ≠ "java/lang/invoke/VarHandle" ∧ (parseMethodDescriptor M2.1.desc).map (fun d => d.parameters.length) = some n)
def sm_sSN (own : String) (idx : Nat) (M2 : sm_M) (n : Nat) : Prop := sm_hd M2 ∈ sm_tbl ∧ Cond.methodLinkNest own idx M2.1 RX5 ∈ sm_nest ∧ Cond.static M2.1 ∈ sm_tbl ∧ Cond.initialized M2.1.cls ∈ sm_tbl ∧ plainName M2.1.cls = true ∧ (M2.1.cls ≠ "java/lang/invoke/MethodHandle" ∧ M2.1.cls ≠ "java/lang/invoke/VarHandle" ∧ (parseMethodDescriptor M2.1.desc).map (fun d => d.parameters.length) = some n)
def sm_sI (own : String) (idx : Nat) (M2 : sm_M) (n : Nat) : Prop := sm_hd M2 ∈ sm_tbl ∧ Cond.methodLink own idx M2.1 ∈ sm_tbl ∧ Cond.instanceMethod M2.1 ∈ sm_tbl ∧ M2.1.name = "<init>" ∧ Cond.initialized M2.1.cls ∈ sm_tbl ∧ plainName M2.1.cls = true ∧ (M2.1.cls ≠ "java/lang/invoke/MethodHandle" ∧ M2.1.cls ≠ "java/lang/invoke/VarHandle" ∧ (parseMethodDescriptor M2.1.desc).map (fun d => d.parameters.length) = some n)
def sm_sIN (own : String) (idx : Nat) (M2 : sm_M) (n : Nat) : Prop := sm_hd M2 ∈ sm_tbl ∧ Cond.methodLinkNest own idx M2.1 RX5 ∈ sm_nest ∧ Cond.instanceMethod M2.1 ∈ sm_tbl ∧ M2.1.name = "<init>" ∧ Cond.initialized M2.1.cls ∈ sm_tbl ∧ plainName M2.1.cls = true ∧ (M2.1.cls ≠ "java/lang/invoke/MethodHandle" ∧ M2.1.cls ≠ "java/lang/invoke/VarHandle" ∧ (parseMethodDescriptor M2.1.desc).map (fun d => d.parameters.length) = some n)
theorem sv_invV {ci : Nat} {fs : List Value} {T : u_T} {N : Nat} (hs : sm_sV M.1.cls idx (y2, cc2, nL2, ret2, []) n) (hc : sm_C G (y2, cc2, nL2, ret2, []) d2 mc2 ms2 (.ref b :: As) h Q2) (hst : st = As.reverse ++ .ref b :: rest) (hn : As.length = n) (hlen : (lg_sl (.ref b :: As)).length ≤ nL2) (hd : decode M.2.1 pc = .ok (.invokevirtual idx, 3)) (hRm : d2 + 1 ≤ R.frames ∧ 8 + (nL2 + 11) + 30 * d2 ≤ R.locals) (hcs : cells + mc2 ≤ R.cells ∧ slots + ms2 ≤ R.slots) (hcat : (rest.map fun v => v.category).sum ≤ 8)
    (hb : h b = some (.inr (ci, fs))) (hf : fs ≠ []) (hci : vwCl[ci]? = some (y2.cls, T, N))
    (kk : ∀ v h', Q2 (.inl v) h' → sm_V G M R Z (cells + mc2) (slots + ms2) (pc + 3) lv (v.toList ++ rest) h') (kx : ∀ E h', Q2 (.inr E) h' → sm_VX G M R Z (cells + mc2) (slots + ms2) pc lv E h') : sm_V G M R Z cells slots pc lv st h := by
  intro p e s m args below meth c H locs ls E hS hR hl
  obtain ⟨w0, w1, w2, w3, w4, hy, hy2⟩ := hs
  obtain ⟨v0, vr, rfl⟩ : ∃ v0 vr, fs = v0 :: vr := by cases fs with | nil => exact absurd rfl hf | cons x y => exact ⟨x, y, rfl⟩
  obtain ⟨hB, hat⟩ := sm_R_at hR hb (sm_R_ne (k := 0) hR hb rfl)
  have cw := cwV (C := y2.cls) (own := M.1.cls) (index := idx) (R := R) (args := args) (s := s) n E.2.2.2.2.2.1 (sm_good w0 [.methodLink M.1.cls idx y2, .instanceMethod y2, .selects y2.cls y2 y2, .initialized y2.cls] (by intro w hw; simp only [List.mem_cons, List.not_mem_nil, or_false] at hw; rcases hw with rfl | rfl | rfl | rfl <;> assumption)) (y := y2) (bytes := cc2) (maxL := nL2) (ret := ret2) (rm := sm_rm d2 mc2 ms2) rfl rfl rfl ⟨rfl, hy2⟩ hRm
  exact sm_cont E hS hl (vx_runV (As := As) (rest := rest) (sm_CF E) (sm_met hy hlen hc) cw ⟨sm_blind, va_recv E.2.2.2.2.2.2.2.2.1.1 (sm_P1 hat) hci (q0 := 0) rfl, sm_pre E hS hR⟩ rfl hn hl.1 hst (lv_room hcat) hd hcs) kk kx
theorem sv_invS (hs : sm_sS M.1.cls idx (y2, cc2, nL2, ret2, []) n) (hc : sm_C G (y2, cc2, nL2, ret2, []) d2 mc2 ms2 As h Q2) (hst : st = As.reverse ++ rest) (hn : As.length = n) (hlen : (lg_sl As).length ≤ nL2) (hd : decode M.2.1 pc = .ok (.invokestatic idx, 3)) (hRm : d2 + 1 ≤ R.frames ∧ 8 + (nL2 + 11) + 30 * d2 ≤ R.locals) (hcs : cells + mc2 ≤ R.cells ∧ slots + ms2 ≤ R.slots) (hcat : (rest.map fun v => v.category).sum ≤ 8)
    (kk : ∀ v h', Q2 (.inl v) h' → sm_V G M R Z (cells + mc2) (slots + ms2) (pc + 3) lv (v.toList ++ rest) h') (kx : ∀ E h', Q2 (.inr E) h' → sm_VX G M R Z (cells + mc2) (slots + ms2) pc lv E h') : sm_V G M R Z cells slots pc lv st h := by
  intro p e s m args below meth c H locs ls E hS hR hl
  obtain ⟨w0, w1, w2, w4, hy, hy2⟩ := hs
  have cw := va_cwS (own := M.1.cls) (index := idx) (R := R) (args := args) (s := s) n E.2.2.2.2.2.1 (sm_good w0 [.methodLink M.1.cls idx y2, .static y2, .initialized y2.cls] (by intro w hw; simp only [List.mem_cons, List.not_mem_nil, or_false] at hw; rcases hw with rfl | rfl | rfl <;> assumption)) (y := y2) (bytes := cc2) (maxL := nL2) (ret := ret2) (rm := sm_rm d2 mc2 ms2) rfl rfl rfl hy2 hRm
  exact sm_cont E hS hl (vx_runS (As := As) (rest := rest) (sm_CF E) (sm_met hy hlen hc) cw ⟨sm_blind, sm_pre E hS hR⟩ rfl hn hl.1 hst (lv_room hcat) hd hcs) kk kx
theorem sv_invSH {q9 : Nat × Nat × Nat × Nat} (hs : sm_sS M.1.cls idx (y2, cc2, nL2, ret2, q9 :: hh2) n) (hc : sm_C G (y2, cc2, nL2, ret2, q9 :: hh2) d2 mc2 ms2 As h Q2) (hst : st = As.reverse ++ rest) (hn : As.length = n) (hlen : (lg_sl As).length ≤ nL2) (hd : decode M.2.1 pc = .ok (.invokestatic idx, 3)) (hRm : d2 + 1 ≤ R.frames ∧ 8 + (nL2 + 11) + 30 * d2 ≤ R.locals) (hcs : cells + mc2 ≤ R.cells ∧ slots + ms2 ≤ R.slots) (hcat : (rest.map fun v => v.category).sum ≤ 8)
    (kk : ∀ v h', Q2 (.inl v) h' → sm_V G M R Z (cells + mc2) (slots + ms2) (pc + 3) lv (v.toList ++ rest) h') (kx : ∀ E h', Q2 (.inr E) h' → sm_VX G M R Z (cells + mc2) (slots + ms2) pc lv E h') : sm_V G M R Z cells slots pc lv st h := by
  intro p e s m args below meth c H locs ls E hS hR hl
  obtain ⟨w0, w1, w2, w4, hy, hy2⟩ := hs
  have cw := vx_cwSW (hh := q9 :: hh2) (own := M.1.cls) (index := idx) (R := R) (args := args) (s := s) n E.2.2.2.2.2.1 (sm_good w0 [.methodLink M.1.cls idx y2, .static y2, .initialized y2.cls] (by intro w hw; simp only [List.mem_cons, List.not_mem_nil, or_false] at hw; rcases hw with rfl | rfl | rfl <;> assumption)) (y := y2) (bytes := cc2) (maxL := nL2) (ret := ret2) (rm := sm_rm d2 mc2 ms2) rfl rfl rfl hy2 hRm
  exact sm_cont E hS hl (vx_runSX (As := As) (rest := rest) (sm_CF E) (sm_metH hy hlen hc) cw ⟨sm_blind, sm_pre E hS hR⟩ rfl hn hl.1 hst (lv_room hcat) hd hcs) kk kx
theorem sm_noX {Q2 : sm_Q} (hx : ∀ E h', ¬ Q2 (.inr E) h') : ∀ E a b, ¬ sm_XC G Q2 E a b := fun E a b q => by obtain ⟨⟨h', hq, -⟩, -⟩ := q; exact hx _ _ hq
theorem sv_invSN (hs : sm_sSN M.1.cls idx (y2, cc2, nL2, ret2, []) n) (hc : sm_C G (y2, cc2, nL2, ret2, []) d2 mc2 ms2 As h Q2) (hst : st = As.reverse ++ rest) (hn : As.length = n) (hlen : (lg_sl As).length ≤ nL2) (hd : decode M.2.1 pc = .ok (.invokestatic idx, 3)) (hRm : d2 + 1 ≤ R.frames ∧ 8 + (nL2 + 11) + 30 * d2 ≤ R.locals) (hcs : cells + mc2 ≤ R.cells ∧ slots + ms2 ≤ R.slots) (hcat : (rest.map fun v => v.category).sum ≤ 8) (hx : ∀ E h', ¬ Q2 (.inr E) h')
    (kk : ∀ v h', Q2 (.inl v) h' → sm_V G M R Z (cells + mc2) (slots + ms2) (pc + 3) lv (v.toList ++ rest) h') : sm_V G M R Z cells slots pc lv st h := by
  intro p e s m args below meth c H locs ls E hS hR hl
  obtain ⟨w0, w1, w2, w4, hy, hy2⟩ := hs
  have hts := E.2.2.2.2.2.1
  have cw := va_cnB (own := M.1.cls) (host := RX5) (index := idx) (R := R) (args := args) (s := s) n hts (sm_good w0 [] (by intro w hw; cases hw)) (y := y2) (bytes := cc2) (maxL := nL2) (ret := ret2) (rm := sm_rm d2 mc2 ms2) rfl rfl rfl (E.2.2.2.2.2.2.2.2.1.2.1 _ w1) (hts _ w4) hy2 hRm
  exact sm_contN E hS hl (va_runSN (As := As) (rest := rest) (sm_CF E) (sm_metN (sm_met hy hlen hc) (sm_noX hx)) ⟨cw, hts _ w2, trivial⟩ ⟨sm_blind, sm_pre E hS hR⟩ rfl hn hl.1 hst (lv_room hcat) hd hcs) kk
theorem sv_invI (hs : sm_sI M.1.cls idx (y2, cc2, nL2, none, []) n) (hc : sm_C G (y2, cc2, nL2, none, []) d2 mc2 ms2 (.ref b :: As) h Q2) (hst : st = As.reverse ++ .ref b :: rest) (hn : As.length = n) (hlen : (lg_sl (.ref b :: As)).length ≤ nL2) (hd : decode M.2.1 pc = .ok (.invokespecial idx, 3)) (hRm : d2 + 1 ≤ R.frames ∧ 8 + (nL2 + 11) + 30 * d2 ≤ R.locals) (hcs : cells + mc2 ≤ R.cells ∧ slots + ms2 ≤ R.slots) (hcat : (rest.map fun v => v.category).sum ≤ 8) (hx : ∀ E h', ¬ Q2 (.inr E) h')
    (kk : ∀ v h', Q2 (.inl v) h' → sm_V G M R Z (cells + mc2) (slots + ms2) (pc + 3) lv (v.toList ++ rest) h') : sm_V G M R Z cells slots pc lv st h := by
  intro p e s m args below meth c H locs ls E hS hR hl
  obtain ⟨w0, w1, w2, w3, w4, hy, hy2⟩ := hs
  have hts := E.2.2.2.2.2.1
  have cw := cwI (own := M.1.cls) (index := idx) (R := R) (args := args) (s := s) n hts (sm_good w0 [] (by intro w hw; cases hw)) (y := y2) (bytes := cc2) (maxL := nL2) (rm := sm_rm d2 mc2 ms2) rfl rfl rfl (hts _ w4) (hts _ w1) (hts _ w2) w3 hy2 hRm
  exact sm_contN E hS hl (va_runI (As := As) (rest := rest) (sm_CF E) (sm_metN (sm_met hy hlen hc) (sm_noX hx)) cw ⟨sm_blind, sm_pre E hS hR⟩ rfl hn hl.1 hst (lv_room hcat) hd hcs) kk
theorem sv_invIN (hs : sm_sIN M.1.cls idx (y2, cc2, nL2, none, []) n) (hc : sm_C G (y2, cc2, nL2, none, []) d2 mc2 ms2 (.ref b :: As) h Q2) (hst : st = As.reverse ++ .ref b :: rest) (hn : As.length = n) (hlen : (lg_sl (.ref b :: As)).length ≤ nL2) (hd : decode M.2.1 pc = .ok (.invokespecial idx, 3)) (hRm : d2 + 1 ≤ R.frames ∧ 8 + (nL2 + 11) + 30 * d2 ≤ R.locals) (hcs : cells + mc2 ≤ R.cells ∧ slots + ms2 ≤ R.slots) (hcat : (rest.map fun v => v.category).sum ≤ 8) (hx : ∀ E h', ¬ Q2 (.inr E) h')
    (kk : ∀ v h', Q2 (.inl v) h' → sm_V G M R Z (cells + mc2) (slots + ms2) (pc + 3) lv (v.toList ++ rest) h') : sm_V G M R Z cells slots pc lv st h := by
  intro p e s m args below meth c H locs ls E hS hR hl
  obtain ⟨w0, w1, w2, w3, w4, hy, hy2⟩ := hs
  have hts := E.2.2.2.2.2.1
  have cw := va_cnB (own := M.1.cls) (host := RX5) (index := idx) (R := R) (args := args) (s := s) n hts (sm_good w0 [] (by intro w hw; cases hw)) (y := y2) (bytes := cc2) (maxL := nL2) (ret := none) (rm := sm_rm d2 mc2 ms2) rfl rfl rfl (E.2.2.2.2.2.2.2.2.1.2.1 _ w1) (hts _ w4) hy2 hRm
  exact sm_contN E hS hl (va_runIN (As := As) (rest := rest) (sm_CF E) (sm_metN (sm_met hy hlen hc) (sm_noX hx)) ⟨cw, w3, hts _ w2⟩ ⟨sm_blind, sm_pre E hS hR⟩ rfl hn hl.1 hst (lv_room hcat) hd hcs) kk
/-! calls whose end is one value and one heap -/
theorem sv_callV {ci : Nat} {fs : List Value} {T : u_T} {N : Nat} (hs : sm_sV M.1.cls idx (y2, cc2, nL2, ret2, []) n) (hc : sm_F G (y2, cc2, nL2, ret2, []) d2 (.ref b :: As) h (.inl v) h') (hst : st = As.reverse ++ .ref b :: rest) (hn : As.length = n) (hlen : (lg_sl (.ref b :: As)).length ≤ nL2) (hd : decode M.2.1 pc = .ok (.invokevirtual idx, 3)) (hRm : d2 + 1 ≤ R.frames ∧ 8 + (nL2 + 11) + 30 * d2 ≤ R.locals) (hcs : cells ≤ R.cells ∧ slots ≤ R.slots) (hcat : (rest.map fun v => v.category).sum ≤ 8)
    (hb : h b = some (.inr (ci, fs))) (hf : fs ≠ []) (hci : vwCl[ci]? = some (y2.cls, T, N)) (kk : sm_V G M R Z cells slots (pc + 3) lv (v.toList ++ rest) h') : sm_V G M R Z cells slots pc lv st h :=
  sv_invV hs hc hst hn hlen hd hRm hcs hcat hb hf hci (fun v1 h1 q => by obtain ⟨q1, rfl⟩ := q; cases q1; exact kk) (fun E h1 q => by obtain ⟨q1, -⟩ := q; cases q1)
theorem sv_callS (hs : sm_sS M.1.cls idx (y2, cc2, nL2, ret2, []) n) (hc : sm_F G (y2, cc2, nL2, ret2, []) d2 As h (.inl v) h') (hst : st = As.reverse ++ rest) (hn : As.length = n) (hlen : (lg_sl As).length ≤ nL2) (hd : decode M.2.1 pc = .ok (.invokestatic idx, 3)) (hRm : d2 + 1 ≤ R.frames ∧ 8 + (nL2 + 11) + 30 * d2 ≤ R.locals) (hcs : cells ≤ R.cells ∧ slots ≤ R.slots) (hcat : (rest.map fun v => v.category).sum ≤ 8)
    (kk : sm_V G M R Z cells slots (pc + 3) lv (v.toList ++ rest) h') : sm_V G M R Z cells slots pc lv st h :=
  sv_invS hs hc hst hn hlen hd hRm hcs hcat (fun v1 h1 q => by obtain ⟨q1, rfl⟩ := q; cases q1; exact kk) (fun E h1 q => by obtain ⟨q1, -⟩ := q; cases q1)
theorem sv_callSN (hs : sm_sSN M.1.cls idx (y2, cc2, nL2, ret2, []) n) (hc : sm_F G (y2, cc2, nL2, ret2, []) d2 As h (.inl v) h') (hst : st = As.reverse ++ rest) (hn : As.length = n) (hlen : (lg_sl As).length ≤ nL2) (hd : decode M.2.1 pc = .ok (.invokestatic idx, 3)) (hRm : d2 + 1 ≤ R.frames ∧ 8 + (nL2 + 11) + 30 * d2 ≤ R.locals) (hcs : cells ≤ R.cells ∧ slots ≤ R.slots) (hcat : (rest.map fun v => v.category).sum ≤ 8)
    (kk : sm_V G M R Z cells slots (pc + 3) lv (v.toList ++ rest) h') : sm_V G M R Z cells slots pc lv st h :=
  sv_invSN hs hc hst hn hlen hd hRm hcs hcat (fun E h1 q => by obtain ⟨q1, -⟩ := q; cases q1) (fun v1 h1 q => by obtain ⟨q1, rfl⟩ := q; cases q1; exact kk)
/-! throws -/
def sm_nx : List String := ["java/lang/RuntimeException", "java/lang/Exception"]
def sm_nxd : List Cond := [Cond.declares ⟨"java/lang/RuntimeException", "<init>", "(Ljava/lang/String;)V"⟩, Cond.declares ⟨"java/lang/Exception", "<init>", "(Ljava/lang/String;)V"⟩, Cond.declares ⟨"java/lang/Throwable", "<init>", "(Ljava/lang/String;)V"⟩]
theorem sm_nxd_in : ∀ w ∈ sm_nxd, w ∈ sm_nest := List.forall_mem_cons.mpr ⟨sm_mh ck_1_7_in 26 rfl rfl, List.forall_mem_cons.mpr ⟨sm_mh ck_1_7_in 28 rfl rfl, List.forall_mem_cons.mpr ⟨sm_mh ck_2_0_in 0 rfl rfl, fun _ h => nomatch h⟩⟩⟩
/-- what is known of a class of exceptions, by its place ik in the pool and its constructor's ic -/
def sm_ex (cls : String) (ik ic : Nat) : Prop := Bundle.fit cls = true ∧ (∀ n ∈ sm_nx, Bundle.fit n = true) ∧ Cond.classLink RX5 ik cls ∈ sm_tbl ∧ Cond.initialized cls ∈ sm_tbl ∧ (∀ w ∈ (vx_atS RX5 ic cls sm_nx).filter goodWord, w ∈ lw_tbl) ∧ (∀ w ∈ (vx_atS RX5 ic cls sm_nx).filter (fun w => !goodWord w), w ∈ Cond.castable cls cls :: sm_nxd) ∧ Cond.castable cls cls ∈ sm_nest ∧ ∀ w ∈ Cond.classLink RX5 ik cls :: Cond.initialized cls :: vx_atS RX5 ic cls sm_nx, vx_ot w = true
theorem sv_throw {cls text : String} {ik is ic : Nat} (i : Nat) (hx : sm_ex cls ik ic) (hM : M.1.cls = RX5) (hh : M.2.2.2.2 = []) (hi : sm_strs[i]? = some (is, text))
    (d0 : decode M.2.1 pc = .ok (.new ik, 3)) (d3 : decode M.2.1 (pc + 3) = .ok (.dup, 1)) (d4 : decode M.2.1 (pc + 4) = .ok (.ldc is, 2)) (d6 : decode M.2.1 (pc + 6) = .ok (.invokespecial ic, 3)) (d9 : decode M.2.1 (pc + 9) = .ok (.athrow, 1))
    (hRm : 5 < R.frames ∧ (st.map fun v => v.category).sum + 82 ≤ R.locals) (hcs : cells + 1 ≤ R.cells ∧ slots + 6 ≤ R.slots) (hc : cells + 1 ≤ mc) (hs : slots + 6 ≤ ms) (hq : Q (.inr cls) (sm_fg h)) : sm_V G M R (sm_Zm G Q mc ms) cells slots pc lv st h := by
  intro p e s m args below meth c H locs ls E hS hR hl
  obtain ⟨x1, x2, x3, x4, x5, x6, x7, x8⟩ := hx
  have hts := E.2.2.2.2.2.1
  have hK := E.2.2.2.2.2.2.2.2.1
  have hown := E.2.2.2.2.1
  rw [hM] at hown
  have hat : ∀ w ∈ vx_atS RX5 ic cls sm_nx, w.before args s = true := vx_hat (fun w hw => hts w (List.mem_filter.mpr ⟨x5 w hw, (List.mem_filter.mp hw).2⟩)) x6 (vx_c (va_Nw.use rfl (hK.2.1 _ x7)) (fun w hw => va_Nw.use (by simp only [sm_nxd, List.mem_cons, List.not_mem_nil, or_false] at hw; rcases hw with rfl | rfl | rfl <;> rfl) (hK.2.1 w (sm_nxd_in w hw))))
  have ht0 : c.exceptionTable.toList = [] := by rw [E.2.2.2.2.2.2.2.1, hh]; rfl
  exact vx_throwS E.1 E.2.1 hK.2.2.2.2.2.2.2.2.1 hown x1 x2 (hts _ x3) (hts _ x4) (hK.2.2.2.2.1 i _ hi) hat x8 hK.2.2.2.2.2.1 hK.2.2.2.2.2.2.1 hS (hl.1.trans E.2.2.2.1.symm) d0 d3 d4 d6 d9 (fun x hx => by rw [ht0] at hx; cases hx) hRm.1 hRm.2 hcs.1 hcs.2 E.2.2.2.2.2.2.1
    (fun t hv z oq => ⟨⟨sm_fg h, hq, sm_R_kept hR oq⟩, ⟨Nat.le_trans hS.1 z, fun q h1 h2 => (oq q (Nat.lt_of_lt_of_le h1 hS.1)).trans (hS.2.1 q h1 h2)⟩⟩) (fun z hz => hS.2.2 z hz) hc hs
theorem sv_throwW {cls text : String} {ik is ic : Nat} (i : Nat) (hx : sm_ex cls ik ic) (hM : M.1.cls = RX5) (hh : M.2.2.2.2 = []) (hi : sm_strs[i]? = some (is, text))
    (d0 : decode M.2.1 pc = .ok (.new ik, 3)) (d3 : decode M.2.1 (pc + 3) = .ok (.dup, 1)) (d4 : decode M.2.1 (pc + 4) = .ok (.ldc_w is, 3)) (d6 : decode M.2.1 (pc + 7) = .ok (.invokespecial ic, 3)) (d9 : decode M.2.1 (pc + 10) = .ok (.athrow, 1))
    (hRm : 5 < R.frames ∧ (st.map fun v => v.category).sum + 82 ≤ R.locals) (hcs : cells + 1 ≤ R.cells ∧ slots + 6 ≤ R.slots) (hc : cells + 1 ≤ mc) (hs : slots + 6 ≤ ms) (hq : Q (.inr cls) (sm_fg h)) : sm_V G M R (sm_Zm G Q mc ms) cells slots pc lv st h := by
  intro p e s m args below meth c H locs ls E hS hR hl
  obtain ⟨x1, x2, x3, x4, x5, x6, x7, x8⟩ := hx
  have hts := E.2.2.2.2.2.1
  have hK := E.2.2.2.2.2.2.2.2.1
  have hown := E.2.2.2.2.1
  rw [hM] at hown
  have hat : ∀ w ∈ vx_atS RX5 ic cls sm_nx, w.before args s = true := vx_hat (fun w hw => hts w (List.mem_filter.mpr ⟨x5 w hw, (List.mem_filter.mp hw).2⟩)) x6 (vx_c (va_Nw.use rfl (hK.2.1 _ x7)) (fun w hw => va_Nw.use (by simp only [sm_nxd, List.mem_cons, List.not_mem_nil, or_false] at hw; rcases hw with rfl | rfl | rfl <;> rfl) (hK.2.1 w (sm_nxd_in w hw))))
  have ht0 : c.exceptionTable.toList = [] := by rw [E.2.2.2.2.2.2.2.1, hh]; rfl
  exact vx_throwSW E.1 E.2.1 hK.2.2.2.2.2.2.2.2.1 hown x1 x2 (hts _ x3) (hts _ x4) (hK.2.2.2.2.1 i _ hi) hat x8 hK.2.2.2.2.2.1 hK.2.2.2.2.2.2.1 hS (hl.1.trans E.2.2.2.1.symm) d0 d3 d4 d6 d9 (fun x hx => by rw [ht0] at hx; cases hx) hRm.1 hRm.2 hcs.1 hcs.2 E.2.2.2.2.2.2.1
    (fun t hv z oq => ⟨⟨sm_fg h, hq, sm_R_kept hR oq⟩, ⟨Nat.le_trans hS.1 z, fun q h1 h2 => (oq q (Nat.lt_of_lt_of_le h1 hS.1)).trans (hS.2.1 q h1 h2)⟩⟩) (fun z hz => hS.2.2 z hz) hc hs
/-- a handler takes it -/
theorem sv_catch {E9 name : String} (pre : List ExceptionTableEntry) (x : ExceptionTableEntry) (suf : List ExceptionTableEntry) (ht : tableOf M.2.2.2.2 = pre ++ x :: suf) (hp : ∀ z ∈ pre, covers z pc = false ∨ (z.catchType ≠ 0 ∧ ∃ nm : String, Cond.classLink M.1.cls z.catchType nm ∈ sm_tbl ∧ (E9, nm) ∈ sm_nocast)) (hx : covers x pc = true) (h0 : x.catchType ≠ 0) (w1 : Cond.classLink M.1.cls x.catchType name ∈ sm_tbl) (w2 : Cond.castable E9 name ∈ sm_nest)
    (kk : ∀ q : Nat, sm_V G M R Z cells slots x.handlerPc lv [.ref q] h) : sm_VX G M R Z cells slots pc lv E9 h := by
  intro p e s m args below meth c H locs ls q ce rest E hS hR hl hce hcv hcl
  have hts := E.2.2.2.2.2.1
  have hK := E.2.2.2.2.2.2.2.2.1
  exact vx_catch E.2.2.2.2.1 pre x suf (E.2.2.2.2.2.2.2.1.trans ht) (fun z hz => by
    rcases hp z hz with h9 | ⟨h9, nm, hw, hn⟩
    · exact Or.inl h9
    · exact Or.inr ⟨h9, nm, hts _ hw, hK.2.2.1 _ hn⟩) hx h0 (hts _ w1) (va_Nw.use rfl (hK.2.1 _ w2)) hce hcv hcl (kk q p e s m args below meth c H locs ls E hS hR hl)
end SCA
end
section
abbrev mX5_init : sm_M := (yX5_init, cX5_init, 2, none, [])
abbrev mX4_init : sm_M := (yX4_init, cX4_init, 1, none, [])
abbrev mX0_init : sm_M := (yX0_init, cX0_init, 2, none, [])
abbrev mX3_init : sm_M := (yX3_init, cX3_init, 1, none, [])
abbrev mX2_init : sm_M := (yX2_init, cX2_init, 1, none, [])
abbrev mX1_init : sm_M := (yX1_init, cX1_init, 2, none, [])
abbrev mX5_clearText : sm_M := (yX5_clearText, cX5_clearText, 2, (some .int), [])
abbrev mX5_errorPosition : sm_M := (yX5_errorPosition, cX5_errorPosition, 1, (some .int), [])
abbrev mX4_findFault : sm_M := (yX4_findFault, cX4_findFault, 3, (some .int), [])
abbrev mX4_isBetween : sm_M := (yX4_isBetween, cX4_isBetween, 4, (some .boolean), [])
abbrev mX4_signAt : sm_M := (yX4_signAt, cX4_signAt, 2, (some .char), [])
abbrev mX4_findMoveFault : sm_M := (yX4_findMoveFault, cX4_findMoveFault, 2, (some .int), [])
abbrev mX4_moveLength : sm_M := (yX4_moveLength, cX4_moveLength, 2, (some .int), [])
abbrev mL_append : sm_M := (yL_append, cL_append, 4, (some .int), [(0, 9, 12, 13), (0, 9, 15, 15)])
abbrev mX5_append : sm_M := (yX5_append, cX5_append, 2, (some .int), [])
abbrev mX4_add : sm_M := (yX4_add, cX4_add, 2, (some .boolean), [])
abbrev mL_load : sm_M := (yL_load, cL_load, 3, (some .int), [(0, 8, 11, 15)])
abbrev mX5_load : sm_M := (yX5_load, cX5_load, 2, (some .int), [])
abbrev mX0_clearAll : sm_M := (yX0_clearAll, cX0_clearAll, 2, none, [])
abbrev mX1_forget : sm_M := (yX1_forget, cX1_forget, 1, none, [])
abbrev mX4_players : sm_M := (yX4_players, cX4_players, 1, (some .int), [])
abbrev mX4_digitAt : sm_M := (yX4_digitAt, cX4_digitAt, 2, (some .int), [])
abbrev mX4_seed : sm_M := (yX4_seed, cX4_seed, 1, (some .int), [])
abbrev mX0_startGame : sm_M := (yX0_startGame, cX0_startGame, 5, none, [])
abbrev mX3_clear : sm_M := (yX3_clear, cX3_clear, 2, none, [])
abbrev mX3_startRound : sm_M := (yX3_startRound, cX3_startRound, 1, none, [])
abbrev mX5_nextX : sm_M := (yX5_nextX, cX5_nextX, 2, (some .long), [])
abbrev mX5_weatherOf : sm_M := (yX5_weatherOf, cX5_weatherOf, 2, (some .int), [])
abbrev mX5_doMoves : sm_M := (yX5_doMoves, cX5_doMoves, 3, (some .int), [])
abbrev mX5_doMove : sm_M := (yX5_doMove, cX5_doMove, 3, (some .boolean), [])
abbrev mX4_movePlace : sm_M := (yX4_movePlace, cX4_movePlace, 2, (some .int), [])
abbrev mX0_passTurn : sm_M := (yX0_passTurn, cX0_passTurn, 1, (some .boolean), [])
abbrev mX0_hasTurn : sm_M := (yX0_hasTurn, cX0_hasTurn, 1, (some .boolean), [])
abbrev mX0_endTurn : sm_M := (yX0_endTurn, cX0_endTurn, 3, none, [])
abbrev mX0_playerBehind : sm_M := (yX0_playerBehind, cX0_playerBehind, 2, (some .int), [])
abbrev mX3_isReady : sm_M := (yX3_isReady, cX3_isReady, 1, (some .boolean), [])
abbrev mX0_endRound : sm_M := (yX0_endRound, cX0_endRound, 2, none, [])
abbrev mX3_loseGoods : sm_M := (yX3_loseGoods, cX3_loseGoods, 9, (some .int), [])
abbrev mX4_moveChoice : sm_M := (yX4_moveChoice, cX4_moveChoice, 2, (some .int), [])
abbrev mX0_putWorker : sm_M := (yX0_putWorker, cX0_putWorker, 5, (some .boolean), [])
abbrev mX0_tryPlacing : sm_M := (yX0_tryPlacing, cX0_tryPlacing, 4, (some .boolean), [])
abbrev mX3_copyFrom : sm_M := (yX3_copyFrom, cX3_copyFrom, 3, none, [])
abbrev mX0_findBumped : sm_M := (yX0_findBumped, cX0_findBumped, 3, (some .int), [])
abbrev mX2_findOther : sm_M := (yX2_findOther, cX2_findOther, 3, (some .int), [])
abbrev mX2_ownerAt : sm_M := (yX2_ownerAt, cX2_ownerAt, 2, (some .int), [])
abbrev mX3_pay : sm_M := (yX3_pay, cX3_pay, 2, (some .boolean), [])
abbrev mX3_gain : sm_M := (yX3_gain, cX3_gain, 3, none, [])
abbrev mX3_weave : sm_M := (yX3_weave, cX3_weave, 2, (some .boolean), [])
abbrev mX3_give : sm_M := (yX3_give, cX3_give, 3, (some .boolean), [])
abbrev mX3_sell : sm_M := (yX3_sell, cX3_sell, 5, (some .boolean), [])
abbrev mX3_hire : sm_M := (yX3_hire, cX3_hire, 1, (some .boolean), [])
abbrev mX3_buildRoom : sm_M := (yX3_buildRoom, cX3_buildRoom, 1, (some .boolean), [])
abbrev mX2_remove : sm_M := (yX2_remove, cX2_remove, 3, none, [])
abbrev mX2_add : sm_M := (yX2_add, cX2_add, 2, none, [])
abbrev mL_about : sm_M := (yL_about, cL_about, 4, (some .int), [(0, 9, 12, 13)])
abbrev mX5_about : sm_M := (yX5_about, cX5_about, 2, (some .int), [])
abbrev mX0_number : sm_M := (yX0_number, cX0_number, 2, (some .int), [])
abbrev mX0_whoseTurn : sm_M := (yX0_whoseTurn, cX0_whoseTurn, 1, (some .int), [])
abbrev mX0_countPlaced : sm_M := (yX0_countPlaced, cX0_countPlaced, 3, (some .int), [])
abbrev mL_player : sm_M := (yL_player, cL_player, 5, (some .int), [(0, 10, 13, 28), (0, 10, 17, 13)])
abbrev mX5_player : sm_M := (yX5_player, cX5_player, 3, (some .int), [])
abbrev mX0_hasPlayer : sm_M := (yX0_hasPlayer, cX0_hasPlayer, 2, (some .boolean), [])
abbrev mX3_number : sm_M := (yX3_number, cX3_number, 2, (some .int), [])
abbrev mX3_total : sm_M := (yX3_total, cX3_total, 1, (some .int), [])
abbrev mL_worker : sm_M := (yL_worker, cL_worker, 5, (some .int), [(0, 10, 13, 28), (0, 10, 17, 13)])
abbrev mX5_worker : sm_M := (yX5_worker, cX5_worker, 3, (some .int), [])
abbrev mX5_isPlace : sm_M := (yX5_isPlace, cX5_isPlace, 1, (some .boolean), [])
abbrev mL_setting : sm_M := (yL_setting, cL_setting, 4, (some .int), [(0, 9, 12, 13)])
abbrev mX5_setting : sm_M := (yX5_setting, cX5_setting, 2, (some .int), [])
abbrev mX5_isSetting : sm_M := (yX5_isSetting, cX5_isSetting, 1, (some .boolean), [])
abbrev mL_begin : sm_M := (yL_begin, cL_begin, 6, (some .int), [(0, 11, 14, 13)])
abbrev mX5_begin : sm_M := (yX5_begin, cX5_begin, 4, (some .int), [])
abbrev mX1_remember : sm_M := (yX1_remember, cX1_remember, 2, none, [])
abbrev mX0_copyFrom : sm_M := (yX0_copyFrom, cX0_copyFrom, 3, none, [])
abbrev mX2_copyFrom : sm_M := (yX2_copyFrom, cX2_copyFrom, 3, none, [])
abbrev mL_place : sm_M := (yL_place, cL_place, 5, (some .int), [(0, 10, 13, 28), (0, 10, 17, 13), (0, 10, 21, 15)])
abbrev mX5_place : sm_M := (yX5_place, cX5_place, 4, (some .int), [])
abbrev mX5_isChoice : sm_M := (yX5_isChoice, cX5_isChoice, 2, (some .boolean), [])
abbrev mX5_isAmount : sm_M := (yX5_isAmount, cX5_isAmount, 1, (some .boolean), [])
abbrev mX5_isGood : sm_M := (yX5_isGood, cX5_isGood, 1, (some .boolean), [])
abbrev mL_pass : sm_M := (yL_pass, cL_pass, 3, (some .int), [(0, 8, 11, 15)])
abbrev mX5_pass : sm_M := (yX5_pass, cX5_pass, 1, (some .int), [])
abbrev mL_play : sm_M := (yL_play, cL_play, 3, (some .int), [(0, 8, 11, 15)])
abbrev mX5_play : sm_M := (yX5_play, cX5_play, 1, (some .int), [])
abbrev mX0_playTurn : sm_M := (yX0_playTurn, cX0_playTurn, 1, (some .int), [])
abbrev mX0_findBest : sm_M := (yX0_findBest, cX0_findBest, 2, (some .boolean), [])
abbrev mX0_worthOfTried : sm_M := (yX0_worthOfTried, cX0_worthOfTried, 1, (some .int), [])
abbrev mL_set : sm_M := (yL_set, cL_set, 5, (some .int), [(0, 10, 13, 13)])
abbrev mX5_set : sm_M := (yX5_set, cX5_set, 4, (some .int), [])
abbrev mX5_isSettingValue : sm_M := (yX5_isSettingValue, cX5_isSettingValue, 2, (some .boolean), [])
abbrev mL_undo : sm_M := (yL_undo, cL_undo, 3, (some .int), [(0, 8, 11, 15)])
abbrev mX5_undo : sm_M := (yX5_undo, cX5_undo, 1, (some .int), [])
abbrev mX1_takeBack : sm_M := (yX1_takeBack, cX1_takeBack, 2, none, [])
abbrev mL_brings : sm_M := (yL_brings, cL_brings, 5, (some .int), [(0, 10, 13, 28), (0, 10, 17, 13)])
abbrev mX5_brings : sm_M := (yX5_brings, cX5_brings, 3, (some .int), [])
abbrev mX0_worth : sm_M := (yX0_worth, cX0_worth, 3, (some .int), [])
abbrev mL_bumps : sm_M := (yL_bumps, cL_bumps, 4, (some .int), [(0, 9, 12, 28)])
abbrev mX5_bumps : sm_M := (yX5_bumps, cX5_bumps, 2, (some .int), [])
abbrev mL_best : sm_M := (yL_best, cL_best, 4, (some .int), [(0, 9, 12, 13)])
abbrev mX5_best : sm_M := (yX5_best, cX5_best, 2, (some .int), [])
abbrev mL_loses : sm_M := (yL_loses, cL_loses, 5, (some .int), [(0, 10, 13, 28), (0, 10, 17, 13)])
abbrev mX5_loses : sm_M := (yX5_loses, cX5_loses, 3, (some .int), [])
abbrev mX0_lossOf : sm_M := (yX0_lossOf, cX0_lossOf, 3, (some .int), [])
abbrev mL_goesOn : sm_M := (yL_goesOn, cL_goesOn, 4, (some .int), [(0, 9, 12, 13)])
abbrev mX5_goesOn : sm_M := (yX5_goesOn, cX5_goesOn, 2, (some .int), [])
abbrev mX0_playToEnd : sm_M := (yX0_playToEnd, cX0_playToEnd, 2, none, [])
abbrev mX0_findLeader : sm_M := (yX0_findLeader, cX0_findLeader, 5, (some .int), [])
abbrev mL_weather : sm_M := (yL_weather, cL_weather, 4, (some .int), [(0, 9, 12, 13)])
abbrev mX5_weather : sm_M := (yX5_weather, cX5_weather, 5, (some .int), [])
abbrev mL_runScript : sm_M := (yL_runScript, cL_runScript, 6, (some .int), [(0, 11, 14, 13)])
abbrev mX5_runScript : sm_M := (yX5_runScript, cX5_runScript, 6, (some .int), [])
abbrev mX5_dropGroups : sm_M := (yX5_dropGroups, cX5_dropGroups, 6, (some .long), [])
abbrev mX5_doCommand : sm_M := (yX5_doCommand, cX5_doCommand, 6, (some .boolean), [])
abbrev mX5_trialSets : sm_M := (yX5_trialSets, cX5_trialSets, 3, (some .boolean), [])
abbrev mL_simulate : sm_M := (yL_simulate, cL_simulate, 6, (some .int), [(0, 11, 14, 13)])
abbrev mX5_simulate : sm_M := (yX5_simulate, cX5_simulate, 7, (some .int), [])
abbrev mX5_simulateTurn : sm_M := (yX5_simulateTurn, cX5_simulateTurn, 3, none, [])
abbrev mX5_simulatedChoice : sm_M := (yX5_simulatedChoice, cX5_simulatedChoice, 2, (some .int), [])
abbrev mX0_sumOfTotals : sm_M := (yX0_sumOfTotals, cX0_sumOfTotals, 3, (some .int), [])
abbrev mL_save : sm_M := (yL_save, cL_save, 4, (some .int), [(0, 9, 12, 28)])
abbrev mX5_save : sm_M := (yX5_save, cX5_save, 2, (some .int), [])
abbrev mL_restore : sm_M := (yL_restore, cL_restore, 4, (some .int), [(0, 9, 12, 28), (0, 9, 15, 15)])
abbrev mX5_restore : sm_M := (yX5_restore, cX5_restore, 2, (some .int), [])
abbrev mX6_init : sm_M := (yX6_init, cX6_init, 1, none, [])
abbrev mX6_settles : sm_M := (yX6_settles, cX6_settles, 2, none, [])
abbrev mX6_thrown : sm_M := (yX6_thrown, cX6_thrown, 1, (some .int), [])
abbrev mX6_append : sm_M := (yX6_append, cX6_append, 2, (some .int), [])
abbrev mX6_in : sm_M := (yX6_in, cX6_in, 3, (some .boolean), [])
abbrev mX6_fails : sm_M := (yX6_fails, cX6_fails, 2, (some .int), [])
abbrev mX6_clearText : sm_M := (yX6_clearText, cX6_clearText, 2, (some .int), [])
abbrev mX6_errorPosition : sm_M := (yX6_errorPosition, cX6_errorPosition, 1, (some .int), [])
abbrev mX6_reads : sm_M := (yX6_reads, cX6_reads, 1, (some .int), [])
abbrev mX6_wants : sm_M := (yX6_wants, cX6_wants, 4, (some .int), [])
abbrev mX6_letter : sm_M := (yX6_letter, cX6_letter, 1, (some .int), [])
abbrev mX6_readsMove : sm_M := (yX6_readsMove, cX6_readsMove, 3, none, [])
abbrev mX6_placeOf : sm_M := (yX6_placeOf, cX6_placeOf, 1, (some .int), [])
abbrev mX6_load : sm_M := (yX6_load, cX6_load, 3, (some .int), [])
abbrev mX6_begins : sm_M := (yX6_begins, cX6_begins, 5, none, [])
abbrev mX6_adds : sm_M := (yX6_adds, cX6_adds, 4, none, [])
abbrev mX6_throwsDie : sm_M := (yX6_throwsDie, cX6_throwsDie, 1, none, [])
abbrev mX6_next : sm_M := (yX6_next, cX6_next, 2, (some .long), [])
abbrev mX6_die : sm_M := (yX6_die, cX6_die, 2, (some .int), [])
abbrev mX6_leavesOut : sm_M := (yX6_leavesOut, cX6_leavesOut, 3, (some .int), [])
abbrev mX6_isOn : sm_M := (yX6_isOn, cX6_isOn, 1, (some .boolean), [])
abbrev mX6_passes : sm_M := (yX6_passes, cX6_passes, 1, none, [])
abbrev mX6_goesTo : sm_M := (yX6_goesTo, cX6_goesTo, 4, none, [])
abbrev mX6_of : sm_M := (yX6_of, cX6_of, 3, (some .int), [])
abbrev mX6_endsRound : sm_M := (yX6_endsRound, cX6_endsRound, 2, none, [])
abbrev mX6_ends : sm_M := (yX6_ends, cX6_ends, 5, none, [])
abbrev mX6_loss : sm_M := (yX6_loss, cX6_loss, 8, (some .int), [])
abbrev mX6_canPlace : sm_M := (yX6_canPlace, cX6_canPlace, 4, (some .boolean), [])
abbrev mX6_isFull : sm_M := (yX6_isFull, cX6_isFull, 2, (some .boolean), [])
abbrev mX6_workersAt : sm_M := (yX6_workersAt, cX6_workersAt, 2, (some .int), [])
abbrev mX6_bumpedAt : sm_M := (yX6_bumpedAt, cX6_bumpedAt, 3, (some .int), [])
abbrev mX6_ownerAt : sm_M := (yX6_ownerAt, cX6_ownerAt, 3, (some .int), [])
abbrev mX6_canWork : sm_M := (yX6_canWork, cX6_canWork, 5, (some .boolean), [])
abbrev mX6_places : sm_M := (yX6_places, cX6_places, 8, (some .int), [])
abbrev mX6_works : sm_M := (yX6_works, cX6_works, 4, none, [])
abbrev mX6_sells : sm_M := (yX6_sells, cX6_sells, 5, none, [])
abbrev mX6_about : sm_M := (yX6_about, cX6_about, 2, (some .int), [])
abbrev mX6_tells : sm_M := (yX6_tells, cX6_tells, 2, (some .int), [])
abbrev mX6_atPlaces : sm_M := (yX6_atPlaces, cX6_atPlaces, 3, (some .int), [])
abbrev mX6_player : sm_M := (yX6_player, cX6_player, 3, (some .int), [])
abbrev mX6_isPlayer : sm_M := (yX6_isPlayer, cX6_isPlayer, 2, (some .boolean), [])
abbrev mX6_total : sm_M := (yX6_total, cX6_total, 2, (some .int), [])
abbrev mX6_worker : sm_M := (yX6_worker, cX6_worker, 3, (some .int), [])
abbrev mX6_isPlace : sm_M := (yX6_isPlace, cX6_isPlace, 1, (some .boolean), [])
abbrev mX6_setting : sm_M := (yX6_setting, cX6_setting, 2, (some .int), [])
abbrev mX6_begin : sm_M := (yX6_begin, cX6_begin, 4, (some .int), [])
abbrev mX6_remembers : sm_M := (yX6_remembers, cX6_remembers, 2, none, [])
abbrev mX6_place : sm_M := (yX6_place, cX6_place, 4, (some .int), [])
abbrev mX6_refuses : sm_M := (yX6_refuses, cX6_refuses, 3, (some .int), [])
abbrev mX6_isChoice : sm_M := (yX6_isChoice, cX6_isChoice, 2, (some .boolean), [])
abbrev mX6_pass : sm_M := (yX6_pass, cX6_pass, 1, (some .int), [])
abbrev mX6_play : sm_M := (yX6_play, cX6_play, 1, (some .int), [])
abbrev mX6_plays : sm_M := (yX6_plays, cX6_plays, 2, (some .int), [])
abbrev mX6_findsBest : sm_M := (yX6_findsBest, cX6_findsBest, 4, none, [])
abbrev mX6_bringing : sm_M := (yX6_bringing, cX6_bringing, 6, (some .int), [])
abbrev mX6_putsAside : sm_M := (yX6_putsAside, cX6_putsAside, 2, none, [])
abbrev mX6_takesBack : sm_M := (yX6_takesBack, cX6_takesBack, 2, none, [])
abbrev mX6_set : sm_M := (yX6_set, cX6_set, 4, (some .int), [])
abbrev mX6_isSetting : sm_M := (yX6_isSetting, cX6_isSetting, 2, (some .boolean), [])
abbrev mX6_undo : sm_M := (yX6_undo, cX6_undo, 2, (some .int), [])
abbrev mX6_brings : sm_M := (yX6_brings, cX6_brings, 3, (some .int), [])
abbrev mX6_bumps : sm_M := (yX6_bumps, cX6_bumps, 2, (some .int), [])
abbrev mX6_best : sm_M := (yX6_best, cX6_best, 2, (some .int), [])
abbrev mX6_loses : sm_M := (yX6_loses, cX6_loses, 3, (some .int), [])
abbrev mX6_goesOn : sm_M := (yX6_goesOn, cX6_goesOn, 3, (some .int), [])
abbrev mX6_keeps : sm_M := (yX6_keeps, cX6_keeps, 2, none, [])
abbrev mX6_richest : sm_M := (yX6_richest, cX6_richest, 3, (some .int), [])
abbrev mX6_takesKept : sm_M := (yX6_takesKept, cX6_takesKept, 2, none, [])
abbrev mX6_weather : sm_M := (yX6_weather, cX6_weather, 5, (some .int), [])
abbrev mX6_runScript : sm_M := (yX6_runScript, cX6_runScript, 11, (some .int), [])
abbrev mX6_does : sm_M := (yX6_does, cX6_does, 5, (some .boolean), [])
abbrev mX6_doesPlace : sm_M := (yX6_doesPlace, cX6_doesPlace, 4, (some .boolean), [])
abbrev mX6_doesTurn : sm_M := (yX6_doesTurn, cX6_doesTurn, 3, (some .boolean), [])
abbrev mX6_doesSet : sm_M := (yX6_doesSet, cX6_doesSet, 4, (some .boolean), [])
abbrev mX6_simulate : sm_M := (yX6_simulate, cX6_simulate, 9, (some .int), [])
abbrev mX6_simulates : sm_M := (yX6_simulates, cX6_simulates, 4, none, [])
abbrev mX6_save : sm_M := (yX6_save, cX6_save, 3, (some .int), [])
abbrev mX6_restore : sm_M := (yX6_restore, cX6_restore, 3, (some .int), [])
abbrev mL_law : sm_M := (yL_law, cL_law, 7, (some .boolean), [])
/-- a field of ours by its place in a pool -/
def sm_fl (own : String) (idx k : Nat) (T : u_T) : Prop := Cond.fieldLink own idx (T k).1 (T k).2.1 (T k).2.2.1 ∈ sm_tbl
theorem sf_X4_11 : sm_fl RX4 11 0 TX4 := sm_tc ck_1_0_in 29 rfl rfl
theorem sf_X4_15 : sm_fl RX4 15 1 TX4 := sm_tc ck_1_1_in 0 rfl rfl
theorem sf_X5_57 : sm_fl RX5 57 1 TX4 := sm_tc ck_1_1_in 1 rfl rfl
theorem sf_X3_9 : sm_fl RX3 9 0 TX3 := sm_tc ck_1_1_in 23 rfl rfl
theorem sf_X0_196 : sm_fl RX0 196 0 TX3 := sm_tc ck_1_1_in 24 rfl rfl
theorem sf_X5_274 : sm_fl RX5 274 0 TX3 := sm_tc ck_1_1_in 25 rfl rfl
theorem sf_X3_15 : sm_fl RX3 15 1 TX3 := sm_tc ck_1_1_in 26 rfl rfl
theorem sf_X0_148 : sm_fl RX0 148 1 TX3 := sm_tc ck_1_1_in 27 rfl rfl
theorem sf_X3_19 : sm_fl RX3 19 2 TX3 := sm_tc ck_1_1_in 28 rfl rfl
theorem sf_X3_22 : sm_fl RX3 22 3 TX3 := sm_tc ck_1_1_in 29 rfl rfl
theorem sf_X3_25 : sm_fl RX3 25 4 TX3 := sm_tc ck_1_2_in 0 rfl rfl
theorem sf_X0_117 : sm_fl RX0 117 4 TX3 := sm_tc ck_1_2_in 1 rfl rfl
theorem sf_X3_28 : sm_fl RX3 28 5 TX3 := sm_tc ck_1_2_in 2 rfl rfl
theorem sf_X0_176 : sm_fl RX0 176 5 TX3 := sm_tc ck_1_2_in 3 rfl rfl
theorem sf_X2_11 : sm_fl RX2 11 0 TX2 := sm_tc ck_1_2_in 23 rfl rfl
theorem sf_X2_15 : sm_fl RX2 15 1 TX2 := sm_tc ck_1_2_in 24 rfl rfl
theorem sf_X0_77 : sm_fl RX0 77 1 TX2 := sm_tc ck_1_2_in 25 rfl rfl
theorem sf_X5_267 : sm_fl RX5 267 1 TX2 := sm_tc ck_1_2_in 26 rfl rfl
theorem sf_X0_11 : sm_fl RX0 11 0 TX0 := sm_tc ck_1_3_in 4 rfl rfl
theorem sf_X5_123 : sm_fl RX5 123 0 TX0 := sm_tc ck_1_3_in 5 rfl rfl
theorem sf_X0_19 : sm_fl RX0 19 1 TX0 := sm_tc ck_1_3_in 6 rfl rfl
theorem sf_X5_136 : sm_fl RX5 136 1 TX0 := sm_tc ck_1_3_in 7 rfl rfl
theorem sf_X0_23 : sm_fl RX0 23 2 TX0 := sm_tc ck_1_3_in 8 rfl rfl
theorem sf_X5_268 : sm_fl RX5 268 2 TX0 := sm_tc ck_1_3_in 9 rfl rfl
theorem sf_X0_27 : sm_fl RX0 27 3 TX0 := sm_tc ck_1_3_in 10 rfl rfl
theorem sf_X5_150 : sm_fl RX5 150 3 TX0 := sm_tc ck_1_3_in 11 rfl rfl
theorem sf_X0_30 : sm_fl RX0 30 4 TX0 := sm_tc ck_1_3_in 12 rfl rfl
theorem sf_X5_238 : sm_fl RX5 238 4 TX0 := sm_tc ck_1_3_in 13 rfl rfl
theorem sf_X0_34 : sm_fl RX0 34 5 TX0 := sm_tc ck_1_3_in 14 rfl rfl
theorem sf_X5_271 : sm_fl RX5 271 5 TX0 := sm_tc ck_1_3_in 15 rfl rfl
theorem sf_X0_37 : sm_fl RX0 37 6 TX0 := sm_tc ck_1_3_in 16 rfl rfl
theorem sf_X0_40 : sm_fl RX0 40 7 TX0 := sm_tc ck_1_3_in 17 rfl rfl
theorem sf_X5_160 : sm_fl RX5 160 7 TX0 := sm_tc ck_1_3_in 18 rfl rfl
theorem sf_X0_43 : sm_fl RX0 43 8 TX0 := sm_tc ck_1_3_in 19 rfl rfl
theorem sf_X0_46 : sm_fl RX0 46 9 TX0 := sm_tc ck_1_3_in 20 rfl rfl
theorem sf_X5_283 : sm_fl RX5 283 9 TX0 := sm_tc ck_1_3_in 21 rfl rfl
theorem sf_X0_49 : sm_fl RX0 49 10 TX0 := sm_tc ck_1_3_in 22 rfl rfl
theorem sf_X0_52 : sm_fl RX0 52 11 TX0 := sm_tc ck_1_3_in 23 rfl rfl
theorem sf_X5_239 : sm_fl RX5 239 11 TX0 := sm_tc ck_1_3_in 24 rfl rfl
theorem sf_X0_57 : sm_fl RX0 57 12 TX0 := sm_tc ck_1_3_in 25 rfl rfl
theorem sf_X0_61 : sm_fl RX0 61 13 TX0 := sm_tc ck_1_3_in 26 rfl rfl
theorem sf_X5_207 : sm_fl RX5 207 13 TX0 := sm_tc ck_1_3_in 27 rfl rfl
theorem sf_X0_64 : sm_fl RX0 64 14 TX0 := sm_tc ck_1_3_in 28 rfl rfl
theorem sf_X5_210 : sm_fl RX5 210 14 TX0 := sm_tc ck_1_3_in 29 rfl rfl
theorem sf_X0_67 : sm_fl RX0 67 15 TX0 := sm_tc ck_1_4_in 0 rfl rfl
theorem sf_X5_213 : sm_fl RX5 213 15 TX0 := sm_tc ck_1_4_in 1 rfl rfl
theorem sf_X1_11 : sm_fl RX1 11 0 TX1 := sm_tc ck_1_5_in 14 rfl rfl
theorem sf_X1_15 : sm_fl RX1 15 1 TX1 := sm_tc ck_1_5_in 15 rfl rfl
theorem sf_X5_192 : sm_fl RX5 192 1 TX1 := sm_tc ck_1_5_in 16 rfl rfl
theorem sf_X1_19 : sm_fl RX1 19 2 TX1 := sm_tc ck_1_5_in 17 rfl rfl
theorem sf_X5_10 : sm_fl RX5 10 0 TX5 := sm_tc ck_1_5_in 25 rfl rfl
theorem sf_X5_19 : sm_fl RX5 19 1 TX5 := sm_tc ck_1_5_in 26 rfl rfl
theorem sf_X5_23 : sm_fl RX5 23 2 TX5 := sm_tc ck_1_5_in 27 rfl rfl
theorem sf_X5_29 : sm_fl RX5 29 3 TX5 := sm_tc ck_1_5_in 28 rfl rfl
theorem sf_X5_33 : sm_fl RX5 33 4 TX5 := sm_tc ck_1_5_in 29 rfl rfl
theorem sf_X5_37 : sm_fl RX5 37 5 TX5 := sm_tc ck_1_6_in 0 rfl rfl
theorem sf_X6_42 : sm_fl RX6 42 0 TX6 := sm_tc ck_4_2_in 24 rfl rfl
theorem sf_X6_7 : sm_fl RX6 7 1 TX6 := sm_tc ck_4_2_in 25 rfl rfl
theorem sf_X6_49 : sm_fl RX6 49 2 TX6 := sm_tc ck_4_2_in 26 rfl rfl
theorem sf_X6_13 : sm_fl RX6 13 3 TX6 := sm_tc ck_4_2_in 27 rfl rfl
theorem sf_X6_16 : sm_fl RX6 16 4 TX6 := sm_tc ck_4_2_in 28 rfl rfl
theorem sf_X6_57 : sm_fl RX6 57 5 TX6 := sm_tc ck_4_2_in 29 rfl rfl
theorem sf_X6_20 : sm_fl RX6 20 6 TX6 := sm_tc ck_4_3_in 0 rfl rfl
theorem sf_X6_23 : sm_fl RX6 23 7 TX6 := sm_tc ck_4_3_in 1 rfl rfl
theorem sf_X6_26 : sm_fl RX6 26 8 TX6 := sm_tc ck_4_3_in 2 rfl rfl
theorem sf_X6_30 : sm_fl RX6 30 9 TX6 := sm_tc ck_4_3_in 3 rfl rfl
theorem sf_X6_170 : sm_fl RX6 170 10 TX6 := sm_tc ck_4_3_in 4 rfl rfl
theorem sf_X6_33 : sm_fl RX6 33 11 TX6 := sm_tc ck_4_3_in 5 rfl rfl
theorem sf_X6_60 : sm_fl RX6 60 12 TX6 := sm_tc ck_4_3_in 6 rfl rfl
theorem sf_X6_36 : sm_fl RX6 36 13 TX6 := sm_tc ck_4_3_in 7 rfl rfl
theorem sf_X6_63 : sm_fl RX6 63 14 TX6 := sm_tc ck_4_3_in 8 rfl rfl
theorem sf_X6_143 : sm_fl RX6 143 15 TX6 := sm_tc ck_4_3_in 9 rfl rfl
theorem sf_X6_146 : sm_fl RX6 146 16 TX6 := sm_tc ck_4_3_in 10 rfl rfl
theorem sf_X6_149 : sm_fl RX6 149 17 TX6 := sm_tc ck_4_3_in 11 rfl rfl
theorem sf_X6_173 : sm_fl RX6 173 18 TX6 := sm_tc ck_4_3_in 12 rfl rfl
theorem sf_X6_176 : sm_fl RX6 176 19 TX6 := sm_tc ck_4_3_in 13 rfl rfl
theorem sf_X6_193 : sm_fl RX6 193 20 TX6 := sm_tc ck_4_3_in 14 rfl rfl
theorem sf_X6_196 : sm_fl RX6 196 21 TX6 := sm_tc ck_4_3_in 15 rfl rfl
theorem sf_X6_39 : sm_fl RX6 39 22 TX6 := sm_tc ck_4_3_in 16 rfl rfl
theorem sf_X6_190 : sm_fl RX6 190 23 TX6 := sm_tc ck_4_3_in 17 rfl rfl
theorem sg_X0_71 : Cond.fieldLinkNest RX0 71 RX5 "FIRST_SETTING" "[I" RX5 ∈ sm_nest := sm_mh ck_1_3_in 2 rfl rfl
theorem sg_X0_78 : Cond.fieldLinkNest RX0 78 RX5 "FIRST_PRICE" "[I" RX5 ∈ sm_nest := sm_mh ck_2_4_in 0 rfl rfl
theorem sg_X3_57 : Cond.fieldLinkNest RX3 57 RX5 "LOSING_ORDER" "[I" RX5 ∈ sm_nest := sm_mh ck_2_5_in 20 rfl rfl
theorem sg_X0_170 : Cond.fieldLinkNest RX0 170 RX5 "PLACING_PLACES" "[I" RX5 ∈ sm_nest := sm_mh ck_3_5_in 3 rfl rfl
theorem sg_X0_173 : Cond.fieldLinkNest RX0 173 RX5 "PLACING_CHOICES" "[I" RX5 ∈ sm_nest := sm_mh ck_3_5_in 5 rfl rfl
theorem sg_X5_296 : Cond.fieldLink RX5 296 RX5 "LEAST_SETTING" "[I" ∈ sm_tbl := sm_tc ck_3_5_in 24 rfl rfl
theorem sg_X5_299 : Cond.fieldLink RX5 299 RX5 "GREATEST_SETTING" "[I" ∈ sm_tbl := sm_tc ck_3_5_in 26 rfl rfl
theorem sc_L_86 : sm_sI RL 86 mX5_init 0 := ⟨sm_tc ck_1_0_in 19 rfl rfl, sm_tc ck_1_0_in 17 rfl rfl, sm_tc ck_1_0_in 18 rfl rfl, rfl, sm_tc ck_1_0_in 1 rfl rfl, by decide +kernel, by decide +kernel, by decide +kernel, by decide +kernel⟩
theorem sc_X5_9 : sm_sIN RX5 9 mX4_init 0 := ⟨sm_tc ck_1_0_in 27 rfl rfl, sm_mh ck_1_0_in 25 rfl rfl, sm_tc ck_1_0_in 26 rfl rfl, rfl, sm_tc ck_1_0_in 2 rfl rfl, by decide +kernel, by decide +kernel, by decide +kernel, by decide +kernel⟩
theorem sc_X5_18 : sm_sI RX5 18 mX0_init 0 := ⟨sm_tc ck_1_1_in 12 rfl rfl, sm_tc ck_1_1_in 10 rfl rfl, sm_tc ck_1_1_in 11 rfl rfl, rfl, sm_tc ck_1_0_in 3 rfl rfl, by decide +kernel, by decide +kernel, by decide +kernel, by decide +kernel⟩
theorem sc_X0_56 : sm_sIN RX0 56 mX3_init 0 := ⟨sm_tc ck_1_1_in 21 rfl rfl, sm_mh ck_1_1_in 19 rfl rfl, sm_tc ck_1_1_in 20 rfl rfl, rfl, sm_tc ck_1_0_in 4 rfl rfl, by decide +kernel, by decide +kernel, by decide +kernel, by decide +kernel⟩
theorem sc_X0_70 : sm_sIN RX0 70 mX2_init 0 := ⟨sm_tc ck_1_2_in 21 rfl rfl, sm_mh ck_1_2_in 19 rfl rfl, sm_tc ck_1_2_in 20 rfl rfl, rfl, sm_tc ck_1_0_in 5 rfl rfl, by decide +kernel, by decide +kernel, by decide +kernel, by decide +kernel⟩
theorem sc_X5_28 : sm_sI RX5 28 mX1_init 0 := ⟨sm_tc ck_1_5_in 9 rfl rfl, sm_tc ck_1_5_in 7 rfl rfl, sm_tc ck_1_5_in 8 rfl rfl, rfl, sm_tc ck_1_0_in 6 rfl rfl, by decide +kernel, by decide +kernel, by decide +kernel, by decide +kernel⟩
theorem sc_X1_22 : sm_sI RX1 22 mX0_init 0 := ⟨sm_tc ck_1_1_in 12 rfl rfl, sm_tc ck_1_5_in 13 rfl rfl, sm_tc ck_1_1_in 11 rfl rfl, rfl, sm_tc ck_1_0_in 3 rfl rfl, by decide +kernel, by decide +kernel, by decide +kernel, by decide +kernel⟩
theorem sc_L_99 : sm_sV RL 99 mX5_clearText 0 := ⟨sm_tc ck_1_6_in 18 rfl rfl, sm_tc ck_1_6_in 15 rfl rfl, sm_tc ck_1_6_in 16 rfl rfl, sm_tc ck_1_6_in 17 rfl rfl, sm_tc ck_1_0_in 1 rfl rfl, by decide +kernel, by decide +kernel, by decide +kernel, by decide +kernel⟩
theorem sc_L_103 : sm_sV RL 103 mX5_errorPosition 0 := ⟨sm_tc ck_1_6_in 22 rfl rfl, sm_tc ck_1_6_in 19 rfl rfl, sm_tc ck_1_6_in 20 rfl rfl, sm_tc ck_1_6_in 21 rfl rfl, sm_tc ck_1_0_in 1 rfl rfl, by decide +kernel, by decide +kernel, by decide +kernel, by decide +kernel⟩
theorem sc_X5_61 : sm_sV RX5 61 mX4_findFault 0 := ⟨sm_tc ck_1_6_in 26 rfl rfl, sm_tc ck_1_6_in 23 rfl rfl, sm_tc ck_1_6_in 24 rfl rfl, sm_tc ck_1_6_in 25 rfl rfl, sm_tc ck_1_0_in 2 rfl rfl, by decide +kernel, by decide +kernel, by decide +kernel, by decide +kernel⟩
theorem sc_X4_23 : sm_sV RX4 23 mX4_isBetween 3 := ⟨sm_tc ck_1_7_in 0 rfl rfl, sm_tc ck_1_6_in 27 rfl rfl, sm_tc ck_1_6_in 28 rfl rfl, sm_tc ck_1_6_in 29 rfl rfl, sm_tc ck_1_0_in 2 rfl rfl, by decide +kernel, by decide +kernel, by decide +kernel, by decide +kernel⟩
theorem sc_X4_19 : sm_sV RX4 19 mX4_signAt 1 := ⟨sm_tc ck_1_7_in 4 rfl rfl, sm_tc ck_1_7_in 1 rfl rfl, sm_tc ck_1_7_in 2 rfl rfl, sm_tc ck_1_7_in 3 rfl rfl, sm_tc ck_1_0_in 2 rfl rfl, by decide +kernel, by decide +kernel, by decide +kernel, by decide +kernel⟩
theorem sc_X4_27 : sm_sV RX4 27 mX4_findMoveFault 1 := ⟨sm_tc ck_1_7_in 8 rfl rfl, sm_tc ck_1_7_in 5 rfl rfl, sm_tc ck_1_7_in 6 rfl rfl, sm_tc ck_1_7_in 7 rfl rfl, sm_tc ck_1_0_in 2 rfl rfl, by decide +kernel, by decide +kernel, by decide +kernel, by decide +kernel⟩
theorem sc_X4_31 : sm_sV RX4 31 mX4_moveLength 1 := ⟨sm_tc ck_1_7_in 12 rfl rfl, sm_tc ck_1_7_in 9 rfl rfl, sm_tc ck_1_7_in 10 rfl rfl, sm_tc ck_1_7_in 11 rfl rfl, sm_tc ck_1_0_in 2 rfl rfl, by decide +kernel, by decide +kernel, by decide +kernel, by decide +kernel⟩
theorem sc_L_90 : sm_sS RL 90 mL_append 3 := ⟨sm_tc ck_1_7_in 15 rfl rfl, sm_tc ck_1_7_in 13 rfl rfl, sm_tc ck_1_7_in 14 rfl rfl, sm_tc ck_1_0_in 0 rfl rfl, by decide +kernel, by decide +kernel, by decide +kernel, by decide +kernel⟩
theorem sc_L_7 : sm_sV RL 7 mX5_append 1 := ⟨sm_tc ck_1_7_in 21 rfl rfl, sm_tc ck_1_7_in 18 rfl rfl, sm_tc ck_1_7_in 19 rfl rfl, sm_tc ck_1_7_in 20 rfl rfl, sm_tc ck_1_0_in 1 rfl rfl, by decide +kernel, by decide +kernel, by decide +kernel, by decide +kernel⟩
theorem sc_X5_48 : sm_sV RX5 48 mX4_add 1 := ⟨sm_tc ck_2_2_in 3 rfl rfl, sm_tc ck_2_2_in 0 rfl rfl, sm_tc ck_2_2_in 1 rfl rfl, sm_tc ck_2_2_in 2 rfl rfl, sm_tc ck_1_0_in 2 rfl rfl, by decide +kernel, by decide +kernel, by decide +kernel, by decide +kernel⟩
theorem sc_L_107 : sm_sS RL 107 mL_load 2 := ⟨sm_tc ck_2_2_in 22 rfl rfl, sm_tc ck_2_2_in 20 rfl rfl, sm_tc ck_2_2_in 21 rfl rfl, sm_tc ck_1_0_in 0 rfl rfl, by decide +kernel, by decide +kernel, by decide +kernel, by decide +kernel⟩
theorem sc_L_17 : sm_sV RL 17 mX5_load 0 := ⟨sm_tc ck_2_2_in 26 rfl rfl, sm_tc ck_2_2_in 23 rfl rfl, sm_tc ck_2_2_in 24 rfl rfl, sm_tc ck_2_2_in 25 rfl rfl, sm_tc ck_1_0_in 1 rfl rfl, by decide +kernel, by decide +kernel, by decide +kernel, by decide +kernel⟩
theorem sc_X5_67 : sm_sV RX5 67 mX0_clearAll 0 := ⟨sm_tc ck_2_3_in 1 rfl rfl, sm_tc ck_2_2_in 28 rfl rfl, sm_tc ck_2_2_in 29 rfl rfl, sm_tc ck_2_3_in 0 rfl rfl, sm_tc ck_1_0_in 3 rfl rfl, by decide +kernel, by decide +kernel, by decide +kernel, by decide +kernel⟩
theorem sc_X5_70 : sm_sV RX5 70 mX1_forget 0 := ⟨sm_tc ck_2_3_in 5 rfl rfl, sm_tc ck_2_3_in 2 rfl rfl, sm_tc ck_2_3_in 3 rfl rfl, sm_tc ck_2_3_in 4 rfl rfl, sm_tc ck_1_0_in 6 rfl rfl, by decide +kernel, by decide +kernel, by decide +kernel, by decide +kernel⟩
theorem sc_X5_73 : sm_sV RX5 73 mX4_players 0 := ⟨sm_tc ck_2_3_in 9 rfl rfl, sm_tc ck_2_3_in 6 rfl rfl, sm_tc ck_2_3_in 7 rfl rfl, sm_tc ck_2_3_in 8 rfl rfl, sm_tc ck_1_0_in 2 rfl rfl, by decide +kernel, by decide +kernel, by decide +kernel, by decide +kernel⟩
theorem sc_X4_34 : sm_sV RX4 34 mX4_digitAt 1 := ⟨sm_tc ck_2_3_in 13 rfl rfl, sm_tc ck_2_3_in 10 rfl rfl, sm_tc ck_2_3_in 11 rfl rfl, sm_tc ck_2_3_in 12 rfl rfl, sm_tc ck_1_0_in 2 rfl rfl, by decide +kernel, by decide +kernel, by decide +kernel, by decide +kernel⟩
theorem sc_X5_76 : sm_sV RX5 76 mX4_seed 0 := ⟨sm_tc ck_2_3_in 17 rfl rfl, sm_tc ck_2_3_in 14 rfl rfl, sm_tc ck_2_3_in 15 rfl rfl, sm_tc ck_2_3_in 16 rfl rfl, sm_tc ck_1_0_in 2 rfl rfl, by decide +kernel, by decide +kernel, by decide +kernel, by decide +kernel⟩
theorem sc_X5_79 : sm_sV RX5 79 mX0_startGame 2 := ⟨sm_tc ck_2_3_in 21 rfl rfl, sm_tc ck_2_3_in 18 rfl rfl, sm_tc ck_2_3_in 19 rfl rfl, sm_tc ck_2_3_in 20 rfl rfl, sm_tc ck_1_0_in 3 rfl rfl, by decide +kernel, by decide +kernel, by decide +kernel, by decide +kernel⟩
theorem sc_X0_74 : sm_sV RX0 74 mX3_clear 0 := ⟨sm_tc ck_2_3_in 25 rfl rfl, sm_tc ck_2_3_in 22 rfl rfl, sm_tc ck_2_3_in 23 rfl rfl, sm_tc ck_2_3_in 24 rfl rfl, sm_tc ck_1_0_in 4 rfl rfl, by decide +kernel, by decide +kernel, by decide +kernel, by decide +kernel⟩
theorem sc_X3_32 : sm_sV RX3 32 mX3_startRound 0 := ⟨sm_tc ck_2_3_in 29 rfl rfl, sm_tc ck_2_3_in 26 rfl rfl, sm_tc ck_2_3_in 27 rfl rfl, sm_tc ck_2_3_in 28 rfl rfl, sm_tc ck_1_0_in 4 rfl rfl, by decide +kernel, by decide +kernel, by decide +kernel, by decide +kernel⟩
theorem sc_X0_81 : sm_sSN RX0 81 mX5_nextX 1 := ⟨sm_tc ck_2_4_in 4 rfl rfl, sm_mh ck_2_4_in 2 rfl rfl, sm_tc ck_2_4_in 3 rfl rfl, sm_tc ck_1_0_in 1 rfl rfl, by decide +kernel, by decide +kernel, by decide +kernel, by decide +kernel⟩
theorem sc_X0_85 : sm_sSN RX0 85 mX5_weatherOf 1 := ⟨sm_tc ck_2_4_in 9 rfl rfl, sm_mh ck_2_4_in 7 rfl rfl, sm_tc ck_2_4_in 8 rfl rfl, sm_tc ck_1_0_in 1 rfl rfl, by decide +kernel, by decide +kernel, by decide +kernel, by decide +kernel⟩
theorem sc_X5_83 : sm_sV RX5 83 mX5_doMoves 0 := ⟨sm_tc ck_2_4_in 13 rfl rfl, sm_tc ck_2_4_in 10 rfl rfl, sm_tc ck_2_4_in 12 rfl rfl, sm_tc ck_0_0_in 1 rfl rfl, sm_tc ck_1_0_in 1 rfl rfl, by decide +kernel, by decide +kernel, by decide +kernel, by decide +kernel⟩
theorem sc_X5_86 : sm_sV RX5 86 mX5_doMove 1 := ⟨sm_tc ck_2_4_in 17 rfl rfl, sm_tc ck_2_4_in 14 rfl rfl, sm_tc ck_2_4_in 16 rfl rfl, sm_tc ck_0_0_in 2 rfl rfl, sm_tc ck_1_0_in 1 rfl rfl, by decide +kernel, by decide +kernel, by decide +kernel, by decide +kernel⟩
theorem sc_X5_94 : sm_sV RX5 94 mX4_movePlace 1 := ⟨sm_tc ck_2_4_in 21 rfl rfl, sm_tc ck_2_4_in 18 rfl rfl, sm_tc ck_2_4_in 19 rfl rfl, sm_tc ck_2_4_in 20 rfl rfl, sm_tc ck_1_0_in 2 rfl rfl, by decide +kernel, by decide +kernel, by decide +kernel, by decide +kernel⟩
theorem sc_X5_97 : sm_sV RX5 97 mX0_passTurn 0 := ⟨sm_tc ck_2_4_in 25 rfl rfl, sm_tc ck_2_4_in 22 rfl rfl, sm_tc ck_2_4_in 23 rfl rfl, sm_tc ck_2_4_in 24 rfl rfl, sm_tc ck_1_0_in 3 rfl rfl, by decide +kernel, by decide +kernel, by decide +kernel, by decide +kernel⟩
theorem sc_X0_96 : sm_sV RX0 96 mX0_hasTurn 0 := ⟨sm_tc ck_2_4_in 29 rfl rfl, sm_tc ck_2_4_in 26 rfl rfl, sm_tc ck_2_4_in 27 rfl rfl, sm_tc ck_2_4_in 28 rfl rfl, sm_tc ck_1_0_in 3 rfl rfl, by decide +kernel, by decide +kernel, by decide +kernel, by decide +kernel⟩
theorem sc_X0_164 : sm_sV RX0 164 mX0_endTurn 0 := ⟨sm_tc ck_2_5_in 3 rfl rfl, sm_tc ck_2_5_in 0 rfl rfl, sm_tc ck_2_5_in 1 rfl rfl, sm_tc ck_2_5_in 2 rfl rfl, sm_tc ck_1_0_in 3 rfl rfl, by decide +kernel, by decide +kernel, by decide +kernel, by decide +kernel⟩
theorem sc_X0_199 : sm_sV RX0 199 mX0_playerBehind 1 := ⟨sm_tc ck_2_5_in 7 rfl rfl, sm_tc ck_2_5_in 4 rfl rfl, sm_tc ck_2_5_in 5 rfl rfl, sm_tc ck_2_5_in 6 rfl rfl, sm_tc ck_1_0_in 3 rfl rfl, by decide +kernel, by decide +kernel, by decide +kernel, by decide +kernel⟩
theorem sc_X0_202 : sm_sV RX0 202 mX3_isReady 0 := ⟨sm_tc ck_2_5_in 11 rfl rfl, sm_tc ck_2_5_in 8 rfl rfl, sm_tc ck_2_5_in 9 rfl rfl, sm_tc ck_2_5_in 10 rfl rfl, sm_tc ck_1_0_in 4 rfl rfl, by decide +kernel, by decide +kernel, by decide +kernel, by decide +kernel⟩
theorem sc_X0_205 : sm_sV RX0 205 mX0_endRound 0 := ⟨sm_tc ck_2_5_in 15 rfl rfl, sm_tc ck_2_5_in 12 rfl rfl, sm_tc ck_2_5_in 13 rfl rfl, sm_tc ck_2_5_in 14 rfl rfl, sm_tc ck_1_0_in 3 rfl rfl, by decide +kernel, by decide +kernel, by decide +kernel, by decide +kernel⟩
theorem sc_X0_193 : sm_sV RX0 193 mX3_loseGoods 1 := ⟨sm_tc ck_2_5_in 19 rfl rfl, sm_tc ck_2_5_in 16 rfl rfl, sm_tc ck_2_5_in 17 rfl rfl, sm_tc ck_2_5_in 18 rfl rfl, sm_tc ck_1_0_in 4 rfl rfl, by decide +kernel, by decide +kernel, by decide +kernel, by decide +kernel⟩
theorem sc_X0_208 : sm_sV RX0 208 mX3_startRound 0 := ⟨sm_tc ck_2_3_in 29 rfl rfl, sm_tc ck_2_5_in 22 rfl rfl, sm_tc ck_2_3_in 27 rfl rfl, sm_tc ck_2_3_in 28 rfl rfl, sm_tc ck_1_0_in 4 rfl rfl, by decide +kernel, by decide +kernel, by decide +kernel, by decide +kernel⟩
theorem sc_X5_101 : sm_sV RX5 101 mX4_moveChoice 1 := ⟨sm_tc ck_2_5_in 29 rfl rfl, sm_tc ck_2_5_in 26 rfl rfl, sm_tc ck_2_5_in 27 rfl rfl, sm_tc ck_2_5_in 28 rfl rfl, sm_tc ck_1_0_in 2 rfl rfl, by decide +kernel, by decide +kernel, by decide +kernel, by decide +kernel⟩
theorem sc_X5_104 : sm_sV RX5 104 mX0_putWorker 2 := ⟨sm_tc ck_2_6_in 3 rfl rfl, sm_tc ck_2_6_in 0 rfl rfl, sm_tc ck_2_6_in 1 rfl rfl, sm_tc ck_2_6_in 2 rfl rfl, sm_tc ck_1_0_in 3 rfl rfl, by decide +kernel, by decide +kernel, by decide +kernel, by decide +kernel⟩
theorem sc_X0_144 : sm_sV RX0 144 mX0_tryPlacing 2 := ⟨sm_tc ck_2_6_in 7 rfl rfl, sm_tc ck_2_6_in 4 rfl rfl, sm_tc ck_2_6_in 5 rfl rfl, sm_tc ck_2_6_in 6 rfl rfl, sm_tc ck_1_0_in 3 rfl rfl, by decide +kernel, by decide +kernel, by decide +kernel, by decide +kernel⟩
theorem sc_X0_89 : sm_sV RX0 89 mX3_copyFrom 1 := ⟨sm_tc ck_2_6_in 11 rfl rfl, sm_tc ck_2_6_in 8 rfl rfl, sm_tc ck_2_6_in 9 rfl rfl, sm_tc ck_2_6_in 10 rfl rfl, sm_tc ck_1_0_in 4 rfl rfl, by decide +kernel, by decide +kernel, by decide +kernel, by decide +kernel⟩
theorem sc_X0_120 : sm_sV RX0 120 mX0_findBumped 1 := ⟨sm_tc ck_2_6_in 15 rfl rfl, sm_tc ck_2_6_in 12 rfl rfl, sm_tc ck_2_6_in 13 rfl rfl, sm_tc ck_2_6_in 14 rfl rfl, sm_tc ck_1_0_in 3 rfl rfl, by decide +kernel, by decide +kernel, by decide +kernel, by decide +kernel⟩
theorem sc_X0_110 : sm_sV RX0 110 mX2_findOther 1 := ⟨sm_tc ck_2_6_in 19 rfl rfl, sm_tc ck_2_6_in 16 rfl rfl, sm_tc ck_2_6_in 17 rfl rfl, sm_tc ck_2_6_in 18 rfl rfl, sm_tc ck_1_0_in 5 rfl rfl, by decide +kernel, by decide +kernel, by decide +kernel, by decide +kernel⟩
theorem sc_X0_114 : sm_sV RX0 114 mX2_ownerAt 1 := ⟨sm_tc ck_2_6_in 23 rfl rfl, sm_tc ck_2_6_in 20 rfl rfl, sm_tc ck_2_6_in 21 rfl rfl, sm_tc ck_2_6_in 22 rfl rfl, sm_tc ck_1_0_in 5 rfl rfl, by decide +kernel, by decide +kernel, by decide +kernel, by decide +kernel⟩
theorem sc_X0_123 : sm_sV RX0 123 mX3_pay 1 := ⟨sm_tc ck_2_6_in 27 rfl rfl, sm_tc ck_2_6_in 24 rfl rfl, sm_tc ck_2_6_in 25 rfl rfl, sm_tc ck_2_6_in 26 rfl rfl, sm_tc ck_1_0_in 4 rfl rfl, by decide +kernel, by decide +kernel, by decide +kernel, by decide +kernel⟩
theorem sc_X0_127 : sm_sV RX0 127 mX3_gain 2 := ⟨sm_tc ck_2_7_in 1 rfl rfl, sm_tc ck_2_6_in 28 rfl rfl, sm_tc ck_2_6_in 29 rfl rfl, sm_tc ck_2_7_in 0 rfl rfl, sm_tc ck_1_0_in 4 rfl rfl, by decide +kernel, by decide +kernel, by decide +kernel, by decide +kernel⟩
theorem sc_X0_131 : sm_sV RX0 131 mX3_weave 1 := ⟨sm_tc ck_2_7_in 5 rfl rfl, sm_tc ck_2_7_in 2 rfl rfl, sm_tc ck_2_7_in 3 rfl rfl, sm_tc ck_2_7_in 4 rfl rfl, sm_tc ck_1_0_in 4 rfl rfl, by decide +kernel, by decide +kernel, by decide +kernel, by decide +kernel⟩
theorem sc_X3_39 : sm_sV RX3 39 mX3_give 2 := ⟨sm_tc ck_2_7_in 9 rfl rfl, sm_tc ck_2_7_in 6 rfl rfl, sm_tc ck_2_7_in 7 rfl rfl, sm_tc ck_2_7_in 8 rfl rfl, sm_tc ck_1_0_in 4 rfl rfl, by decide +kernel, by decide +kernel, by decide +kernel, by decide +kernel⟩
theorem sc_X3_43 : sm_sV RX3 43 mX3_pay 1 := ⟨sm_tc ck_2_6_in 27 rfl rfl, sm_tc ck_2_7_in 10 rfl rfl, sm_tc ck_2_6_in 25 rfl rfl, sm_tc ck_2_6_in 26 rfl rfl, sm_tc ck_1_0_in 4 rfl rfl, by decide +kernel, by decide +kernel, by decide +kernel, by decide +kernel⟩
theorem sc_X3_47 : sm_sV RX3 47 mX3_gain 2 := ⟨sm_tc ck_2_7_in 1 rfl rfl, sm_tc ck_2_7_in 11 rfl rfl, sm_tc ck_2_6_in 29 rfl rfl, sm_tc ck_2_7_in 0 rfl rfl, sm_tc ck_1_0_in 4 rfl rfl, by decide +kernel, by decide +kernel, by decide +kernel, by decide +kernel⟩
theorem sc_X0_134 : sm_sV RX0 134 mX3_sell 3 := ⟨sm_tc ck_2_7_in 15 rfl rfl, sm_tc ck_2_7_in 12 rfl rfl, sm_tc ck_2_7_in 13 rfl rfl, sm_tc ck_2_7_in 14 rfl rfl, sm_tc ck_1_0_in 4 rfl rfl, by decide +kernel, by decide +kernel, by decide +kernel, by decide +kernel⟩
theorem sc_X0_138 : sm_sV RX0 138 mX3_hire 0 := ⟨sm_tc ck_2_7_in 22 rfl rfl, sm_tc ck_2_7_in 19 rfl rfl, sm_tc ck_2_7_in 20 rfl rfl, sm_tc ck_2_7_in 21 rfl rfl, sm_tc ck_1_0_in 4 rfl rfl, by decide +kernel, by decide +kernel, by decide +kernel, by decide +kernel⟩
theorem sc_X0_141 : sm_sV RX0 141 mX3_buildRoom 0 := ⟨sm_tc ck_2_7_in 26 rfl rfl, sm_tc ck_2_7_in 23 rfl rfl, sm_tc ck_2_7_in 24 rfl rfl, sm_tc ck_2_7_in 25 rfl rfl, sm_tc ck_1_0_in 4 rfl rfl, by decide +kernel, by decide +kernel, by decide +kernel, by decide +kernel⟩
theorem sc_X0_151 : sm_sV RX0 151 mX2_remove 1 := ⟨sm_tc ck_3_0_in 0 rfl rfl, sm_tc ck_2_7_in 27 rfl rfl, sm_tc ck_2_7_in 28 rfl rfl, sm_tc ck_2_7_in 29 rfl rfl, sm_tc ck_1_0_in 5 rfl rfl, by decide +kernel, by decide +kernel, by decide +kernel, by decide +kernel⟩
theorem sc_X0_155 : sm_sV RX0 155 mX2_add 1 := ⟨sm_tc ck_3_0_in 4 rfl rfl, sm_tc ck_3_0_in 1 rfl rfl, sm_tc ck_3_0_in 2 rfl rfl, sm_tc ck_3_0_in 3 rfl rfl, sm_tc ck_1_0_in 5 rfl rfl, by decide +kernel, by decide +kernel, by decide +kernel, by decide +kernel⟩
theorem sc_X5_90 : sm_sV RX5 90 mX4_moveLength 1 := ⟨sm_tc ck_1_7_in 12 rfl rfl, sm_tc ck_3_0_in 6 rfl rfl, sm_tc ck_1_7_in 10 rfl rfl, sm_tc ck_1_7_in 11 rfl rfl, sm_tc ck_1_0_in 2 rfl rfl, by decide +kernel, by decide +kernel, by decide +kernel, by decide +kernel⟩
theorem sc_L_111 : sm_sS RL 111 mL_about 3 := ⟨sm_tc ck_3_0_in 9 rfl rfl, sm_tc ck_3_0_in 7 rfl rfl, sm_tc ck_3_0_in 8 rfl rfl, sm_tc ck_1_0_in 0 rfl rfl, by decide +kernel, by decide +kernel, by decide +kernel, by decide +kernel⟩
theorem sc_L_21 : sm_sV RL 21 mX5_about 1 := ⟨sm_tc ck_3_0_in 13 rfl rfl, sm_tc ck_3_0_in 10 rfl rfl, sm_tc ck_3_0_in 11 rfl rfl, sm_tc ck_3_0_in 12 rfl rfl, sm_tc ck_1_0_in 1 rfl rfl, by decide +kernel, by decide +kernel, by decide +kernel, by decide +kernel⟩
theorem sc_X5_110 : sm_sV RX5 110 mX0_number 1 := ⟨sm_tc ck_3_0_in 18 rfl rfl, sm_tc ck_3_0_in 15 rfl rfl, sm_tc ck_3_0_in 16 rfl rfl, sm_tc ck_3_0_in 17 rfl rfl, sm_tc ck_1_0_in 3 rfl rfl, by decide +kernel, by decide +kernel, by decide +kernel, by decide +kernel⟩
theorem sc_X0_100 : sm_sV RX0 100 mX0_whoseTurn 0 := ⟨sm_tc ck_3_0_in 22 rfl rfl, sm_tc ck_3_0_in 19 rfl rfl, sm_tc ck_3_0_in 20 rfl rfl, sm_tc ck_3_0_in 21 rfl rfl, sm_tc ck_1_0_in 3 rfl rfl, by decide +kernel, by decide +kernel, by decide +kernel, by decide +kernel⟩
theorem sc_X0_104 : sm_sV RX0 104 mX0_countPlaced 0 := ⟨sm_tc ck_3_0_in 26 rfl rfl, sm_tc ck_3_0_in 23 rfl rfl, sm_tc ck_3_0_in 24 rfl rfl, sm_tc ck_3_0_in 25 rfl rfl, sm_tc ck_1_0_in 3 rfl rfl, by decide +kernel, by decide +kernel, by decide +kernel, by decide +kernel⟩
theorem sc_L_114 : sm_sS RL 114 mL_player 4 := ⟨sm_tc ck_3_0_in 29 rfl rfl, sm_tc ck_3_0_in 27 rfl rfl, sm_tc ck_3_0_in 28 rfl rfl, sm_tc ck_1_0_in 0 rfl rfl, by decide +kernel, by decide +kernel, by decide +kernel, by decide +kernel⟩
theorem sc_L_24 : sm_sV RL 24 mX5_player 2 := ⟨sm_tc ck_3_1_in 4 rfl rfl, sm_tc ck_3_1_in 1 rfl rfl, sm_tc ck_3_1_in 2 rfl rfl, sm_tc ck_3_1_in 3 rfl rfl, sm_tc ck_1_0_in 1 rfl rfl, by decide +kernel, by decide +kernel, by decide +kernel, by decide +kernel⟩
theorem sc_X5_113 : sm_sV RX5 113 mX0_hasPlayer 1 := ⟨sm_tc ck_3_1_in 8 rfl rfl, sm_tc ck_3_1_in 5 rfl rfl, sm_tc ck_3_1_in 6 rfl rfl, sm_tc ck_3_1_in 7 rfl rfl, sm_tc ck_1_0_in 3 rfl rfl, by decide +kernel, by decide +kernel, by decide +kernel, by decide +kernel⟩
theorem sc_X5_126 : sm_sV RX5 126 mX3_number 1 := ⟨sm_tc ck_3_1_in 29 rfl rfl, sm_tc ck_3_1_in 26 rfl rfl, sm_tc ck_3_1_in 27 rfl rfl, sm_tc ck_3_1_in 28 rfl rfl, sm_tc ck_1_0_in 4 rfl rfl, by decide +kernel, by decide +kernel, by decide +kernel, by decide +kernel⟩
theorem sc_X3_35 : sm_sV RX3 35 mX3_total 0 := ⟨sm_tc ck_3_2_in 3 rfl rfl, sm_tc ck_3_2_in 0 rfl rfl, sm_tc ck_3_2_in 1 rfl rfl, sm_tc ck_3_2_in 2 rfl rfl, sm_tc ck_1_0_in 4 rfl rfl, by decide +kernel, by decide +kernel, by decide +kernel, by decide +kernel⟩
theorem sc_L_118 : sm_sS RL 118 mL_worker 4 := ⟨sm_tc ck_3_2_in 6 rfl rfl, sm_tc ck_3_2_in 4 rfl rfl, sm_tc ck_3_2_in 5 rfl rfl, sm_tc ck_1_0_in 0 rfl rfl, by decide +kernel, by decide +kernel, by decide +kernel, by decide +kernel⟩
theorem sc_L_30 : sm_sV RL 30 mX5_worker 2 := ⟨sm_tc ck_3_2_in 10 rfl rfl, sm_tc ck_3_2_in 7 rfl rfl, sm_tc ck_3_2_in 8 rfl rfl, sm_tc ck_3_2_in 9 rfl rfl, sm_tc ck_1_0_in 1 rfl rfl, by decide +kernel, by decide +kernel, by decide +kernel, by decide +kernel⟩
theorem sc_X5_129 : sm_sS RX5 129 mX5_isPlace 1 := ⟨sm_tc ck_3_2_in 13 rfl rfl, sm_tc ck_3_2_in 11 rfl rfl, sm_tc ck_3_2_in 12 rfl rfl, sm_tc ck_1_0_in 1 rfl rfl, by decide +kernel, by decide +kernel, by decide +kernel, by decide +kernel⟩
theorem sc_X5_140 : sm_sV RX5 140 mX2_ownerAt 1 := ⟨sm_tc ck_2_6_in 23 rfl rfl, sm_tc ck_3_2_in 16 rfl rfl, sm_tc ck_2_6_in 21 rfl rfl, sm_tc ck_2_6_in 22 rfl rfl, sm_tc ck_1_0_in 5 rfl rfl, by decide +kernel, by decide +kernel, by decide +kernel, by decide +kernel⟩
theorem sc_L_121 : sm_sS RL 121 mL_setting 3 := ⟨sm_tc ck_3_2_in 19 rfl rfl, sm_tc ck_3_2_in 17 rfl rfl, sm_tc ck_3_2_in 18 rfl rfl, sm_tc ck_1_0_in 0 rfl rfl, by decide +kernel, by decide +kernel, by decide +kernel, by decide +kernel⟩
theorem sc_L_33 : sm_sV RL 33 mX5_setting 1 := ⟨sm_tc ck_3_2_in 23 rfl rfl, sm_tc ck_3_2_in 20 rfl rfl, sm_tc ck_3_2_in 21 rfl rfl, sm_tc ck_3_2_in 22 rfl rfl, sm_tc ck_1_0_in 1 rfl rfl, by decide +kernel, by decide +kernel, by decide +kernel, by decide +kernel⟩
theorem sc_X5_145 : sm_sS RX5 145 mX5_isSetting 1 := ⟨sm_tc ck_3_2_in 26 rfl rfl, sm_tc ck_3_2_in 24 rfl rfl, sm_tc ck_3_2_in 25 rfl rfl, sm_tc ck_1_0_in 1 rfl rfl, by decide +kernel, by decide +kernel, by decide +kernel, by decide +kernel⟩
theorem sc_L_126 : sm_sS RL 126 mL_begin 4 := ⟨sm_tc ck_3_3_in 0 rfl rfl, sm_tc ck_3_2_in 28 rfl rfl, sm_tc ck_3_2_in 29 rfl rfl, sm_tc ck_1_0_in 0 rfl rfl, by decide +kernel, by decide +kernel, by decide +kernel, by decide +kernel⟩
theorem sc_L_36 : sm_sV RL 36 mX5_begin 2 := ⟨sm_tc ck_3_3_in 4 rfl rfl, sm_tc ck_3_3_in 1 rfl rfl, sm_tc ck_3_3_in 2 rfl rfl, sm_tc ck_3_3_in 3 rfl rfl, sm_tc ck_1_0_in 1 rfl rfl, by decide +kernel, by decide +kernel, by decide +kernel, by decide +kernel⟩
theorem sc_X5_156 : sm_sV RX5 156 mX1_remember 1 := ⟨sm_tc ck_3_3_in 9 rfl rfl, sm_tc ck_3_3_in 6 rfl rfl, sm_tc ck_3_3_in 7 rfl rfl, sm_tc ck_3_3_in 8 rfl rfl, sm_tc ck_1_0_in 6 rfl rfl, by decide +kernel, by decide +kernel, by decide +kernel, by decide +kernel⟩
theorem sc_X1_23 : sm_sV RX1 23 mX0_copyFrom 1 := ⟨sm_tc ck_3_3_in 13 rfl rfl, sm_tc ck_3_3_in 10 rfl rfl, sm_tc ck_3_3_in 11 rfl rfl, sm_tc ck_3_3_in 12 rfl rfl, sm_tc ck_1_0_in 3 rfl rfl, by decide +kernel, by decide +kernel, by decide +kernel, by decide +kernel⟩
theorem sc_X0_93 : sm_sV RX0 93 mX2_copyFrom 1 := ⟨sm_tc ck_3_3_in 17 rfl rfl, sm_tc ck_3_3_in 14 rfl rfl, sm_tc ck_3_3_in 15 rfl rfl, sm_tc ck_3_3_in 16 rfl rfl, sm_tc ck_1_0_in 5 rfl rfl, by decide +kernel, by decide +kernel, by decide +kernel, by decide +kernel⟩
theorem sc_L_130 : sm_sS RL 130 mL_place 4 := ⟨sm_tc ck_3_3_in 20 rfl rfl, sm_tc ck_3_3_in 18 rfl rfl, sm_tc ck_3_3_in 19 rfl rfl, sm_tc ck_1_0_in 0 rfl rfl, by decide +kernel, by decide +kernel, by decide +kernel, by decide +kernel⟩
theorem sc_L_40 : sm_sV RL 40 mX5_place 2 := ⟨sm_tc ck_3_3_in 24 rfl rfl, sm_tc ck_3_3_in 21 rfl rfl, sm_tc ck_3_3_in 22 rfl rfl, sm_tc ck_3_3_in 23 rfl rfl, sm_tc ck_1_0_in 1 rfl rfl, by decide +kernel, by decide +kernel, by decide +kernel, by decide +kernel⟩
theorem sc_X5_163 : sm_sS RX5 163 mX5_isChoice 2 := ⟨sm_tc ck_3_3_in 27 rfl rfl, sm_tc ck_3_3_in 25 rfl rfl, sm_tc ck_3_3_in 26 rfl rfl, sm_tc ck_1_0_in 1 rfl rfl, by decide +kernel, by decide +kernel, by decide +kernel, by decide +kernel⟩
theorem sc_X5_302 : sm_sS RX5 302 mX5_isAmount 1 := ⟨sm_tc ck_3_4_in 0 rfl rfl, sm_tc ck_3_3_in 28 rfl rfl, sm_tc ck_3_3_in 29 rfl rfl, sm_tc ck_1_0_in 1 rfl rfl, by decide +kernel, by decide +kernel, by decide +kernel, by decide +kernel⟩
theorem sc_X5_216 : sm_sS RX5 216 mX5_isGood 1 := ⟨sm_tc ck_3_4_in 3 rfl rfl, sm_tc ck_3_4_in 1 rfl rfl, sm_tc ck_3_4_in 2 rfl rfl, sm_tc ck_1_0_in 1 rfl rfl, by decide +kernel, by decide +kernel, by decide +kernel, by decide +kernel⟩
theorem sc_X5_168 : sm_sV RX5 168 mX0_tryPlacing 2 := ⟨sm_tc ck_2_6_in 7 rfl rfl, sm_tc ck_3_4_in 5 rfl rfl, sm_tc ck_2_6_in 5 rfl rfl, sm_tc ck_2_6_in 6 rfl rfl, sm_tc ck_1_0_in 3 rfl rfl, by decide +kernel, by decide +kernel, by decide +kernel, by decide +kernel⟩
theorem sc_X5_173 : sm_sV RX5 173 mX0_findBumped 1 := ⟨sm_tc ck_2_6_in 15 rfl rfl, sm_tc ck_3_4_in 7 rfl rfl, sm_tc ck_2_6_in 13 rfl rfl, sm_tc ck_2_6_in 14 rfl rfl, sm_tc ck_1_0_in 3 rfl rfl, by decide +kernel, by decide +kernel, by decide +kernel, by decide +kernel⟩
theorem sc_L_133 : sm_sS RL 133 mL_pass 2 := ⟨sm_tc ck_3_4_in 10 rfl rfl, sm_tc ck_3_4_in 8 rfl rfl, sm_tc ck_3_4_in 9 rfl rfl, sm_tc ck_1_0_in 0 rfl rfl, by decide +kernel, by decide +kernel, by decide +kernel, by decide +kernel⟩
theorem sc_L_43 : sm_sV RL 43 mX5_pass 0 := ⟨sm_tc ck_3_4_in 14 rfl rfl, sm_tc ck_3_4_in 11 rfl rfl, sm_tc ck_3_4_in 12 rfl rfl, sm_tc ck_3_4_in 13 rfl rfl, sm_tc ck_1_0_in 1 rfl rfl, by decide +kernel, by decide +kernel, by decide +kernel, by decide +kernel⟩
theorem sc_X5_176 : sm_sV RX5 176 mX0_hasTurn 0 := ⟨sm_tc ck_2_4_in 29 rfl rfl, sm_tc ck_3_4_in 15 rfl rfl, sm_tc ck_2_4_in 27 rfl rfl, sm_tc ck_2_4_in 28 rfl rfl, sm_tc ck_1_0_in 3 rfl rfl, by decide +kernel, by decide +kernel, by decide +kernel, by decide +kernel⟩
theorem sc_X5_181 : sm_sV RX5 181 mX0_whoseTurn 0 := ⟨sm_tc ck_3_0_in 22 rfl rfl, sm_tc ck_3_4_in 17 rfl rfl, sm_tc ck_3_0_in 20 rfl rfl, sm_tc ck_3_0_in 21 rfl rfl, sm_tc ck_1_0_in 3 rfl rfl, by decide +kernel, by decide +kernel, by decide +kernel, by decide +kernel⟩
theorem sc_L_136 : sm_sS RL 136 mL_play 2 := ⟨sm_tc ck_3_4_in 20 rfl rfl, sm_tc ck_3_4_in 18 rfl rfl, sm_tc ck_3_4_in 19 rfl rfl, sm_tc ck_1_0_in 0 rfl rfl, by decide +kernel, by decide +kernel, by decide +kernel, by decide +kernel⟩
theorem sc_L_46 : sm_sV RL 46 mX5_play 0 := ⟨sm_tc ck_3_4_in 24 rfl rfl, sm_tc ck_3_4_in 21 rfl rfl, sm_tc ck_3_4_in 22 rfl rfl, sm_tc ck_3_4_in 23 rfl rfl, sm_tc ck_1_0_in 1 rfl rfl, by decide +kernel, by decide +kernel, by decide +kernel, by decide +kernel⟩
theorem sc_X5_184 : sm_sV RX5 184 mX0_playTurn 0 := ⟨sm_tc ck_3_4_in 28 rfl rfl, sm_tc ck_3_4_in 25 rfl rfl, sm_tc ck_3_4_in 26 rfl rfl, sm_tc ck_3_4_in 27 rfl rfl, sm_tc ck_1_0_in 3 rfl rfl, by decide +kernel, by decide +kernel, by decide +kernel, by decide +kernel⟩
theorem sc_X0_180 : sm_sV RX0 180 mX0_findBest 0 := ⟨sm_tc ck_3_5_in 2 rfl rfl, sm_tc ck_3_4_in 29 rfl rfl, sm_tc ck_3_5_in 0 rfl rfl, sm_tc ck_3_5_in 1 rfl rfl, sm_tc ck_1_0_in 3 rfl rfl, by decide +kernel, by decide +kernel, by decide +kernel, by decide +kernel⟩
theorem sc_X0_167 : sm_sV RX0 167 mX0_worthOfTried 0 := ⟨sm_tc ck_3_5_in 10 rfl rfl, sm_tc ck_3_5_in 7 rfl rfl, sm_tc ck_3_5_in 8 rfl rfl, sm_tc ck_3_5_in 9 rfl rfl, sm_tc ck_1_0_in 3 rfl rfl, by decide +kernel, by decide +kernel, by decide +kernel, by decide +kernel⟩
theorem sc_X0_107 : sm_sV RX0 107 mX3_total 0 := ⟨sm_tc ck_3_2_in 3 rfl rfl, sm_tc ck_3_5_in 11 rfl rfl, sm_tc ck_3_2_in 1 rfl rfl, sm_tc ck_3_2_in 2 rfl rfl, sm_tc ck_1_0_in 4 rfl rfl, by decide +kernel, by decide +kernel, by decide +kernel, by decide +kernel⟩
theorem sc_X0_183 : sm_sV RX0 183 mX0_putWorker 2 := ⟨sm_tc ck_2_6_in 3 rfl rfl, sm_tc ck_3_5_in 12 rfl rfl, sm_tc ck_2_6_in 1 rfl rfl, sm_tc ck_2_6_in 2 rfl rfl, sm_tc ck_1_0_in 3 rfl rfl, by decide +kernel, by decide +kernel, by decide +kernel, by decide +kernel⟩
theorem sc_X0_186 : sm_sV RX0 186 mX0_passTurn 0 := ⟨sm_tc ck_2_4_in 25 rfl rfl, sm_tc ck_3_5_in 13 rfl rfl, sm_tc ck_2_4_in 23 rfl rfl, sm_tc ck_2_4_in 24 rfl rfl, sm_tc ck_1_0_in 3 rfl rfl, by decide +kernel, by decide +kernel, by decide +kernel, by decide +kernel⟩
theorem sc_L_139 : sm_sS RL 139 mL_set 4 := ⟨sm_tc ck_3_5_in 16 rfl rfl, sm_tc ck_3_5_in 14 rfl rfl, sm_tc ck_3_5_in 15 rfl rfl, sm_tc ck_1_0_in 0 rfl rfl, by decide +kernel, by decide +kernel, by decide +kernel, by decide +kernel⟩
theorem sc_L_49 : sm_sV RL 49 mX5_set 2 := ⟨sm_tc ck_3_5_in 20 rfl rfl, sm_tc ck_3_5_in 17 rfl rfl, sm_tc ck_3_5_in 18 rfl rfl, sm_tc ck_3_5_in 19 rfl rfl, sm_tc ck_1_0_in 1 rfl rfl, by decide +kernel, by decide +kernel, by decide +kernel, by decide +kernel⟩
theorem sc_X5_187 : sm_sS RX5 187 mX5_isSettingValue 2 := ⟨sm_tc ck_3_5_in 23 rfl rfl, sm_tc ck_3_5_in 21 rfl rfl, sm_tc ck_3_5_in 22 rfl rfl, sm_tc ck_1_0_in 1 rfl rfl, by decide +kernel, by decide +kernel, by decide +kernel, by decide +kernel⟩
theorem sc_L_142 : sm_sS RL 142 mL_undo 2 := ⟨sm_tc ck_3_6_in 1 rfl rfl, sm_tc ck_3_5_in 29 rfl rfl, sm_tc ck_3_6_in 0 rfl rfl, sm_tc ck_1_0_in 0 rfl rfl, by decide +kernel, by decide +kernel, by decide +kernel, by decide +kernel⟩
theorem sc_L_52 : sm_sV RL 52 mX5_undo 0 := ⟨sm_tc ck_3_6_in 5 rfl rfl, sm_tc ck_3_6_in 2 rfl rfl, sm_tc ck_3_6_in 3 rfl rfl, sm_tc ck_3_6_in 4 rfl rfl, sm_tc ck_1_0_in 1 rfl rfl, by decide +kernel, by decide +kernel, by decide +kernel, by decide +kernel⟩
theorem sc_X5_197 : sm_sV RX5 197 mX1_takeBack 1 := ⟨sm_tc ck_3_6_in 10 rfl rfl, sm_tc ck_3_6_in 7 rfl rfl, sm_tc ck_3_6_in 8 rfl rfl, sm_tc ck_3_6_in 9 rfl rfl, sm_tc ck_1_0_in 6 rfl rfl, by decide +kernel, by decide +kernel, by decide +kernel, by decide +kernel⟩
theorem sc_L_145 : sm_sS RL 145 mL_brings 4 := ⟨sm_tc ck_3_6_in 13 rfl rfl, sm_tc ck_3_6_in 11 rfl rfl, sm_tc ck_3_6_in 12 rfl rfl, sm_tc ck_1_0_in 0 rfl rfl, by decide +kernel, by decide +kernel, by decide +kernel, by decide +kernel⟩
theorem sc_L_55 : sm_sV RL 55 mX5_brings 2 := ⟨sm_tc ck_3_6_in 17 rfl rfl, sm_tc ck_3_6_in 14 rfl rfl, sm_tc ck_3_6_in 15 rfl rfl, sm_tc ck_3_6_in 16 rfl rfl, sm_tc ck_1_0_in 1 rfl rfl, by decide +kernel, by decide +kernel, by decide +kernel, by decide +kernel⟩
theorem sc_X5_200 : sm_sV RX5 200 mX0_worth 2 := ⟨sm_tc ck_3_6_in 21 rfl rfl, sm_tc ck_3_6_in 18 rfl rfl, sm_tc ck_3_6_in 19 rfl rfl, sm_tc ck_3_6_in 20 rfl rfl, sm_tc ck_1_0_in 3 rfl rfl, by decide +kernel, by decide +kernel, by decide +kernel, by decide +kernel⟩
theorem sc_L_148 : sm_sS RL 148 mL_bumps 3 := ⟨sm_tc ck_3_6_in 24 rfl rfl, sm_tc ck_3_6_in 22 rfl rfl, sm_tc ck_3_6_in 23 rfl rfl, sm_tc ck_1_0_in 0 rfl rfl, by decide +kernel, by decide +kernel, by decide +kernel, by decide +kernel⟩
theorem sc_L_58 : sm_sV RL 58 mX5_bumps 1 := ⟨sm_tc ck_3_6_in 28 rfl rfl, sm_tc ck_3_6_in 25 rfl rfl, sm_tc ck_3_6_in 26 rfl rfl, sm_tc ck_3_6_in 27 rfl rfl, sm_tc ck_1_0_in 1 rfl rfl, by decide +kernel, by decide +kernel, by decide +kernel, by decide +kernel⟩
theorem sc_L_151 : sm_sS RL 151 mL_best 3 := ⟨sm_tc ck_3_7_in 1 rfl rfl, sm_tc ck_3_6_in 29 rfl rfl, sm_tc ck_3_7_in 0 rfl rfl, sm_tc ck_1_0_in 0 rfl rfl, by decide +kernel, by decide +kernel, by decide +kernel, by decide +kernel⟩
theorem sc_L_61 : sm_sV RL 61 mX5_best 1 := ⟨sm_tc ck_3_7_in 5 rfl rfl, sm_tc ck_3_7_in 2 rfl rfl, sm_tc ck_3_7_in 3 rfl rfl, sm_tc ck_3_7_in 4 rfl rfl, sm_tc ck_1_0_in 1 rfl rfl, by decide +kernel, by decide +kernel, by decide +kernel, by decide +kernel⟩
theorem sc_X5_204 : sm_sV RX5 204 mX0_findBest 0 := ⟨sm_tc ck_3_5_in 2 rfl rfl, sm_tc ck_3_7_in 6 rfl rfl, sm_tc ck_3_5_in 0 rfl rfl, sm_tc ck_3_5_in 1 rfl rfl, sm_tc ck_1_0_in 3 rfl rfl, by decide +kernel, by decide +kernel, by decide +kernel, by decide +kernel⟩
theorem sc_L_154 : sm_sS RL 154 mL_loses 4 := ⟨sm_tc ck_3_7_in 9 rfl rfl, sm_tc ck_3_7_in 7 rfl rfl, sm_tc ck_3_7_in 8 rfl rfl, sm_tc ck_1_0_in 0 rfl rfl, by decide +kernel, by decide +kernel, by decide +kernel, by decide +kernel⟩
theorem sc_L_64 : sm_sV RL 64 mX5_loses 2 := ⟨sm_tc ck_3_7_in 13 rfl rfl, sm_tc ck_3_7_in 10 rfl rfl, sm_tc ck_3_7_in 11 rfl rfl, sm_tc ck_3_7_in 12 rfl rfl, sm_tc ck_1_0_in 1 rfl rfl, by decide +kernel, by decide +kernel, by decide +kernel, by decide +kernel⟩
theorem sc_X5_219 : sm_sV RX5 219 mX0_lossOf 2 := ⟨sm_tc ck_3_7_in 17 rfl rfl, sm_tc ck_3_7_in 14 rfl rfl, sm_tc ck_3_7_in 15 rfl rfl, sm_tc ck_3_7_in 16 rfl rfl, sm_tc ck_1_0_in 3 rfl rfl, by decide +kernel, by decide +kernel, by decide +kernel, by decide +kernel⟩
theorem sc_L_157 : sm_sS RL 157 mL_goesOn 3 := ⟨sm_tc ck_3_7_in 20 rfl rfl, sm_tc ck_3_7_in 18 rfl rfl, sm_tc ck_3_7_in 19 rfl rfl, sm_tc ck_1_0_in 0 rfl rfl, by decide +kernel, by decide +kernel, by decide +kernel, by decide +kernel⟩
theorem sc_L_67 : sm_sV RL 67 mX5_goesOn 1 := ⟨sm_tc ck_3_7_in 24 rfl rfl, sm_tc ck_3_7_in 21 rfl rfl, sm_tc ck_3_7_in 22 rfl rfl, sm_tc ck_3_7_in 23 rfl rfl, sm_tc ck_1_0_in 1 rfl rfl, by decide +kernel, by decide +kernel, by decide +kernel, by decide +kernel⟩
theorem sc_X5_224 : sm_sV RX5 224 mX0_copyFrom 1 := ⟨sm_tc ck_3_3_in 13 rfl rfl, sm_tc ck_3_7_in 26 rfl rfl, sm_tc ck_3_3_in 11 rfl rfl, sm_tc ck_3_3_in 12 rfl rfl, sm_tc ck_1_0_in 3 rfl rfl, by decide +kernel, by decide +kernel, by decide +kernel, by decide +kernel⟩
theorem sc_X5_227 : sm_sV RX5 227 mX0_playToEnd 0 := ⟨sm_tc ck_4_0_in 0 rfl rfl, sm_tc ck_3_7_in 27 rfl rfl, sm_tc ck_3_7_in 28 rfl rfl, sm_tc ck_3_7_in 29 rfl rfl, sm_tc ck_1_0_in 3 rfl rfl, by decide +kernel, by decide +kernel, by decide +kernel, by decide +kernel⟩
theorem sc_X0_190 : sm_sV RX0 190 mX0_playTurn 0 := ⟨sm_tc ck_3_4_in 28 rfl rfl, sm_tc ck_4_0_in 2 rfl rfl, sm_tc ck_3_4_in 26 rfl rfl, sm_tc ck_3_4_in 27 rfl rfl, sm_tc ck_1_0_in 3 rfl rfl, by decide +kernel, by decide +kernel, by decide +kernel, by decide +kernel⟩
theorem sc_X5_230 : sm_sV RX5 230 mX0_findLeader 0 := ⟨sm_tc ck_4_0_in 6 rfl rfl, sm_tc ck_4_0_in 3 rfl rfl, sm_tc ck_4_0_in 4 rfl rfl, sm_tc ck_4_0_in 5 rfl rfl, sm_tc ck_1_0_in 3 rfl rfl, by decide +kernel, by decide +kernel, by decide +kernel, by decide +kernel⟩
theorem sc_X5_233 : sm_sV RX5 233 mX3_total 0 := ⟨sm_tc ck_3_2_in 3 rfl rfl, sm_tc ck_4_0_in 7 rfl rfl, sm_tc ck_3_2_in 1 rfl rfl, sm_tc ck_3_2_in 2 rfl rfl, sm_tc ck_1_0_in 4 rfl rfl, by decide +kernel, by decide +kernel, by decide +kernel, by decide +kernel⟩
theorem sc_L_160 : sm_sS RL 160 mL_weather 3 := ⟨sm_tc ck_4_0_in 10 rfl rfl, sm_tc ck_4_0_in 8 rfl rfl, sm_tc ck_4_0_in 9 rfl rfl, sm_tc ck_1_0_in 0 rfl rfl, by decide +kernel, by decide +kernel, by decide +kernel, by decide +kernel⟩
theorem sc_L_70 : sm_sV RL 70 mX5_weather 1 := ⟨sm_tc ck_4_0_in 14 rfl rfl, sm_tc ck_4_0_in 11 rfl rfl, sm_tc ck_4_0_in 12 rfl rfl, sm_tc ck_4_0_in 13 rfl rfl, sm_tc ck_1_0_in 1 rfl rfl, by decide +kernel, by decide +kernel, by decide +kernel, by decide +kernel⟩
theorem sc_X5_243 : sm_sS RX5 243 mX5_nextX 1 := ⟨sm_tc ck_2_4_in 4 rfl rfl, sm_tc ck_4_0_in 16 rfl rfl, sm_tc ck_2_4_in 3 rfl rfl, sm_tc ck_1_0_in 1 rfl rfl, by decide +kernel, by decide +kernel, by decide +kernel, by decide +kernel⟩
theorem sc_X5_247 : sm_sS RX5 247 mX5_weatherOf 1 := ⟨sm_tc ck_2_4_in 9 rfl rfl, sm_tc ck_4_0_in 17 rfl rfl, sm_tc ck_2_4_in 8 rfl rfl, sm_tc ck_1_0_in 1 rfl rfl, by decide +kernel, by decide +kernel, by decide +kernel, by decide +kernel⟩
theorem sc_L_163 : sm_sS RL 163 mL_runScript 4 := ⟨sm_tc ck_4_0_in 20 rfl rfl, sm_tc ck_4_0_in 18 rfl rfl, sm_tc ck_4_0_in 19 rfl rfl, sm_tc ck_1_0_in 0 rfl rfl, by decide +kernel, by decide +kernel, by decide +kernel, by decide +kernel⟩
theorem sc_L_73 : sm_sV RL 73 mX5_runScript 2 := ⟨sm_tc ck_4_0_in 24 rfl rfl, sm_tc ck_4_0_in 21 rfl rfl, sm_tc ck_4_0_in 22 rfl rfl, sm_tc ck_4_0_in 23 rfl rfl, sm_tc ck_1_0_in 1 rfl rfl, by decide +kernel, by decide +kernel, by decide +kernel, by decide +kernel⟩
theorem sc_X5_253 : sm_sS RX5 253 mX5_dropGroups 2 := ⟨sm_tc ck_4_0_in 28 rfl rfl, sm_tc ck_4_0_in 26 rfl rfl, sm_tc ck_4_0_in 27 rfl rfl, sm_tc ck_1_0_in 1 rfl rfl, by decide +kernel, by decide +kernel, by decide +kernel, by decide +kernel⟩
theorem sc_X5_261 : sm_sV RX5 261 mX5_doCommand 1 := ⟨sm_tc ck_4_1_in 4 rfl rfl, sm_tc ck_4_1_in 1 rfl rfl, sm_tc ck_4_1_in 3 rfl rfl, sm_tc ck_0_0_in 3 rfl rfl, sm_tc ck_1_0_in 1 rfl rfl, by decide +kernel, by decide +kernel, by decide +kernel, by decide +kernel⟩
theorem sc_X5_264 : sm_sV RX5 264 mX5_trialSets 2 := ⟨sm_tc ck_4_1_in 8 rfl rfl, sm_tc ck_4_1_in 5 rfl rfl, sm_tc ck_4_1_in 7 rfl rfl, sm_tc ck_0_0_in 4 rfl rfl, sm_tc ck_1_0_in 1 rfl rfl, by decide +kernel, by decide +kernel, by decide +kernel, by decide +kernel⟩
theorem sc_L_166 : sm_sS RL 166 mL_simulate 4 := ⟨sm_tc ck_4_1_in 11 rfl rfl, sm_tc ck_4_1_in 9 rfl rfl, sm_tc ck_4_1_in 10 rfl rfl, sm_tc ck_1_0_in 0 rfl rfl, by decide +kernel, by decide +kernel, by decide +kernel, by decide +kernel⟩
theorem sc_L_76 : sm_sV RL 76 mX5_simulate 2 := ⟨sm_tc ck_4_1_in 15 rfl rfl, sm_tc ck_4_1_in 12 rfl rfl, sm_tc ck_4_1_in 13 rfl rfl, sm_tc ck_4_1_in 14 rfl rfl, sm_tc ck_1_0_in 1 rfl rfl, by decide +kernel, by decide +kernel, by decide +kernel, by decide +kernel⟩
theorem sc_X5_279 : sm_sV RX5 279 mX5_simulateTurn 1 := ⟨sm_tc ck_4_1_in 20 rfl rfl, sm_tc ck_4_1_in 17 rfl rfl, sm_tc ck_4_1_in 19 rfl rfl, sm_tc ck_0_0_in 5 rfl rfl, sm_tc ck_1_0_in 1 rfl rfl, by decide +kernel, by decide +kernel, by decide +kernel, by decide +kernel⟩
theorem sc_X5_289 : sm_sS RX5 289 mX5_simulatedChoice 2 := ⟨sm_tc ck_4_1_in 23 rfl rfl, sm_tc ck_4_1_in 21 rfl rfl, sm_tc ck_4_1_in 22 rfl rfl, sm_tc ck_1_0_in 1 rfl rfl, by decide +kernel, by decide +kernel, by decide +kernel, by decide +kernel⟩
theorem sc_X5_286 : sm_sV RX5 286 mX0_sumOfTotals 0 := ⟨sm_tc ck_4_1_in 27 rfl rfl, sm_tc ck_4_1_in 24 rfl rfl, sm_tc ck_4_1_in 25 rfl rfl, sm_tc ck_4_1_in 26 rfl rfl, sm_tc ck_1_0_in 3 rfl rfl, by decide +kernel, by decide +kernel, by decide +kernel, by decide +kernel⟩
theorem sc_L_170 : sm_sS RL 170 mL_save 3 := ⟨sm_tc ck_4_2_in 0 rfl rfl, sm_tc ck_4_1_in 28 rfl rfl, sm_tc ck_4_1_in 29 rfl rfl, sm_tc ck_1_0_in 0 rfl rfl, by decide +kernel, by decide +kernel, by decide +kernel, by decide +kernel⟩
theorem sc_L_80 : sm_sV RL 80 mX5_save 1 := ⟨sm_tc ck_4_2_in 4 rfl rfl, sm_tc ck_4_2_in 1 rfl rfl, sm_tc ck_4_2_in 2 rfl rfl, sm_tc ck_4_2_in 3 rfl rfl, sm_tc ck_1_0_in 1 rfl rfl, by decide +kernel, by decide +kernel, by decide +kernel, by decide +kernel⟩
theorem sc_L_173 : sm_sS RL 173 mL_restore 3 := ⟨sm_tc ck_4_2_in 8 rfl rfl, sm_tc ck_4_2_in 6 rfl rfl, sm_tc ck_4_2_in 7 rfl rfl, sm_tc ck_1_0_in 0 rfl rfl, by decide +kernel, by decide +kernel, by decide +kernel, by decide +kernel⟩
theorem sc_L_83 : sm_sV RL 83 mX5_restore 1 := ⟨sm_tc ck_4_2_in 12 rfl rfl, sm_tc ck_4_2_in 9 rfl rfl, sm_tc ck_4_2_in 10 rfl rfl, sm_tc ck_4_2_in 11 rfl rfl, sm_tc ck_1_0_in 1 rfl rfl, by decide +kernel, by decide +kernel, by decide +kernel, by decide +kernel⟩
theorem sc_L_89 : sm_sI RL 89 mX6_init 0 := ⟨sm_tc ck_4_2_in 18 rfl rfl, sm_tc ck_4_2_in 16 rfl rfl, sm_tc ck_4_2_in 17 rfl rfl, rfl, sm_tc ck_1_0_in 7 rfl rfl, by decide +kernel, by decide +kernel, by decide +kernel, by decide +kernel⟩
theorem sc_X6_46 : sm_sV RX6 46 mX6_settles 0 := ⟨sm_tc ck_4_2_in 23 rfl rfl, sm_tc ck_4_2_in 20 rfl rfl, sm_tc ck_4_2_in 22 rfl rfl, sm_tc ck_0_0_in 6 rfl rfl, sm_tc ck_1_0_in 7 rfl rfl, by decide +kernel, by decide +kernel, by decide +kernel, by decide +kernel⟩
theorem sc_L_96 : sm_sV RL 96 mX6_thrown 0 := ⟨sm_tc ck_4_5_in 11 rfl rfl, sm_tc ck_4_5_in 8 rfl rfl, sm_tc ck_4_5_in 9 rfl rfl, sm_tc ck_4_5_in 10 rfl rfl, sm_tc ck_1_0_in 7 rfl rfl, by decide +kernel, by decide +kernel, by decide +kernel, by decide +kernel⟩
theorem sc_L_95 : sm_sV RL 95 mX6_append 1 := ⟨sm_tc ck_4_5_in 15 rfl rfl, sm_tc ck_4_5_in 12 rfl rfl, sm_tc ck_4_5_in 13 rfl rfl, sm_tc ck_4_5_in 14 rfl rfl, sm_tc ck_1_0_in 7 rfl rfl, by decide +kernel, by decide +kernel, by decide +kernel, by decide +kernel⟩
theorem sc_X6_53 : sm_sS RX6 53 mX6_in 3 := ⟨sm_tc ck_4_5_in 18 rfl rfl, sm_tc ck_4_5_in 16 rfl rfl, sm_tc ck_4_5_in 17 rfl rfl, sm_tc ck_1_0_in 7 rfl rfl, by decide +kernel, by decide +kernel, by decide +kernel, by decide +kernel⟩
theorem sc_X6_167 : sm_sV RX6 167 mX6_fails 1 := ⟨sm_tc ck_4_5_in 22 rfl rfl, sm_tc ck_4_5_in 19 rfl rfl, sm_tc ck_4_5_in 21 rfl rfl, sm_tc ck_0_0_in 7 rfl rfl, sm_tc ck_1_0_in 7 rfl rfl, by decide +kernel, by decide +kernel, by decide +kernel, by decide +kernel⟩
theorem sc_L_102 : sm_sV RL 102 mX6_clearText 0 := ⟨sm_tc ck_4_5_in 26 rfl rfl, sm_tc ck_4_5_in 23 rfl rfl, sm_tc ck_4_5_in 24 rfl rfl, sm_tc ck_4_5_in 25 rfl rfl, sm_tc ck_1_0_in 7 rfl rfl, by decide +kernel, by decide +kernel, by decide +kernel, by decide +kernel⟩
theorem sc_L_106 : sm_sV RL 106 mX6_errorPosition 0 := ⟨sm_tc ck_4_6_in 0 rfl rfl, sm_tc ck_4_5_in 27 rfl rfl, sm_tc ck_4_5_in 28 rfl rfl, sm_tc ck_4_5_in 29 rfl rfl, sm_tc ck_1_0_in 7 rfl rfl, by decide +kernel, by decide +kernel, by decide +kernel, by decide +kernel⟩
theorem sc_X6_202 : sm_sV RX6 202 mX6_reads 0 := ⟨sm_tc ck_4_6_in 4 rfl rfl, sm_tc ck_4_6_in 1 rfl rfl, sm_tc ck_4_6_in 3 rfl rfl, sm_tc ck_0_0_in 8 rfl rfl, sm_tc ck_1_0_in 7 rfl rfl, by decide +kernel, by decide +kernel, by decide +kernel, by decide +kernel⟩
theorem sc_X6_187 : sm_sV RX6 187 mX6_wants 2 := ⟨sm_tc ck_4_6_in 8 rfl rfl, sm_tc ck_4_6_in 5 rfl rfl, sm_tc ck_4_6_in 7 rfl rfl, sm_tc ck_0_0_in 9 rfl rfl, sm_tc ck_1_0_in 7 rfl rfl, by decide +kernel, by decide +kernel, by decide +kernel, by decide +kernel⟩
theorem sc_X6_180 : sm_sV RX6 180 mX6_letter 0 := ⟨sm_tc ck_4_6_in 12 rfl rfl, sm_tc ck_4_6_in 9 rfl rfl, sm_tc ck_4_6_in 11 rfl rfl, sm_tc ck_0_0_in 10 rfl rfl, sm_tc ck_1_0_in 7 rfl rfl, by decide +kernel, by decide +kernel, by decide +kernel, by decide +kernel⟩
theorem sc_X6_199 : sm_sV RX6 199 mX6_readsMove 0 := ⟨sm_tc ck_4_6_in 16 rfl rfl, sm_tc ck_4_6_in 13 rfl rfl, sm_tc ck_4_6_in 15 rfl rfl, sm_tc ck_0_0_in 11 rfl rfl, sm_tc ck_1_0_in 7 rfl rfl, by decide +kernel, by decide +kernel, by decide +kernel, by decide +kernel⟩
theorem sc_X6_184 : sm_sS RX6 184 mX6_placeOf 1 := ⟨sm_tc ck_4_6_in 19 rfl rfl, sm_tc ck_4_6_in 17 rfl rfl, sm_tc ck_4_6_in 18 rfl rfl, sm_tc ck_1_0_in 7 rfl rfl, by decide +kernel, by decide +kernel, by decide +kernel, by decide +kernel⟩
theorem sc_L_110 : sm_sV RL 110 mX6_load 0 := ⟨sm_tc ck_4_6_in 23 rfl rfl, sm_tc ck_4_6_in 20 rfl rfl, sm_tc ck_4_6_in 21 rfl rfl, sm_tc ck_4_6_in 22 rfl rfl, sm_tc ck_1_0_in 7 rfl rfl, by decide +kernel, by decide +kernel, by decide +kernel, by decide +kernel⟩
theorem sc_X6_205 : sm_sV RX6 205 mX6_begins 2 := ⟨sm_tc ck_4_6_in 27 rfl rfl, sm_tc ck_4_6_in 24 rfl rfl, sm_tc ck_4_6_in 26 rfl rfl, sm_tc ck_0_0_in 12 rfl rfl, sm_tc ck_1_0_in 7 rfl rfl, by decide +kernel, by decide +kernel, by decide +kernel, by decide +kernel⟩
theorem sc_X6_85 : sm_sV RX6 85 mX6_adds 3 := ⟨sm_tc ck_4_7_in 1 rfl rfl, sm_tc ck_4_6_in 28 rfl rfl, sm_tc ck_4_7_in 0 rfl rfl, sm_tc ck_0_0_in 13 rfl rfl, sm_tc ck_1_0_in 7 rfl rfl, by decide +kernel, by decide +kernel, by decide +kernel, by decide +kernel⟩
theorem sc_X6_93 : sm_sV RX6 93 mX6_throwsDie 0 := ⟨sm_tc ck_4_7_in 5 rfl rfl, sm_tc ck_4_7_in 2 rfl rfl, sm_tc ck_4_7_in 4 rfl rfl, sm_tc ck_0_0_in 14 rfl rfl, sm_tc ck_1_0_in 7 rfl rfl, by decide +kernel, by decide +kernel, by decide +kernel, by decide +kernel⟩
theorem sc_X6_70 : sm_sS RX6 70 mX6_next 1 := ⟨sm_tc ck_4_7_in 8 rfl rfl, sm_tc ck_4_7_in 6 rfl rfl, sm_tc ck_4_7_in 7 rfl rfl, sm_tc ck_1_0_in 7 rfl rfl, by decide +kernel, by decide +kernel, by decide +kernel, by decide +kernel⟩
theorem sc_X6_74 : sm_sS RX6 74 mX6_die 1 := ⟨sm_tc ck_4_7_in 13 rfl rfl, sm_tc ck_4_7_in 11 rfl rfl, sm_tc ck_4_7_in 12 rfl rfl, sm_tc ck_1_0_in 7 rfl rfl, by decide +kernel, by decide +kernel, by decide +kernel, by decide +kernel⟩
theorem sc_X6_209 : sm_sV RX6 209 mX6_leavesOut 2 := ⟨sm_tc ck_4_7_in 17 rfl rfl, sm_tc ck_4_7_in 14 rfl rfl, sm_tc ck_4_7_in 16 rfl rfl, sm_tc ck_0_0_in 15 rfl rfl, sm_tc ck_1_0_in 7 rfl rfl, by decide +kernel, by decide +kernel, by decide +kernel, by decide +kernel⟩
theorem sc_X6_106 : sm_sV RX6 106 mX6_isOn 0 := ⟨sm_tc ck_4_7_in 21 rfl rfl, sm_tc ck_4_7_in 18 rfl rfl, sm_tc ck_4_7_in 20 rfl rfl, sm_tc ck_0_0_in 16 rfl rfl, sm_tc ck_1_0_in 7 rfl rfl, by decide +kernel, by decide +kernel, by decide +kernel, by decide +kernel⟩
theorem sc_X6_164 : sm_sV RX6 164 mX6_passes 0 := ⟨sm_tc ck_4_7_in 25 rfl rfl, sm_tc ck_4_7_in 22 rfl rfl, sm_tc ck_4_7_in 24 rfl rfl, sm_tc ck_0_0_in 17 rfl rfl, sm_tc ck_1_0_in 7 rfl rfl, by decide +kernel, by decide +kernel, by decide +kernel, by decide +kernel⟩
theorem sc_X6_158 : sm_sV RX6 158 mX6_goesTo 0 := ⟨sm_tc ck_4_7_in 29 rfl rfl, sm_tc ck_4_7_in 26 rfl rfl, sm_tc ck_4_7_in 28 rfl rfl, sm_tc ck_0_0_in 18 rfl rfl, sm_tc ck_1_0_in 7 rfl rfl, by decide +kernel, by decide +kernel, by decide +kernel, by decide +kernel⟩
theorem sc_X6_78 : sm_sV RX6 78 mX6_of 2 := ⟨sm_tc ck_5_0_in 3 rfl rfl, sm_tc ck_5_0_in 0 rfl rfl, sm_tc ck_5_0_in 2 rfl rfl, sm_tc ck_0_0_in 19 rfl rfl, sm_tc ck_1_0_in 7 rfl rfl, by decide +kernel, by decide +kernel, by decide +kernel, by decide +kernel⟩
theorem sc_X6_96 : sm_sV RX6 96 mX6_endsRound 0 := ⟨sm_tc ck_5_0_in 7 rfl rfl, sm_tc ck_5_0_in 4 rfl rfl, sm_tc ck_5_0_in 6 rfl rfl, sm_tc ck_0_0_in 20 rfl rfl, sm_tc ck_1_0_in 7 rfl rfl, by decide +kernel, by decide +kernel, by decide +kernel, by decide +kernel⟩
theorem sc_X6_89 : sm_sV RX6 89 mX6_ends 1 := ⟨sm_tc ck_5_0_in 11 rfl rfl, sm_tc ck_5_0_in 8 rfl rfl, sm_tc ck_5_0_in 10 rfl rfl, sm_tc ck_0_0_in 21 rfl rfl, sm_tc ck_1_0_in 7 rfl rfl, by decide +kernel, by decide +kernel, by decide +kernel, by decide +kernel⟩
theorem sc_X6_82 : sm_sV RX6 82 mX6_loss 2 := ⟨sm_tc ck_5_0_in 15 rfl rfl, sm_tc ck_5_0_in 12 rfl rfl, sm_tc ck_5_0_in 14 rfl rfl, sm_tc ck_0_0_in 22 rfl rfl, sm_tc ck_1_0_in 7 rfl rfl, by decide +kernel, by decide +kernel, by decide +kernel, by decide +kernel⟩
theorem sc_X6_127 : sm_sV RX6 127 mX6_canPlace 2 := ⟨sm_tc ck_5_0_in 19 rfl rfl, sm_tc ck_5_0_in 16 rfl rfl, sm_tc ck_5_0_in 18 rfl rfl, sm_tc ck_0_0_in 23 rfl rfl, sm_tc ck_1_0_in 7 rfl rfl, by decide +kernel, by decide +kernel, by decide +kernel, by decide +kernel⟩
theorem sc_X6_110 : sm_sV RX6 110 mX6_isFull 1 := ⟨sm_tc ck_5_0_in 23 rfl rfl, sm_tc ck_5_0_in 20 rfl rfl, sm_tc ck_5_0_in 22 rfl rfl, sm_tc ck_0_0_in 24 rfl rfl, sm_tc ck_1_0_in 7 rfl rfl, by decide +kernel, by decide +kernel, by decide +kernel, by decide +kernel⟩
theorem sc_X6_99 : sm_sV RX6 99 mX6_workersAt 1 := ⟨sm_tc ck_5_0_in 27 rfl rfl, sm_tc ck_5_0_in 24 rfl rfl, sm_tc ck_5_0_in 26 rfl rfl, sm_tc ck_0_0_in 25 rfl rfl, sm_tc ck_1_0_in 7 rfl rfl, by decide +kernel, by decide +kernel, by decide +kernel, by decide +kernel⟩
theorem sc_X6_114 : sm_sV RX6 114 mX6_bumpedAt 1 := ⟨sm_tc ck_5_1_in 1 rfl rfl, sm_tc ck_5_0_in 28 rfl rfl, sm_tc ck_5_1_in 0 rfl rfl, sm_tc ck_0_0_in 26 rfl rfl, sm_tc ck_1_0_in 7 rfl rfl, by decide +kernel, by decide +kernel, by decide +kernel, by decide +kernel⟩
theorem sc_X6_103 : sm_sV RX6 103 mX6_ownerAt 2 := ⟨sm_tc ck_5_1_in 5 rfl rfl, sm_tc ck_5_1_in 2 rfl rfl, sm_tc ck_5_1_in 4 rfl rfl, sm_tc ck_0_0_in 27 rfl rfl, sm_tc ck_1_0_in 7 rfl rfl, by decide +kernel, by decide +kernel, by decide +kernel, by decide +kernel⟩
theorem sc_X6_117 : sm_sV RX6 117 mX6_canWork 3 := ⟨sm_tc ck_5_1_in 9 rfl rfl, sm_tc ck_5_1_in 6 rfl rfl, sm_tc ck_5_1_in 8 rfl rfl, sm_tc ck_0_0_in 28 rfl rfl, sm_tc ck_1_0_in 7 rfl rfl, by decide +kernel, by decide +kernel, by decide +kernel, by decide +kernel⟩
theorem sc_X6_137 : sm_sV RX6 137 mX6_places 2 := ⟨sm_tc ck_5_1_in 13 rfl rfl, sm_tc ck_5_1_in 10 rfl rfl, sm_tc ck_5_1_in 12 rfl rfl, sm_tc ck_0_0_in 29 rfl rfl, sm_tc ck_1_0_in 7 rfl rfl, by decide +kernel, by decide +kernel, by decide +kernel, by decide +kernel⟩
theorem sc_X6_123 : sm_sV RX6 123 mX6_works 2 := ⟨sm_tc ck_5_1_in 17 rfl rfl, sm_tc ck_5_1_in 14 rfl rfl, sm_tc ck_5_1_in 16 rfl rfl, sm_tc ck_0_1_in 0 rfl rfl, sm_tc ck_1_0_in 7 rfl rfl, by decide +kernel, by decide +kernel, by decide +kernel, by decide +kernel⟩
theorem sc_X6_120 : sm_sV RX6 120 mX6_sells 3 := ⟨sm_tc ck_5_1_in 21 rfl rfl, sm_tc ck_5_1_in 18 rfl rfl, sm_tc ck_5_1_in 20 rfl rfl, sm_tc ck_0_1_in 1 rfl rfl, sm_tc ck_1_0_in 7 rfl rfl, by decide +kernel, by decide +kernel, by decide +kernel, by decide +kernel⟩
theorem sc_L_113 : sm_sV RL 113 mX6_about 1 := ⟨sm_tc ck_5_1_in 25 rfl rfl, sm_tc ck_5_1_in 22 rfl rfl, sm_tc ck_5_1_in 23 rfl rfl, sm_tc ck_5_1_in 24 rfl rfl, sm_tc ck_1_0_in 7 rfl rfl, by decide +kernel, by decide +kernel, by decide +kernel, by decide +kernel⟩
theorem sc_X6_215 : sm_sV RX6 215 mX6_tells 1 := ⟨sm_tc ck_5_1_in 29 rfl rfl, sm_tc ck_5_1_in 26 rfl rfl, sm_tc ck_5_1_in 28 rfl rfl, sm_tc ck_0_1_in 2 rfl rfl, sm_tc ck_1_0_in 7 rfl rfl, by decide +kernel, by decide +kernel, by decide +kernel, by decide +kernel⟩
theorem sc_X6_212 : sm_sV RX6 212 mX6_atPlaces 0 := ⟨sm_tc ck_5_2_in 3 rfl rfl, sm_tc ck_5_2_in 0 rfl rfl, sm_tc ck_5_2_in 2 rfl rfl, sm_tc ck_0_1_in 3 rfl rfl, sm_tc ck_1_0_in 7 rfl rfl, by decide +kernel, by decide +kernel, by decide +kernel, by decide +kernel⟩
theorem sc_L_117 : sm_sV RL 117 mX6_player 2 := ⟨sm_tc ck_5_2_in 7 rfl rfl, sm_tc ck_5_2_in 4 rfl rfl, sm_tc ck_5_2_in 5 rfl rfl, sm_tc ck_5_2_in 6 rfl rfl, sm_tc ck_1_0_in 7 rfl rfl, by decide +kernel, by decide +kernel, by decide +kernel, by decide +kernel⟩
theorem sc_X6_218 : sm_sV RX6 218 mX6_isPlayer 1 := ⟨sm_tc ck_5_2_in 11 rfl rfl, sm_tc ck_5_2_in 8 rfl rfl, sm_tc ck_5_2_in 10 rfl rfl, sm_tc ck_0_1_in 4 rfl rfl, sm_tc ck_1_0_in 7 rfl rfl, by decide +kernel, by decide +kernel, by decide +kernel, by decide +kernel⟩
theorem sc_X6_134 : sm_sV RX6 134 mX6_total 1 := ⟨sm_tc ck_5_2_in 15 rfl rfl, sm_tc ck_5_2_in 12 rfl rfl, sm_tc ck_5_2_in 14 rfl rfl, sm_tc ck_0_1_in 5 rfl rfl, sm_tc ck_1_0_in 7 rfl rfl, by decide +kernel, by decide +kernel, by decide +kernel, by decide +kernel⟩
theorem sc_L_120 : sm_sV RL 120 mX6_worker 2 := ⟨sm_tc ck_5_2_in 19 rfl rfl, sm_tc ck_5_2_in 16 rfl rfl, sm_tc ck_5_2_in 17 rfl rfl, sm_tc ck_5_2_in 18 rfl rfl, sm_tc ck_1_0_in 7 rfl rfl, by decide +kernel, by decide +kernel, by decide +kernel, by decide +kernel⟩
theorem sc_X6_221 : sm_sS RX6 221 mX6_isPlace 1 := ⟨sm_tc ck_5_2_in 22 rfl rfl, sm_tc ck_5_2_in 20 rfl rfl, sm_tc ck_5_2_in 21 rfl rfl, sm_tc ck_1_0_in 7 rfl rfl, by decide +kernel, by decide +kernel, by decide +kernel, by decide +kernel⟩
theorem sc_L_123 : sm_sV RL 123 mX6_setting 1 := ⟨sm_tc ck_5_2_in 26 rfl rfl, sm_tc ck_5_2_in 23 rfl rfl, sm_tc ck_5_2_in 24 rfl rfl, sm_tc ck_5_2_in 25 rfl rfl, sm_tc ck_1_0_in 7 rfl rfl, by decide +kernel, by decide +kernel, by decide +kernel, by decide +kernel⟩
theorem sc_L_129 : sm_sV RL 129 mX6_begin 2 := ⟨sm_tc ck_5_3_in 0 rfl rfl, sm_tc ck_5_2_in 27 rfl rfl, sm_tc ck_5_2_in 28 rfl rfl, sm_tc ck_5_2_in 29 rfl rfl, sm_tc ck_1_0_in 7 rfl rfl, by decide +kernel, by decide +kernel, by decide +kernel, by decide +kernel⟩
theorem sc_X6_224 : sm_sV RX6 224 mX6_remembers 0 := ⟨sm_tc ck_5_3_in 4 rfl rfl, sm_tc ck_5_3_in 1 rfl rfl, sm_tc ck_5_3_in 3 rfl rfl, sm_tc ck_0_1_in 6 rfl rfl, sm_tc ck_1_0_in 7 rfl rfl, by decide +kernel, by decide +kernel, by decide +kernel, by decide +kernel⟩
theorem sc_L_132 : sm_sV RL 132 mX6_place 2 := ⟨sm_tc ck_5_3_in 8 rfl rfl, sm_tc ck_5_3_in 5 rfl rfl, sm_tc ck_5_3_in 6 rfl rfl, sm_tc ck_5_3_in 7 rfl rfl, sm_tc ck_1_0_in 7 rfl rfl, by decide +kernel, by decide +kernel, by decide +kernel, by decide +kernel⟩
theorem sc_X6_227 : sm_sV RX6 227 mX6_refuses 2 := ⟨sm_tc ck_5_3_in 12 rfl rfl, sm_tc ck_5_3_in 9 rfl rfl, sm_tc ck_5_3_in 11 rfl rfl, sm_tc ck_0_1_in 7 rfl rfl, sm_tc ck_1_0_in 7 rfl rfl, by decide +kernel, by decide +kernel, by decide +kernel, by decide +kernel⟩
theorem sc_X6_152 : sm_sS RX6 152 mX6_isChoice 2 := ⟨sm_tc ck_5_3_in 15 rfl rfl, sm_tc ck_5_3_in 13 rfl rfl, sm_tc ck_5_3_in 14 rfl rfl, sm_tc ck_1_0_in 7 rfl rfl, by decide +kernel, by decide +kernel, by decide +kernel, by decide +kernel⟩
theorem sc_L_135 : sm_sV RL 135 mX6_pass 0 := ⟨sm_tc ck_5_3_in 19 rfl rfl, sm_tc ck_5_3_in 16 rfl rfl, sm_tc ck_5_3_in 17 rfl rfl, sm_tc ck_5_3_in 18 rfl rfl, sm_tc ck_1_0_in 7 rfl rfl, by decide +kernel, by decide +kernel, by decide +kernel, by decide +kernel⟩
theorem sc_L_138 : sm_sV RL 138 mX6_play 0 := ⟨sm_tc ck_5_3_in 23 rfl rfl, sm_tc ck_5_3_in 20 rfl rfl, sm_tc ck_5_3_in 21 rfl rfl, sm_tc ck_5_3_in 22 rfl rfl, sm_tc ck_1_0_in 7 rfl rfl, by decide +kernel, by decide +kernel, by decide +kernel, by decide +kernel⟩
theorem sc_X6_230 : sm_sV RX6 230 mX6_plays 0 := ⟨sm_tc ck_5_3_in 27 rfl rfl, sm_tc ck_5_3_in 24 rfl rfl, sm_tc ck_5_3_in 26 rfl rfl, sm_tc ck_0_1_in 8 rfl rfl, sm_tc ck_1_0_in 7 rfl rfl, by decide +kernel, by decide +kernel, by decide +kernel, by decide +kernel⟩
theorem sc_X6_161 : sm_sV RX6 161 mX6_findsBest 0 := ⟨sm_tc ck_5_4_in 1 rfl rfl, sm_tc ck_5_3_in 28 rfl rfl, sm_tc ck_5_4_in 0 rfl rfl, sm_tc ck_0_1_in 9 rfl rfl, sm_tc ck_1_0_in 7 rfl rfl, by decide +kernel, by decide +kernel, by decide +kernel, by decide +kernel⟩
theorem sc_X6_155 : sm_sV RX6 155 mX6_bringing 2 := ⟨sm_tc ck_5_4_in 5 rfl rfl, sm_tc ck_5_4_in 2 rfl rfl, sm_tc ck_5_4_in 4 rfl rfl, sm_tc ck_0_1_in 10 rfl rfl, sm_tc ck_1_0_in 7 rfl rfl, by decide +kernel, by decide +kernel, by decide +kernel, by decide +kernel⟩
theorem sc_X6_131 : sm_sV RX6 131 mX6_putsAside 0 := ⟨sm_tc ck_5_4_in 9 rfl rfl, sm_tc ck_5_4_in 6 rfl rfl, sm_tc ck_5_4_in 8 rfl rfl, sm_tc ck_0_1_in 11 rfl rfl, sm_tc ck_1_0_in 7 rfl rfl, by decide +kernel, by decide +kernel, by decide +kernel, by decide +kernel⟩
theorem sc_X6_140 : sm_sV RX6 140 mX6_takesBack 0 := ⟨sm_tc ck_5_4_in 13 rfl rfl, sm_tc ck_5_4_in 10 rfl rfl, sm_tc ck_5_4_in 12 rfl rfl, sm_tc ck_0_1_in 12 rfl rfl, sm_tc ck_1_0_in 7 rfl rfl, by decide +kernel, by decide +kernel, by decide +kernel, by decide +kernel⟩
theorem sc_L_141 : sm_sV RL 141 mX6_set 2 := ⟨sm_tc ck_5_4_in 17 rfl rfl, sm_tc ck_5_4_in 14 rfl rfl, sm_tc ck_5_4_in 15 rfl rfl, sm_tc ck_5_4_in 16 rfl rfl, sm_tc ck_1_0_in 7 rfl rfl, by decide +kernel, by decide +kernel, by decide +kernel, by decide +kernel⟩
theorem sc_X6_233 : sm_sS RX6 233 mX6_isSetting 2 := ⟨sm_tc ck_5_4_in 20 rfl rfl, sm_tc ck_5_4_in 18 rfl rfl, sm_tc ck_5_4_in 19 rfl rfl, sm_tc ck_1_0_in 7 rfl rfl, by decide +kernel, by decide +kernel, by decide +kernel, by decide +kernel⟩
theorem sc_L_144 : sm_sV RL 144 mX6_undo 0 := ⟨sm_tc ck_5_4_in 24 rfl rfl, sm_tc ck_5_4_in 21 rfl rfl, sm_tc ck_5_4_in 22 rfl rfl, sm_tc ck_5_4_in 23 rfl rfl, sm_tc ck_1_0_in 7 rfl rfl, by decide +kernel, by decide +kernel, by decide +kernel, by decide +kernel⟩
theorem sc_L_147 : sm_sV RL 147 mX6_brings 2 := ⟨sm_tc ck_5_4_in 28 rfl rfl, sm_tc ck_5_4_in 25 rfl rfl, sm_tc ck_5_4_in 26 rfl rfl, sm_tc ck_5_4_in 27 rfl rfl, sm_tc ck_1_0_in 7 rfl rfl, by decide +kernel, by decide +kernel, by decide +kernel, by decide +kernel⟩
theorem sc_L_150 : sm_sV RL 150 mX6_bumps 1 := ⟨sm_tc ck_5_5_in 2 rfl rfl, sm_tc ck_5_4_in 29 rfl rfl, sm_tc ck_5_5_in 0 rfl rfl, sm_tc ck_5_5_in 1 rfl rfl, sm_tc ck_1_0_in 7 rfl rfl, by decide +kernel, by decide +kernel, by decide +kernel, by decide +kernel⟩
theorem sc_L_153 : sm_sV RL 153 mX6_best 1 := ⟨sm_tc ck_5_5_in 6 rfl rfl, sm_tc ck_5_5_in 3 rfl rfl, sm_tc ck_5_5_in 4 rfl rfl, sm_tc ck_5_5_in 5 rfl rfl, sm_tc ck_1_0_in 7 rfl rfl, by decide +kernel, by decide +kernel, by decide +kernel, by decide +kernel⟩
theorem sc_L_156 : sm_sV RL 156 mX6_loses 2 := ⟨sm_tc ck_5_5_in 10 rfl rfl, sm_tc ck_5_5_in 7 rfl rfl, sm_tc ck_5_5_in 8 rfl rfl, sm_tc ck_5_5_in 9 rfl rfl, sm_tc ck_1_0_in 7 rfl rfl, by decide +kernel, by decide +kernel, by decide +kernel, by decide +kernel⟩
theorem sc_L_159 : sm_sV RL 159 mX6_goesOn 1 := ⟨sm_tc ck_5_5_in 14 rfl rfl, sm_tc ck_5_5_in 11 rfl rfl, sm_tc ck_5_5_in 12 rfl rfl, sm_tc ck_5_5_in 13 rfl rfl, sm_tc ck_1_0_in 7 rfl rfl, by decide +kernel, by decide +kernel, by decide +kernel, by decide +kernel⟩
theorem sc_X6_236 : sm_sV RX6 236 mX6_keeps 0 := ⟨sm_tc ck_5_5_in 18 rfl rfl, sm_tc ck_5_5_in 15 rfl rfl, sm_tc ck_5_5_in 17 rfl rfl, sm_tc ck_0_1_in 13 rfl rfl, sm_tc ck_1_0_in 7 rfl rfl, by decide +kernel, by decide +kernel, by decide +kernel, by decide +kernel⟩
theorem sc_X6_239 : sm_sV RX6 239 mX6_richest 0 := ⟨sm_tc ck_5_5_in 22 rfl rfl, sm_tc ck_5_5_in 19 rfl rfl, sm_tc ck_5_5_in 21 rfl rfl, sm_tc ck_0_1_in 14 rfl rfl, sm_tc ck_1_0_in 7 rfl rfl, by decide +kernel, by decide +kernel, by decide +kernel, by decide +kernel⟩
theorem sc_X6_242 : sm_sV RX6 242 mX6_takesKept 0 := ⟨sm_tc ck_5_5_in 26 rfl rfl, sm_tc ck_5_5_in 23 rfl rfl, sm_tc ck_5_5_in 25 rfl rfl, sm_tc ck_0_1_in 15 rfl rfl, sm_tc ck_1_0_in 7 rfl rfl, by decide +kernel, by decide +kernel, by decide +kernel, by decide +kernel⟩
theorem sc_L_162 : sm_sV RL 162 mX6_weather 1 := ⟨sm_tc ck_5_6_in 0 rfl rfl, sm_tc ck_5_5_in 27 rfl rfl, sm_tc ck_5_5_in 28 rfl rfl, sm_tc ck_5_5_in 29 rfl rfl, sm_tc ck_1_0_in 7 rfl rfl, by decide +kernel, by decide +kernel, by decide +kernel, by decide +kernel⟩
theorem sc_L_165 : sm_sV RL 165 mX6_runScript 2 := ⟨sm_tc ck_5_6_in 4 rfl rfl, sm_tc ck_5_6_in 1 rfl rfl, sm_tc ck_5_6_in 2 rfl rfl, sm_tc ck_5_6_in 3 rfl rfl, sm_tc ck_1_0_in 7 rfl rfl, by decide +kernel, by decide +kernel, by decide +kernel, by decide +kernel⟩
theorem sc_X6_257 : sm_sV RX6 257 mX6_does 4 := ⟨sm_tc ck_5_6_in 9 rfl rfl, sm_tc ck_5_6_in 6 rfl rfl, sm_tc ck_5_6_in 8 rfl rfl, sm_tc ck_0_1_in 16 rfl rfl, sm_tc ck_1_0_in 7 rfl rfl, by decide +kernel, by decide +kernel, by decide +kernel, by decide +kernel⟩
theorem sc_X6_245 : sm_sV RX6 245 mX6_doesPlace 2 := ⟨sm_tc ck_5_6_in 13 rfl rfl, sm_tc ck_5_6_in 10 rfl rfl, sm_tc ck_5_6_in 12 rfl rfl, sm_tc ck_0_1_in 17 rfl rfl, sm_tc ck_1_0_in 7 rfl rfl, by decide +kernel, by decide +kernel, by decide +kernel, by decide +kernel⟩
theorem sc_X6_248 : sm_sV RX6 248 mX6_doesTurn 1 := ⟨sm_tc ck_5_6_in 17 rfl rfl, sm_tc ck_5_6_in 14 rfl rfl, sm_tc ck_5_6_in 16 rfl rfl, sm_tc ck_0_1_in 18 rfl rfl, sm_tc ck_1_0_in 7 rfl rfl, by decide +kernel, by decide +kernel, by decide +kernel, by decide +kernel⟩
theorem sc_X6_252 : sm_sV RX6 252 mX6_doesSet 2 := ⟨sm_tc ck_5_6_in 21 rfl rfl, sm_tc ck_5_6_in 18 rfl rfl, sm_tc ck_5_6_in 20 rfl rfl, sm_tc ck_0_1_in 19 rfl rfl, sm_tc ck_1_0_in 7 rfl rfl, by decide +kernel, by decide +kernel, by decide +kernel, by decide +kernel⟩
theorem sc_L_169 : sm_sV RL 169 mX6_simulate 2 := ⟨sm_tc ck_5_6_in 25 rfl rfl, sm_tc ck_5_6_in 22 rfl rfl, sm_tc ck_5_6_in 23 rfl rfl, sm_tc ck_5_6_in 24 rfl rfl, sm_tc ck_1_0_in 7 rfl rfl, by decide +kernel, by decide +kernel, by decide +kernel, by decide +kernel⟩
theorem sc_X6_261 : sm_sV RX6 261 mX6_simulates 1 := ⟨sm_tc ck_5_6_in 29 rfl rfl, sm_tc ck_5_6_in 26 rfl rfl, sm_tc ck_5_6_in 28 rfl rfl, sm_tc ck_0_1_in 20 rfl rfl, sm_tc ck_1_0_in 7 rfl rfl, by decide +kernel, by decide +kernel, by decide +kernel, by decide +kernel⟩
theorem sc_L_172 : sm_sV RL 172 mX6_save 1 := ⟨sm_tc ck_5_7_in 3 rfl rfl, sm_tc ck_5_7_in 0 rfl rfl, sm_tc ck_5_7_in 1 rfl rfl, sm_tc ck_5_7_in 2 rfl rfl, sm_tc ck_1_0_in 7 rfl rfl, by decide +kernel, by decide +kernel, by decide +kernel, by decide +kernel⟩
theorem sc_L_175 : sm_sV RL 175 mX6_restore 1 := ⟨sm_tc ck_5_7_in 7 rfl rfl, sm_tc ck_5_7_in 4 rfl rfl, sm_tc ck_5_7_in 5 rfl rfl, sm_tc ck_5_7_in 6 rfl rfl, sm_tc ck_1_0_in 7 rfl rfl, by decide +kernel, by decide +kernel, by decide +kernel, by decide +kernel⟩
theorem sx_iae : sm_ex "java/lang/IllegalArgumentException" 41 45 := ⟨by decide +kernel, by decide +kernel, sm_tc ck_1_7_in 22 rfl rfl, sm_tc ck_1_0_in 11 rfl rfl, wsL_law_x0, by decide +kernel, sm_mh ck_1_7_in 24 rfl rfl, by decide +kernel⟩
theorem sx_ise : sm_ex "java/lang/IllegalStateException" 52 56 := ⟨by decide +kernel, by decide +kernel, sm_tc ck_2_2_in 4 rfl rfl, sm_tc ck_1_0_in 12 rfl rfl, wsL_law_x1, by decide +kernel, sm_mh ck_2_2_in 6 rfl rfl, by decide +kernel⟩
theorem sx_ioo : sm_ex "java/lang/IndexOutOfBoundsException" 116 120 := ⟨by decide +kernel, by decide +kernel, sm_tc ck_3_1_in 9 rfl rfl, sm_tc ck_1_0_in 14 rfl rfl, wsL_law_x2, by decide +kernel, sm_mh ck_3_1_in 11 rfl rfl, by decide +kernel⟩
end
