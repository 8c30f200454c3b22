section
-- ===== PART A: goes FIRST, ahead of the names: the tables' words, and 'selects' of the private methods out of them =====
/-- a private method of a class that the tables say can be made, by its rows of tables_1 -/
def lw_okq (q : MethodName × Nat) : Prop := (q.1.cls ≠ "java/lang/invoke/MethodHandle" ∧ q.1.cls ≠ "java/lang/invoke/VarHandle") ∧ Cond.instantiable q.1.cls q.2 ∈ tables_1 ∧ Cond.privateMethod q.1 ∈ tables_1 ∧ Cond.instanceMethod q.1 ∈ tables_1
theorem lw_p0 : lw_okq (⟨"Warren", "countOf", "(I)I"⟩, 4) := ⟨⟨by decide +kernel, by decide +kernel⟩, List.mem_of_getElem? (i := 23) (by decide +kernel), List.mem_of_getElem? (i := 166) (by decide +kernel), List.mem_of_getElem? (i := 167) (by decide +kernel)⟩
theorem lw_p1 : lw_okq (⟨"Warren", "digestOf", "(JI)J"⟩, 4) := ⟨⟨by decide +kernel, by decide +kernel⟩, List.mem_of_getElem? (i := 23) (by decide +kernel), List.mem_of_getElem? (i := 200) (by decide +kernel), List.mem_of_getElem? (i := 201) (by decide +kernel)⟩
theorem lw_p2 : lw_okq (⟨"Warren", "answerOf", "(II)I"⟩, 4) := ⟨⟨by decide +kernel, by decide +kernel⟩, List.mem_of_getElem? (i := 23) (by decide +kernel), List.mem_of_getElem? (i := 204) (by decide +kernel), List.mem_of_getElem? (i := 205) (by decide +kernel)⟩
theorem lw_p3 : lw_okq (⟨"Warren$Ways", "putLength", "(II)V"⟩, 3) := ⟨⟨by decide +kernel, by decide +kernel⟩, List.mem_of_getElem? (i := 104) (by decide +kernel), List.mem_of_getElem? (i := 268) (by decide +kernel), List.mem_of_getElem? (i := 269) (by decide +kernel)⟩
theorem lw_p4 : lw_okq (⟨"Warren$Ways", "enqueue", "(I)V"⟩, 3) := ⟨⟨by decide +kernel, by decide +kernel⟩, List.mem_of_getElem? (i := 104) (by decide +kernel), List.mem_of_getElem? (i := 272) (by decide +kernel), List.mem_of_getElem? (i := 273) (by decide +kernel)⟩
theorem lw_p5 : lw_okq (⟨"Warren$Ways", "spread", "(LWarren$State;)V"⟩, 3) := ⟨⟨by decide +kernel, by decide +kernel⟩, List.mem_of_getElem? (i := 104) (by decide +kernel), List.mem_of_getElem? (i := 276) (by decide +kernel), List.mem_of_getElem? (i := 277) (by decide +kernel)⟩
theorem lw_p6 : lw_okq (⟨"Warren$Ways", "lengthAt", "(I)I"⟩, 3) := ⟨⟨by decide +kernel, by decide +kernel⟩, List.mem_of_getElem? (i := 104) (by decide +kernel), List.mem_of_getElem? (i := 280) (by decide +kernel), List.mem_of_getElem? (i := 281) (by decide +kernel)⟩
theorem lw_p7 : lw_okq (⟨"Warren$Ways", "reachAround", "(LWarren$State;II)V"⟩, 3) := ⟨⟨by decide +kernel, by decide +kernel⟩, List.mem_of_getElem? (i := 104) (by decide +kernel), List.mem_of_getElem? (i := 284) (by decide +kernel), List.mem_of_getElem? (i := 285) (by decide +kernel)⟩
theorem lw_p8 : lw_okq (⟨"Warren$Mind", "worthIfPossible", "(LWarren$State;III)I"⟩, 2) := ⟨⟨by decide +kernel, by decide +kernel⟩, List.mem_of_getElem? (i := 98) (by decide +kernel), List.mem_of_getElem? (i := 309) (by decide +kernel), List.mem_of_getElem? (i := 310) (by decide +kernel)⟩
theorem lw_p9 : lw_okq (⟨"Warren$Mind", "worthOfGuard", "(LWarren$State;I)I"⟩, 2) := ⟨⟨by decide +kernel, by decide +kernel⟩, List.mem_of_getElem? (i := 98) (by decide +kernel), List.mem_of_getElem? (i := 314) (by decide +kernel), List.mem_of_getElem? (i := 315) (by decide +kernel)⟩
theorem lw_p10 : lw_okq (⟨"Warren$Mind", "worthOfGo", "(LWarren$State;II)I"⟩, 2) := ⟨⟨by decide +kernel, by decide +kernel⟩, List.mem_of_getElem? (i := 98) (by decide +kernel), List.mem_of_getElem? (i := 326) (by decide +kernel), List.mem_of_getElem? (i := 327) (by decide +kernel)⟩
theorem lw_p11 : lw_okq (⟨"java/lang/Throwable", "fillInStackTrace", "(I)Ljava/lang/Throwable;"⟩, 6) := ⟨⟨by decide +kernel, by decide +kernel⟩, List.mem_of_getElem? (i := 404) (by decide +kernel), List.mem_of_getElem? (i := 402) (by decide +kernel), List.mem_of_getElem? (i := 403) (by decide +kernel)⟩
theorem lw_p12 : lw_okq (⟨"Warren", "play", "(I)I"⟩, 4) := ⟨⟨by decide +kernel, by decide +kernel⟩, List.mem_of_getElem? (i := 23) (by decide +kernel), List.mem_of_getElem? (i := 657) (by decide +kernel), List.mem_of_getElem? (i := 658) (by decide +kernel)⟩
theorem lw_p13 : lw_okq (⟨"java/util/ArrayList", "add", "(Ljava/lang/Object;[Ljava/lang/Object;I)V"⟩, 3) := ⟨⟨by decide +kernel, by decide +kernel⟩, List.mem_of_getElem? (i := 72) (by decide +kernel), List.mem_of_getElem? (i := 719) (by decide +kernel), List.mem_of_getElem? (i := 720) (by decide +kernel)⟩
theorem lw_p14 : lw_okq (⟨"java/util/ArrayList", "grow", "()[Ljava/lang/Object;"⟩, 3) := ⟨⟨by decide +kernel, by decide +kernel⟩, List.mem_of_getElem? (i := 72) (by decide +kernel), List.mem_of_getElem? (i := 723) (by decide +kernel), List.mem_of_getElem? (i := 724) (by decide +kernel)⟩
theorem lw_p15 : lw_okq (⟨"java/util/ArrayList", "grow", "(I)[Ljava/lang/Object;"⟩, 3) := ⟨⟨by decide +kernel, by decide +kernel⟩, List.mem_of_getElem? (i := 72) (by decide +kernel), List.mem_of_getElem? (i := 727) (by decide +kernel), List.mem_of_getElem? (i := 728) (by decide +kernel)⟩
def lw_privs_1 : List (MethodName × Nat) := [(⟨"Warren", "countOf", "(I)I"⟩, 4), (⟨"Warren", "digestOf", "(JI)J"⟩, 4), (⟨"Warren", "answerOf", "(II)I"⟩, 4), (⟨"Warren$Ways", "putLength", "(II)V"⟩, 3), (⟨"Warren$Ways", "enqueue", "(I)V"⟩, 3), (⟨"Warren$Ways", "spread", "(LWarren$State;)V"⟩, 3), (⟨"Warren$Ways", "lengthAt", "(I)I"⟩, 3), (⟨"Warren$Ways", "reachAround", "(LWarren$State;II)V"⟩, 3), (⟨"Warren$Mind", "worthIfPossible", "(LWarren$State;III)I"⟩, 2), (⟨"Warren$Mind", "worthOfGuard", "(LWarren$State;I)I"⟩, 2), (⟨"Warren$Mind", "worthOfGo", "(LWarren$State;II)I"⟩, 2), (⟨"java/lang/Throwable", "fillInStackTrace", "(I)Ljava/lang/Throwable;"⟩, 6), (⟨"Warren", "play", "(I)I"⟩, 4), (⟨"java/util/ArrayList", "add", "(Ljava/lang/Object;[Ljava/lang/Object;I)V"⟩, 3), (⟨"java/util/ArrayList", "grow", "()[Ljava/lang/Object;"⟩, 3), (⟨"java/util/ArrayList", "grow", "(I)[Ljava/lang/Object;"⟩, 3)]
theorem lw_r1 : ∀ q ∈ lw_privs_1, lw_okq q := List.forall_mem_cons.mpr ⟨lw_p0, List.forall_mem_cons.mpr ⟨lw_p1, List.forall_mem_cons.mpr ⟨lw_p2, List.forall_mem_cons.mpr ⟨lw_p3, List.forall_mem_cons.mpr ⟨lw_p4, List.forall_mem_cons.mpr ⟨lw_p5, List.forall_mem_cons.mpr ⟨lw_p6, List.forall_mem_cons.mpr ⟨lw_p7, List.forall_mem_cons.mpr ⟨lw_p8, List.forall_mem_cons.mpr ⟨lw_p9, List.forall_mem_cons.mpr ⟨lw_p10, List.forall_mem_cons.mpr ⟨lw_p11, List.forall_mem_cons.mpr ⟨lw_p12, List.forall_mem_cons.mpr ⟨lw_p13, List.forall_mem_cons.mpr ⟨lw_p14, List.forall_mem_cons.mpr ⟨lw_p15, fun _ h => absurd h List.not_mem_nil⟩⟩⟩⟩⟩⟩⟩⟩⟩⟩⟩⟩⟩⟩⟩⟩
theorem lw_p16 : lw_okq (⟨"WarrenModel", "no", "(I)I"⟩, 4) := ⟨⟨by decide +kernel, by decide +kernel⟩, List.mem_of_getElem? (i := 814) (by decide +kernel), List.mem_of_getElem? (i := 846) (by decide +kernel), List.mem_of_getElem? (i := 847) (by decide +kernel)⟩
theorem lw_p17 : lw_okq (⟨"WarrenModel", "onNow", "(I)I"⟩, 4) := ⟨⟨by decide +kernel, by decide +kernel⟩, List.mem_of_getElem? (i := 814) (by decide +kernel), List.mem_of_getElem? (i := 860) (by decide +kernel), List.mem_of_getElem? (i := 861) (by decide +kernel)⟩
theorem lw_p18 : lw_okq (⟨"WarrenModel", "its", "(II)I"⟩, 4) := ⟨⟨by decide +kernel, by decide +kernel⟩, List.mem_of_getElem? (i := 814) (by decide +kernel), List.mem_of_getElem? (i := 864) (by decide +kernel), List.mem_of_getElem? (i := 865) (by decide +kernel)⟩
theorem lw_p19 : lw_okq (⟨"WarrenModel", "seesNow", "(II)Z"⟩, 4) := ⟨⟨by decide +kernel, by decide +kernel⟩, List.mem_of_getElem? (i := 814) (by decide +kernel), List.mem_of_getElem? (i := 880) (by decide +kernel), List.mem_of_getElem? (i := 881) (by decide +kernel)⟩
theorem lw_p20 : lw_okq (⟨"WarrenModel", "isClear", "(II)Z"⟩, 4) := ⟨⟨by decide +kernel, by decide +kernel⟩, List.mem_of_getElem? (i := 814) (by decide +kernel), List.mem_of_getElem? (i := 889) (by decide +kernel), List.mem_of_getElem? (i := 890) (by decide +kernel)⟩
theorem lw_p21 : lw_okq (⟨"WarrenModel", "turn", "()I"⟩, 4) := ⟨⟨by decide +kernel, by decide +kernel⟩, List.mem_of_getElem? (i := 814) (by decide +kernel), List.mem_of_getElem? (i := 904) (by decide +kernel), List.mem_of_getElem? (i := 905) (by decide +kernel)⟩
theorem lw_p22 : lw_okq (⟨"WarrenModel", "isAlive", "(I)Z"⟩, 4) := ⟨⟨by decide +kernel, by decide +kernel⟩, List.mem_of_getElem? (i := 814) (by decide +kernel), List.mem_of_getElem? (i := 908) (by decide +kernel), List.mem_of_getElem? (i := 909) (by decide +kernel)⟩
theorem lw_p23 : lw_okq (⟨"WarrenModel", "look", "(I)V"⟩, 4) := ⟨⟨by decide +kernel, by decide +kernel⟩, List.mem_of_getElem? (i := 814) (by decide +kernel), List.mem_of_getElem? (i := 913) (by decide +kernel), List.mem_of_getElem? (i := 914) (by decide +kernel)⟩
theorem lw_p24 : lw_okq (⟨"WarrenModel", "isBeing", "(I)Z"⟩, 4) := ⟨⟨by decide +kernel, by decide +kernel⟩, List.mem_of_getElem? (i := 814) (by decide +kernel), List.mem_of_getElem? (i := 921) (by decide +kernel), List.mem_of_getElem? (i := 922) (by decide +kernel)⟩
theorem lw_p25 : lw_okq (⟨"WarrenModel", "put", "(III)V"⟩, 4) := ⟨⟨by decide +kernel, by decide +kernel⟩, List.mem_of_getElem? (i := 814) (by decide +kernel), List.mem_of_getElem? (i := 925) (by decide +kernel), List.mem_of_getElem? (i := 926) (by decide +kernel)⟩
theorem lw_p26 : lw_okq (⟨"WarrenModel", "layNow", "(IIII)V"⟩, 4) := ⟨⟨by decide +kernel, by decide +kernel⟩, List.mem_of_getElem? (i := 814) (by decide +kernel), List.mem_of_getElem? (i := 933) (by decide +kernel), List.mem_of_getElem? (i := 934) (by decide +kernel)⟩
theorem lw_p27 : lw_okq (⟨"WarrenModel", "ofNow", "(II)I"⟩, 4) := ⟨⟨by decide +kernel, by decide +kernel⟩, List.mem_of_getElem? (i := 814) (by decide +kernel), List.mem_of_getElem? (i := 942) (by decide +kernel), List.mem_of_getElem? (i := 943) (by decide +kernel)⟩
theorem lw_p28 : lw_okq (⟨"WarrenModel", "isAfraid", "(I)Z"⟩, 4) := ⟨⟨by decide +kernel, by decide +kernel⟩, List.mem_of_getElem? (i := 814) (by decide +kernel), List.mem_of_getElem? (i := 946) (by decide +kernel), List.mem_of_getElem? (i := 947) (by decide +kernel)⟩
theorem lw_p29 : lw_okq (⟨"WarrenModel", "manyNow", "(I)I"⟩, 4) := ⟨⟨by decide +kernel, by decide +kernel⟩, List.mem_of_getElem? (i := 814) (by decide +kernel), List.mem_of_getElem? (i := 958) (by decide +kernel), List.mem_of_getElem? (i := 959) (by decide +kernel)⟩
theorem lw_p30 : lw_okq (⟨"WarrenModel", "alive", "(I)I"⟩, 4) := ⟨⟨by decide +kernel, by decide +kernel⟩, List.mem_of_getElem? (i := 814) (by decide +kernel), List.mem_of_getElem? (i := 962) (by decide +kernel), List.mem_of_getElem? (i := 963) (by decide +kernel)⟩
theorem lw_p31 : lw_okq (⟨"WarrenModel", "isPossible", "(II)Z"⟩, 4) := ⟨⟨by decide +kernel, by decide +kernel⟩, List.mem_of_getElem? (i := 814) (by decide +kernel), List.mem_of_getElem? (i := 970) (by decide +kernel), List.mem_of_getElem? (i := 971) (by decide +kernel)⟩
def lw_privs_2 : List (MethodName × Nat) := [(⟨"WarrenModel", "no", "(I)I"⟩, 4), (⟨"WarrenModel", "onNow", "(I)I"⟩, 4), (⟨"WarrenModel", "its", "(II)I"⟩, 4), (⟨"WarrenModel", "seesNow", "(II)Z"⟩, 4), (⟨"WarrenModel", "isClear", "(II)Z"⟩, 4), (⟨"WarrenModel", "turn", "()I"⟩, 4), (⟨"WarrenModel", "isAlive", "(I)Z"⟩, 4), (⟨"WarrenModel", "look", "(I)V"⟩, 4), (⟨"WarrenModel", "isBeing", "(I)Z"⟩, 4), (⟨"WarrenModel", "put", "(III)V"⟩, 4), (⟨"WarrenModel", "layNow", "(IIII)V"⟩, 4), (⟨"WarrenModel", "ofNow", "(II)I"⟩, 4), (⟨"WarrenModel", "isAfraid", "(I)Z"⟩, 4), (⟨"WarrenModel", "manyNow", "(I)I"⟩, 4), (⟨"WarrenModel", "alive", "(I)I"⟩, 4), (⟨"WarrenModel", "isPossible", "(II)Z"⟩, 4)]
theorem lw_r2 : ∀ q ∈ lw_privs_2, lw_okq q := List.forall_mem_cons.mpr ⟨lw_p16, List.forall_mem_cons.mpr ⟨lw_p17, List.forall_mem_cons.mpr ⟨lw_p18, List.forall_mem_cons.mpr ⟨lw_p19, List.forall_mem_cons.mpr ⟨lw_p20, List.forall_mem_cons.mpr ⟨lw_p21, List.forall_mem_cons.mpr ⟨lw_p22, List.forall_mem_cons.mpr ⟨lw_p23, List.forall_mem_cons.mpr ⟨lw_p24, List.forall_mem_cons.mpr ⟨lw_p25, List.forall_mem_cons.mpr ⟨lw_p26, List.forall_mem_cons.mpr ⟨lw_p27, List.forall_mem_cons.mpr ⟨lw_p28, List.forall_mem_cons.mpr ⟨lw_p29, List.forall_mem_cons.mpr ⟨lw_p30, List.forall_mem_cons.mpr ⟨lw_p31, fun _ h => absurd h List.not_mem_nil⟩⟩⟩⟩⟩⟩⟩⟩⟩⟩⟩⟩⟩⟩⟩⟩
theorem lw_p32 : lw_okq (⟨"WarrenModel", "targetNow", "(I)I"⟩, 4) := ⟨⟨by decide +kernel, by decide +kernel⟩, List.mem_of_getElem? (i := 814) (by decide +kernel), List.mem_of_getElem? (i := 974) (by decide +kernel), List.mem_of_getElem? (i := 975) (by decide +kernel)⟩
theorem lw_p33 : lw_okq (⟨"WarrenModel", "actNow", "(II)I"⟩, 4) := ⟨⟨by decide +kernel, by decide +kernel⟩, List.mem_of_getElem? (i := 814) (by decide +kernel), List.mem_of_getElem? (i := 981) (by decide +kernel), List.mem_of_getElem? (i := 982) (by decide +kernel)⟩
theorem lw_p34 : lw_okq (⟨"WarrenModel", "goNow", "(II)I"⟩, 4) := ⟨⟨by decide +kernel, by decide +kernel⟩, List.mem_of_getElem? (i := 814) (by decide +kernel), List.mem_of_getElem? (i := 985) (by decide +kernel), List.mem_of_getElem? (i := 986) (by decide +kernel)⟩
theorem lw_p35 : lw_okq (⟨"WarrenModel", "hitNow", "(II)I"⟩, 4) := ⟨⟨by decide +kernel, by decide +kernel⟩, List.mem_of_getElem? (i := 814) (by decide +kernel), List.mem_of_getElem? (i := 989) (by decide +kernel), List.mem_of_getElem? (i := 990) (by decide +kernel)⟩
theorem lw_p36 : lw_okq (⟨"WarrenModel", "take", "(II)V"⟩, 4) := ⟨⟨by decide +kernel, by decide +kernel⟩, List.mem_of_getElem? (i := 814) (by decide +kernel), List.mem_of_getElem? (i := 993) (by decide +kernel), List.mem_of_getElem? (i := 994) (by decide +kernel)⟩
theorem lw_p37 : lw_okq (⟨"WarrenModel", "followNow", "(I)I"⟩, 4) := ⟨⟨by decide +kernel, by decide +kernel⟩, List.mem_of_getElem? (i := 814) (by decide +kernel), List.mem_of_getElem? (i := 1001) (by decide +kernel), List.mem_of_getElem? (i := 1002) (by decide +kernel)⟩
theorem lw_p38 : lw_okq (⟨"WarrenModel", "planNow", "(I)I"⟩, 4) := ⟨⟨by decide +kernel, by decide +kernel⟩, List.mem_of_getElem? (i := 814) (by decide +kernel), List.mem_of_getElem? (i := 1005) (by decide +kernel), List.mem_of_getElem? (i := 1006) (by decide +kernel)⟩
theorem lw_p39 : lw_okq (⟨"WarrenModel", "worths", "(I)[I"⟩, 4) := ⟨⟨by decide +kernel, by decide +kernel⟩, List.mem_of_getElem? (i := 814) (by decide +kernel), List.mem_of_getElem? (i := 1009) (by decide +kernel), List.mem_of_getElem? (i := 1010) (by decide +kernel)⟩
theorem lw_p40 : lw_okq (⟨"WarrenModel", "prey", "(I)I"⟩, 4) := ⟨⟨by decide +kernel, by decide +kernel⟩, List.mem_of_getElem? (i := 814) (by decide +kernel), List.mem_of_getElem? (i := 1013) (by decide +kernel), List.mem_of_getElem? (i := 1014) (by decide +kernel)⟩
theorem lw_p41 : lw_okq (⟨"WarrenModel", "ways", "(II)[I"⟩, 4) := ⟨⟨by decide +kernel, by decide +kernel⟩, List.mem_of_getElem? (i := 814) (by decide +kernel), List.mem_of_getElem? (i := 1017) (by decide +kernel), List.mem_of_getElem? (i := 1018) (by decide +kernel)⟩
theorem lw_p42 : lw_okq (⟨"WarrenModel", "costOf", "(I)I"⟩, 4) := ⟨⟨by decide +kernel, by decide +kernel⟩, List.mem_of_getElem? (i := 814) (by decide +kernel), List.mem_of_getElem? (i := 1021) (by decide +kernel), List.mem_of_getElem? (i := 1022) (by decide +kernel)⟩
theorem lw_p43 : lw_okq (⟨"WarrenModel", "worthOf", "(II[I)I"⟩, 4) := ⟨⟨by decide +kernel, by decide +kernel⟩, List.mem_of_getElem? (i := 814) (by decide +kernel), List.mem_of_getElem? (i := 1025) (by decide +kernel), List.mem_of_getElem? (i := 1026) (by decide +kernel)⟩
theorem lw_p44 : lw_okq (⟨"WarrenModel", "isThreatened", "(I)Z"⟩, 4) := ⟨⟨by decide +kernel, by decide +kernel⟩, List.mem_of_getElem? (i := 814) (by decide +kernel), List.mem_of_getElem? (i := 1029) (by decide +kernel), List.mem_of_getElem? (i := 1030) (by decide +kernel)⟩
theorem lw_p45 : lw_okq (⟨"WarrenModel", "worthOfGo", "(II[I)I"⟩, 4) := ⟨⟨by decide +kernel, by decide +kernel⟩, List.mem_of_getElem? (i := 814) (by decide +kernel), List.mem_of_getElem? (i := 1033) (by decide +kernel), List.mem_of_getElem? (i := 1034) (by decide +kernel)⟩
theorem lw_p46 : lw_okq (⟨"WarrenModel", "life", "(I)I"⟩, 4) := ⟨⟨by decide +kernel, by decide +kernel⟩, List.mem_of_getElem? (i := 814) (by decide +kernel), List.mem_of_getElem? (i := 1076) (by decide +kernel), List.mem_of_getElem? (i := 1077) (by decide +kernel)⟩
theorem lw_p47 : lw_okq (⟨"WarrenModel", "dangerNow", "(II)I"⟩, 4) := ⟨⟨by decide +kernel, by decide +kernel⟩, List.mem_of_getElem? (i := 814) (by decide +kernel), List.mem_of_getElem? (i := 1084) (by decide +kernel), List.mem_of_getElem? (i := 1085) (by decide +kernel)⟩
def lw_privs_3 : List (MethodName × Nat) := [(⟨"WarrenModel", "targetNow", "(I)I"⟩, 4), (⟨"WarrenModel", "actNow", "(II)I"⟩, 4), (⟨"WarrenModel", "goNow", "(II)I"⟩, 4), (⟨"WarrenModel", "hitNow", "(II)I"⟩, 4), (⟨"WarrenModel", "take", "(II)V"⟩, 4), (⟨"WarrenModel", "followNow", "(I)I"⟩, 4), (⟨"WarrenModel", "planNow", "(I)I"⟩, 4), (⟨"WarrenModel", "worths", "(I)[I"⟩, 4), (⟨"WarrenModel", "prey", "(I)I"⟩, 4), (⟨"WarrenModel", "ways", "(II)[I"⟩, 4), (⟨"WarrenModel", "costOf", "(I)I"⟩, 4), (⟨"WarrenModel", "worthOf", "(II[I)I"⟩, 4), (⟨"WarrenModel", "isThreatened", "(I)Z"⟩, 4), (⟨"WarrenModel", "worthOfGo", "(II[I)I"⟩, 4), (⟨"WarrenModel", "life", "(I)I"⟩, 4), (⟨"WarrenModel", "dangerNow", "(II)I"⟩, 4)]
theorem lw_r3 : ∀ q ∈ lw_privs_3, lw_okq q := List.forall_mem_cons.mpr ⟨lw_p32, List.forall_mem_cons.mpr ⟨lw_p33, List.forall_mem_cons.mpr ⟨lw_p34, List.forall_mem_cons.mpr ⟨lw_p35, List.forall_mem_cons.mpr ⟨lw_p36, List.forall_mem_cons.mpr ⟨lw_p37, List.forall_mem_cons.mpr ⟨lw_p38, List.forall_mem_cons.mpr ⟨lw_p39, List.forall_mem_cons.mpr ⟨lw_p40, List.forall_mem_cons.mpr ⟨lw_p41, List.forall_mem_cons.mpr ⟨lw_p42, List.forall_mem_cons.mpr ⟨lw_p43, List.forall_mem_cons.mpr ⟨lw_p44, List.forall_mem_cons.mpr ⟨lw_p45, List.forall_mem_cons.mpr ⟨lw_p46, List.forall_mem_cons.mpr ⟨lw_p47, fun _ h => absurd h List.not_mem_nil⟩⟩⟩⟩⟩⟩⟩⟩⟩⟩⟩⟩⟩⟩⟩⟩
def lw_privs : List (MethodName × Nat) := lw_privs_1 ++ (lw_privs_2 ++ (lw_privs_3))
def lw_tbl : List Cond := k2_sels lw_privs ++ tables_1
theorem lw_privs_ok : ∀ q ∈ lw_privs, lw_okq q := by
  show ∀ q ∈ lw_privs_1 ++ (lw_privs_2 ++ (lw_privs_3)), lw_okq q
  exact List.forall_mem_append.mpr ⟨lw_r1, List.forall_mem_append.mpr ⟨lw_r2, lw_r3⟩⟩
/-- the streams that the claim lets the run draw from -/
abbrev lw_cs : List Choice := [Jvm.Choice.named "NaN.bits"]
theorem lw_bits : nanBits ∈ lw_cs := by first | decide | exact List.mem_cons_self | simp [lw_cs, nanBits]
/-! ===== BEGIN words of one list among another's, by their places ===== -/
theorem goodIn_r {big : List Cond} (ws : List Cond) (ps : List Nat) (hp : ws = ps.filterMap (fun i => big[i]?)) (h : ws.all goodWord = true) : GoodIn big ws := by
  intro w hw
  have h1 := List.all_eq_true.mp h w hw
  rw [hp] at hw
  obtain ⟨i, -, hi⟩ := List.mem_filterMap.mp hw
  have hm : w ∈ big := by first | exact List.mem_of_getElem? hi | exact List.getElem?_mem hi
  exact ⟨hm, good_of_word h1⟩
theorem goodIn_app {big a b : List Cond} (ha : GoodIn big a) (hb : GoodIn big b) : GoodIn big (a ++ b) := fun w h => (List.mem_append.mp h).elim (ha w) (hb w)
theorem goodIn_ca {big a b : List Cond} {c : Cond} (ha : GoodIn big (c :: a)) (hb : GoodIn big b) : GoodIn big (c :: (a ++ b)) := fun w h => (List.mem_cons.mp h).elim (fun e => ha w (List.mem_cons.mpr (Or.inl e))) (fun h => (List.mem_append.mp h).elim (fun h => ha w (List.mem_cons.mpr (Or.inr h))) (hb w))
theorem goodIn_sub {big ws : List Cond} (hm : ∀ w ∈ ws, w ∈ big) (h : ws.all goodWord = true) : GoodIn big ws := fun w hw => ⟨hm w hw, good_of_word (List.all_eq_true.mp h w hw)⟩
/-! ===== END ===== -/

/-! ===== BEGIN exceptions that leave a method, and their catching by the caller (launches without stack traces) ===== -/
section VXA
/-! The laws vx_back, vx_callV, vx_callS, vx_callSW, vx_throw0, vx_throwS follow proofs of the library, with one case more: JvmDerived/Free/Laws.lean (Back.of_free), Shelf42/LK1.lean (callV, callS), Shelf/KitTraced.lean (throwNew0V, throwNewS). -/
/-- where a method has thrown q: the class by its name, the cell, what was written, the world -/
def vx_T (XC : String → State → State → Prop) (st : State) (q : Addr) (t : State) (mc ms : Nat) (free : Addr → Prop) : Prop :=
  ∃ (E : String) (ce : Cell) (L : List Loc), XC E st t ∧ t.heap[q]? = some ce ∧ ce.vm = .none ∧ st.vm.findClass E = some ce.cls ∧ st.WarmedH t.vm ∧ st.sameButNew ({ t with vm := st.vm } : State) L mc ms ∧ ∀ z ∈ L, free z.base
def vx_Q (Qc : Array Value → State → Outcome → State → Prop) (XC : String → State → State → Prop) (mc ms : Nat) (free : Addr → Prop) : Array Value → State → Outcome → State → Prop := fun a st o t =>
  (Qc a st o t ∧ ∃ L, FrameEnd st o t L mc ms ∧ ∀ q ∈ L, free q.base) ∨ ∃ q, o = .threw q ∧ vx_T XC st q t mc ms free
/-- a callee that returns or throws -/
def vx_Met (l : Launch) (y : MethodName) (ws : List Cond) (rm : Room) (Pc : Array Value → State → Prop) (Qc : Array Value → State → Outcome → State → Prop) (XC : String → State → State → Prop) (mc ms : Nat) (free : Addr → Prop) : Prop :=
  MetFree l y (headSpec ws rm) Pc (fun _ _ _ _ _ => True) (vx_Q Qc XC mc ms free)
def vx_Post (XC : String → State → State → Prop) (mc ms : Nat) (free : Addr → Prop) : Pt → Array Value → Addr → Pt → Prop := fun A a q B =>
  ∃ (g : JFrame) (mk : MethodId) (t : State) (L : List Loc) (E : String) (ce : Cell), B.U.heap = t.heap ∧ B.U.vm = t.vm ∧ XC E (A.U.calling g mk a) t ∧ t.heap[q]? = some ce ∧ ce.vm = .none ∧ A.U.vm.findClass E = some ce.cls ∧ B.locs = A.locs ++ L ∧ (∀ z ∈ L, free z.base) ∧ B.cells = A.cells + mc ∧ B.slots = A.slots + ms
def vx_Back (l : Launch) (R : Room) (p : Program) (e : Env) (below : List Frame) (s : State) (sargs : Array Value) (y : MethodName) (len W9 : Nat)
    (Pre : Pt → Array Value → Prop) (Post : Pt → Array Value → Option Value → Pt → Prop) (PostX : Pt → Array Value → Addr → Pt → Prop) : Prop :=
  ∀ (m : MethodId) (meth : Method) (c : Code) (A : Pt) (g : JFrame) (ig : Instr) (mk : MethodId) (a : Array Value),
    Stand p l e R s m sargs below meth c A.U A.locs A.cells A.slots → g.method = m → g.locals.size = c.maxLocals → decode c.code g.pc = .ok (ig, len) →
    2 * g.monitorRoom + (g.stack.map fun v => v.category).sum ≤ W9 → A.U.methodNamed? y = some mk → Pre A a →
    (∃ (v : Option Value) (B : Pt), Stand p l e R s m sargs below meth c B.U B.locs B.cells B.slots ∧ Post A a v B ∧
      Steps p.tables e below (doInvoke e (A.U.setTop g) [] mk a).1 (B.U.setTop { g with pc := g.pc + len, stack := v.toList ++ g.stack })) ∨
    (∃ (q : Addr) (B : Pt), Stand p l e R s m sargs below meth c B.U B.locs B.cells B.slots ∧ PostX A a q B ∧
      Steps p.tables e below (doInvoke e (A.U.setTop g) [] mk a).1 ((B.U.setTop g).pushFrame (.throwing q)))
section Payer
variable {l : Launch} {R : Room} {p : Program} {e : Env} {below : List Frame} {s : State} {sargs : Array Value} {y : MethodName} {len W9 : Nat}
theorem vx_back {ws : List Cond} {rm : Room} {Pc : Array Value → State → Prop} {Qc : Array Value → State → Outcome → State → Prop} {XC : String → State → State → Prop} {mc ms : Nat} {free : Addr → Prop} {bytes : ByteArray} {maxL : Nat} {ret : Option FieldType}
    (hM : vx_Met l y ws rm Pc Qc XC mc ms free) (hblind : FrameBlind Pc) (hrc : rm.cells = mc) (hrs : rm.slots = ms)
    (hframes : rm.frames + 1 ≤ R.frames) (hlocals : W9 + (maxL + 11) + rm.locals ≤ R.locals)
    (hws : ∀ w ∈ ws, ∀ a' U, s.WarmedH U.vm → w.before a' U = true) (hcode : Cond.code y bytes maxL ret ∈ ws) (hinit : ∀ a' U, s.WarmedH U.vm → (Cond.initialized y.cls).before a' U = true) :
    vx_Back l R p e below s sargs y len W9 (PreOf R mc ms Pc) (PostOf Qc mc ms free) (vx_Post XC mc ms free) := by
  intro m meth c A g ig mk a X hg hsize hdg hW hn hp
  have h1 : (headSpec ws rm).pre.before a A.U = true := atoms_intro fun w hw => hws w hw _ _ X.warmed
  have h2 : (Cond.code y bytes maxL ret).before a A.U = true := hws _ hcode _ _ X.warmed
  have h3 : (Cond.initialized y.cls).before a A.U = true := hinit _ _ X.warmed
  have h4 : A.cells + (headSpec ws rm).room.cells ≤ R.cells := by rw [show (headSpec ws rm).room.cells = mc from hrc]; exact hp.1
  have h5 : A.slots + (headSpec ws rm).room.slots ≤ R.slots := by rw [show (headSpec ws rm).room.slots = ms from hrs]; exact hp.2.1
  have hPc : Pc a (A.U.calling g mk a) := hblind _ _ _ _ hp.2.2
  obtain ⟨U, Ls, c0, s0⟩ := A
  dsimp only [Pt.U, Pt.locs, Pt.cells, Pt.slots] at h1 h2 h3 h4 h5 X hn hPc ⊢
  obtain ⟨methY, cY, hmY, hcY, -, hlY, -, -, -, -⟩ := Cond.code_spec hn h2
  obtain ⟨kY, hkY, -⟩ := className_of_methodNamed hn
  have hinitY : kY.init = .initialized := Cond.initialized_spec (findClass_of_methodNamed hn) hkY h3
  have h : At U g.method c below := by rw [hg]; exact X.here
  have hlocals9 : W9 + (maxL + 11) + (headSpec ws rm).room.locals ≤ R.locals := hlocals
  have happ : (headSpec ws rm).appliesLoose y e.platform (U.calling g mk a) = true :=
    Spec.appliesLoose_calling (g := g) h hdg hn hkY hinitY
      (X.room_calling (g := g) (R' := (headSpec ws rm).room) hsize hmY hcY hframes (by rw [hlY]; omega) h4 h5) h1
  obtain ⟨mid, hmid⟩ := h.above
  have hfr : (U.setTop g).frames = (.java g :: mid) ++ below := by rw [State.frames_setTop' g h.top, hmid]; rfl
  obtain ⟨o, s₂, hsteps, -, hend, hq⟩ := Steps.callFree hM p X.admits X.cas X.clock (acts := []) hfr happ hPc trivial
  have hq' : vx_Q Qc XC mc ms free a (U.calling g mk a) o s₂ := hq
  rw [State.frames_setTop' g h.top] at hend
  obtain ⟨g₀, hg0⟩ := Option.isSome_iff_exists.mp h.top
  obtain ⟨r, hr⟩ := State.topJava?_eq_some.mp hg0
  have hr' : (({ U with heap := s₂.heap, slotsUsed := s₂.slotsUsed } : State).setVm s₂.vm).frames = .java g₀ :: r := hr
  rcases hq' with ⟨hqc, L, hfe, hL⟩ | ⟨q, rfl, E, ce, L, hx, hce, hcv, hcl, hW₂, hsm, hL⟩
  · obtain ⟨⟨v, rfl⟩, hW₂, e2, q2, q3, q4, q5, q6⟩ := id hfe
    have e3 : s₂ = ({ (U.calling g mk a).setFrames s₂.frames with heap := s₂.heap, slotsUsed := s₂.slotsUsed } : State).setVm s₂.vm := by
      have : s₂ = ({ s₂ with vm := (U.calling g mk a).vm } : State).setVm s₂.vm := rfl
      rw [e2] at this
      exact this
    obtain ⟨c₂, i₂, len₂, hc₂, hd₂, hf₂⟩ := hend
    have hW' : U.WarmedH s₂.vm := hW₂
    have hcc : c₂ = c := by
      have h1 : s₂.code? g.method = U.code? g.method := by
        rw [State.code?_eq, State.code?_eq, hW'.alike.method?]
      exact Option.some.inj (hc₂.symm.trans (h1.trans h.code))
    subst hcc
    have hlen : len₂ = len := by rw [hdg] at hd₂; cases hd₂; rfl
    subst hlen
    have hs₂ : s₂ = (({ U with heap := s₂.heap, slotsUsed := s₂.slotsUsed } : State).setVm s₂.vm).setTop { g with pc := g.pc + len₂, stack := v.toList ++ g.stack } := by
      refine e3.trans ?_
      rw [hf₂, State.calling_eq h.top, State.setFrames_setFrames, State.setTop_of_frames _ hr', hr]
      rfl
    have hsame : U.sameButNew ({ U with heap := s₂.heap, slotsUsed := s₂.slotsUsed } : State) L mc ms := by
      refine ⟨?_, q2, q3, q4, q5, q6⟩
      obtain ⟨t, ht, -⟩ := State.frames_cons hr
      show ({ U with heap := s₂.heap, slotsUsed := s₂.slotsUsed } : State) = { U.setFrames U.frames with heap := s₂.heap, slotsUsed := s₂.slotsUsed }
      rw [State.setFrames_self ht]
    subst hg
    refine Or.inl ⟨v, ⟨(({ U with heap := s₂.heap, slotsUsed := s₂.slotsUsed } : State).setVm s₂.vm), Ls ++ L, c0 + mc, s0 + ms⟩,
      ⟨X.admits, X.cas, X.clock, X.frames, X.room, X.hears, X.method, X.code, (X.here.setHeapUsed s₂.heap s₂.slotsUsed).setVm hW'.alike, X.tail, State.WarmedH.trans X.warmed hW', X.limits, X.bytes, X.same.trans (hsame.setVm s.vm)⟩,
      ⟨g, mk, s₂, L, rfl, rfl, hqc, rfl, hL, rfl, rfl⟩, ?_⟩
    show Steps p.tables e below _ ((({ U with heap := s₂.heap, slotsUsed := s₂.slotsUsed } : State).setVm s₂.vm).setTop { g with pc := g.pc + len₂, stack := v.toList ++ g.stack })
    rw [← hs₂]
    exact hsteps
  · obtain ⟨e2, q2, q3, q4, q5, q6⟩ := id hsm
    have e3 : s₂ = ({ (U.calling g mk a).setFrames s₂.frames with heap := s₂.heap, slotsUsed := s₂.slotsUsed } : State).setVm s₂.vm := by
      have : s₂ = ({ s₂ with vm := (U.calling g mk a).vm } : State).setVm s₂.vm := rfl
      rw [e2] at this
      exact this
    have hf₂ : s₂.frames = .throwing q :: .java g :: U.frames.tail := hend
    have hW' : U.WarmedH s₂.vm := hW₂
    have hs₂ : s₂ = ((({ U with heap := s₂.heap, slotsUsed := s₂.slotsUsed } : State).setVm s₂.vm).setTop g).pushFrame (.throwing q) := by
      refine e3.trans ?_
      rw [hf₂, State.calling_eq h.top, State.setFrames_setFrames, State.pushFrame, State.frames_setTop _ hr', State.setTop_of_frames _ hr', State.setFrames_setFrames, hr]
      rfl
    have hsame : U.sameButNew ({ U with heap := s₂.heap, slotsUsed := s₂.slotsUsed } : State) L mc ms := by
      refine ⟨?_, q2, q3, q4, q5, q6⟩
      obtain ⟨t, ht, -⟩ := State.frames_cons hr
      show ({ U with heap := s₂.heap, slotsUsed := s₂.slotsUsed } : State) = { U.setFrames U.frames with heap := s₂.heap, slotsUsed := s₂.slotsUsed }
      rw [State.setFrames_self ht]
    subst hg
    refine Or.inr ⟨q, ⟨(({ U with heap := s₂.heap, slotsUsed := s₂.slotsUsed } : State).setVm s₂.vm), Ls ++ L, c0 + mc, s0 + ms⟩,
      ⟨X.admits, X.cas, X.clock, X.frames, X.room, X.hears, X.method, X.code, (X.here.setHeapUsed s₂.heap s₂.slotsUsed).setVm hW'.alike, X.tail, State.WarmedH.trans X.warmed hW', X.limits, X.bytes, X.same.trans (hsame.setVm s.vm)⟩,
      ⟨g, mk, s₂, L, E, ce, rfl, rfl, hx, hce, hcv, hcl, rfl, hL, rfl, rfl⟩, ?_⟩
    show Steps p.tables e below _ (((({ U with heap := s₂.heap, slotsUsed := s₂.slotsUsed } : State).setVm s₂.vm).setTop g).pushFrame (.throwing q))
    rw [← hs₂]
    exact hsteps
end Payer
section Calls
variable {p : Program} {l : Launch} {e : Env} {R : Room} {s : State} {m : MethodId} {args : Array Value} {below : List Frame} {meth : Method} {c : Code} {T : State} {locs : List Loc} {cells slots : Nat}
theorem vx_callV (X : Stand p l e R s m args below meth c T locs cells slots) (hexec : p.tables.exec = Jvm.exec) {own C : String} {index : Nat} {y : MethodName} {bytes : ByteArray} {maxL : Nat} {ret : Option FieldType}
    (hown : s.vm.findClass own = some m.cls) (hlink : (Cond.methodLink own index y).before args s = true) (hinst : (Cond.instanceMethod y).before args s = true) (hsel : (Cond.selects C y y).before args s = true)
    (hcode : (Cond.code y bytes maxL ret).before args s = true) (hy : y.cls ≠ "java/lang/invoke/MethodHandle" ∧ y.cls ≠ "java/lang/invoke/VarHandle")
    {W9 : Nat} {Pre : Pt → Array Value → Prop} {Post : Pt → Array Value → Option Value → Pt → Prop} {PostX : Pt → Array Value → Addr → Pt → Prop} (hK : vx_Back l R p e below s args y 3 W9 Pre Post PostX)
    {b : Addr} {cellB : Cell} (hcell : T.heap[b]? = some cellB) (hobj : cellB.vm.isStatics = false) (hcls : s.vm.findClass C = some cellB.cls)
    {g : JFrame} (hg : g.method = m) (hsize : g.locals.size = c.maxLocals) {argsL rest : List Value} (hlen : ∀ sig, parseMethodDescriptor y.desc = some sig → argsL.length = sig.parameters.length)
    (hstack : g.stack = argsL.reverse ++ .ref b :: rest) (hW : 2 * g.monitorRoom + (rest.map fun v => v.category).sum ≤ W9) (hdg : decode c.code g.pc = .ok (.invokevirtual index, 3))
    (hpre : ∀ vm₁, s.WarmedH vm₁ → Pre ⟨T.setVm vm₁, locs, cells, slots⟩ (Value.ref b :: argsL).toArray) :
    (∃ (v : Option Value) (vm₁ : Vm) (B : Pt), s.WarmedH vm₁ ∧ Stand p l e R s m args below meth c B.U B.locs B.cells B.slots ∧ Post ⟨T.setVm vm₁, locs, cells, slots⟩ (Value.ref b :: argsL).toArray v B ∧
      ∀ target, Steps p.tables e below (B.U.setTop { g with pc := g.pc + 3, stack := v.toList ++ rest }) target → Steps p.tables e below (T.setTop g) target) ∨
    (∃ (q : Addr) (vm₁ : Vm) (B : Pt), s.WarmedH vm₁ ∧ Stand p l e R s m args below meth c B.U B.locs B.cells B.slots ∧ PostX ⟨T.setVm vm₁, locs, cells, slots⟩ (Value.ref b :: argsL).toArray q B ∧
      Steps p.tables e below (T.setTop g) ((B.U.setTop { g with stack := rest }).pushFrame (.throwing q))) := by
  obtain ⟨mk, methM, hnamed, hmethM, hstM, habM⟩ := Cond.instanceMethod_spec hinst
  obtain ⟨methM', cM, hmethM', -, -, -, -, -, -, hsigM⟩ := Cond.code_spec hnamed hcode
  cases hmethM.symm.trans hmethM'
  obtain ⟨c2, r2, m2, q1, q2, q3, q4, kP, hkP, hkPi⟩ := Cond.selects_spec hsel
  cases hcls.symm.trans q1
  cases (State.methodFound?_of_named hnamed hy).symm.trans q2
  cases hnamed.symm.trans q3
  have hselP : selectMethod e.platform s.vm cellB.cls mk = .method mk := by rw [Launch.admits_selectMethod X.admits]; exact q4
  obtain ⟨vm₁, X₁, hstep₁⟩ := X.invokevirtual hexec hown hlink hnamed hmethM hstM hkP hkPi hy (a := b) (cell := cellB) hcell
    (fun z h => by rw [h] at hobj; cases hobj) hselP hmethM habM hkP hkPi (g := g) hg (argsL := argsL) (rest := rest) (hlen _ hsigM) hstack hdg
  rcases hK m meth c ⟨T.setVm vm₁, locs, cells, slots⟩ { g with stack := rest } (.invokevirtual index) mk (Value.ref b :: argsL).toArray X₁ hg hsize hdg hW (X₁.named hnamed) (hpre vm₁ X₁.warmed) with ⟨v, B, X', hpost, hsteps⟩ | ⟨q, B, X', hpost, hsteps⟩
  · exact Or.inl ⟨v, vm₁, B, X₁.warmed, X', hpost, fun target h => hstep₁ _ fun acts => by rw [doInvoke_state]; exact hsteps.trans h⟩
  · exact Or.inr ⟨q, vm₁, B, X₁.warmed, X', hpost, hstep₁ _ fun acts => by rw [doInvoke_state]; exact hsteps⟩
theorem vx_callS (X : Stand p l e R s m args below meth c T locs cells slots) (hexec : p.tables.exec = Jvm.exec) {own : String} {index : Nat} {y : MethodName} {bytes : ByteArray} {maxL : Nat} {ret : Option FieldType}
    (hown : s.vm.findClass own = some m.cls) (hlink : (Cond.methodLink own index y).before args s = true) (hstat : (Cond.static y).before args s = true) (hinit : (Cond.initialized y.cls).before args s = true)
    (hcode : (Cond.code y bytes maxL ret).before args s = true) (hy : y.cls ≠ "java/lang/invoke/MethodHandle" ∧ y.cls ≠ "java/lang/invoke/VarHandle")
    {W9 : Nat} {Pre : Pt → Array Value → Prop} {Post : Pt → Array Value → Option Value → Pt → Prop} {PostX : Pt → Array Value → Addr → Pt → Prop} (hK : vx_Back l R p e below s args y 3 W9 Pre Post PostX)
    {g : JFrame} (hg : g.method = m) (hsize : g.locals.size = c.maxLocals) {argsL rest : List Value} (hlen : ∀ sig, parseMethodDescriptor y.desc = some sig → argsL.length = sig.parameters.length)
    (hstack : g.stack = argsL.reverse ++ rest) (hW : 2 * g.monitorRoom + (rest.map fun v => v.category).sum ≤ W9) (hdg : decode c.code g.pc = .ok (.invokestatic index, 3))
    (hpre : ∀ vm₁, s.WarmedH vm₁ → Pre ⟨T.setVm vm₁, locs, cells, slots⟩ argsL.toArray) :
    (∃ (v : Option Value) (vm₁ : Vm) (B : Pt), s.WarmedH vm₁ ∧ Stand p l e R s m args below meth c B.U B.locs B.cells B.slots ∧ Post ⟨T.setVm vm₁, locs, cells, slots⟩ argsL.toArray v B ∧
      ∀ target, Steps p.tables e below (B.U.setTop { g with pc := g.pc + 3, stack := v.toList ++ rest }) target → Steps p.tables e below (T.setTop g) target) ∨
    (∃ (q : Addr) (vm₁ : Vm) (B : Pt), s.WarmedH vm₁ ∧ Stand p l e R s m args below meth c B.U B.locs B.cells B.slots ∧ PostX ⟨T.setVm vm₁, locs, cells, slots⟩ argsL.toArray q B ∧
      Steps p.tables e below (T.setTop g) ((B.U.setTop { g with stack := rest }).pushFrame (.throwing q))) := by
  obtain ⟨mk, hnamed⟩ := Cond.code_named hcode
  obtain ⟨methM, cM, hmethM, -, -, -, -, -, -, hsigM⟩ := Cond.code_spec hnamed hcode
  have hstatic : methM.isStatic = true := Cond.static_spec hnamed hmethM hstat
  obtain ⟨kP, hkP, -⟩ := className_of_methodNamed hnamed
  have hinitP : kP.init = .initialized := Cond.initialized_spec (findClass_of_methodNamed hnamed) hkP hinit
  obtain ⟨vm₁, X₁, hstep₁⟩ := X.invokestatic hexec hown hlink hnamed hmethM hstatic hkP hinitP hy (g := g) hg (argsL := argsL) (rest := rest) (hlen _ hsigM) hstack hdg
  rcases hK m meth c ⟨T.setVm vm₁, locs, cells, slots⟩ { g with stack := rest } (.invokestatic index) mk argsL.toArray X₁ hg hsize hdg hW (X₁.named hnamed) (hpre vm₁ X₁.warmed) with ⟨v, B, X', hpost, hsteps⟩ | ⟨q, B, X', hpost, hsteps⟩
  · exact Or.inl ⟨v, vm₁, B, X₁.warmed, X', hpost, fun target h => hstep₁ _ fun acts => by rw [doInvoke_state]; exact hsteps.trans h⟩
  · exact Or.inr ⟨q, vm₁, B, X₁.warmed, X', hpost, hstep₁ _ fun acts => by rw [doInvoke_state]; exact hsteps⟩
end Calls
theorem vx_cls {s : State} {T : State} {vm₁ : Vm} {E : String} {k : ClassId} (hW : s.WarmedH vm₁) (h : (T.setVm vm₁).vm.findClass E = some k) : s.vm.findClass E = some k := by
  have h1 : vm₁.findClass E = some k := h
  rw [hW.alike.findClass] at h1
  exact h1
/-- the method's frame g, with q thrown over it -/
def vx_W (p : Program) (l : Launch) (e : Env) (R : Room) (s : State) (m : MethodId) (args : Array Value) (below : List Frame) (meth : Method) (c : Code) (H : Heap) (locs : List Loc) (cells slots : Nat) (Q : State → Prop) (g : JFrame) (q : Addr) : Prop :=
  ∀ T : State, T.heap = H → Stand p l e R s m args below meth c T locs cells slots → ∃ t, Steps p.tables e below ((T.setTop g).pushFrame (.throwing q)) t ∧ Q t
def vx_Run (p : Program) (l : Launch) (e : Env) (R : Room) (s : State) (m : MethodId) (args : Array Value) (below : List Frame) (meth : Method) (c : Code) (H : Heap) (locs : List Loc) (cells slots mc ms : Nat) (g : JFrame) (rest : List Value) (Qa : State → Outcome → State → Prop) (XC : String → State → State → Prop) (free : Addr → Prop) : Prop :=
  ∀ T : State, T.heap = H → Stand p l e R s m args below meth c T locs cells slots →
    (∃ (v : Option Value) (st₀ t T' : State) (L : List Loc), st₀.heap = H ∧ Stand p l e R s m args below meth c T' (locs ++ L) (cells + mc) (slots + ms) ∧ (∀ q ∈ L, free q.base) ∧ T'.heap = t.heap ∧ T'.vm = t.vm ∧ Qa st₀ (.returned v) t ∧
      Goes p e below T g T' { g with pc := g.pc + 3, stack := v.toList ++ rest }) ∨
    (∃ (q : Addr) (st₀ t T' : State) (L : List Loc) (E : String) (ce : Cell), st₀.heap = H ∧ Stand p l e R s m args below meth c T' (locs ++ L) (cells + mc) (slots + ms) ∧ (∀ z ∈ L, free z.base) ∧ T'.heap = t.heap ∧ T'.vm = t.vm ∧ XC E st₀ t ∧ t.heap[q]? = some ce ∧ ce.vm = .none ∧ s.vm.findClass E = some ce.cls ∧
      Steps p.tables e below (T.setTop g) ((T'.setTop { g with stack := rest }).pushFrame (.throwing q)))
def vx_X {S : Type} (px : S → Prop) (B : String → S → State → Prop) (A : Nat → Prop) : String → State → State → Prop := fun E st t => ∃ u : S, px u ∧ B E u t ∧ va_F A st t
section Runs
variable {p : Program} {l : Launch} {e : Env} {R : Room} {s : State} {m : MethodId} {args : Array Value} {below : List Frame} {meth : Method} {c : Code} {H : Heap} {locs : List Loc} {cells slots : Nat}
variable {y : MethodName} {bytes cc : ByteArray} {maxL nL mc ms n index : Nat} {ret : Option FieldType} {ws : List Cond} {rm : Room} {Pc : Array Value → State → Prop} {Qc : Array Value → State → Outcome → State → Prop} {XC : String → State → State → Prop} {free : Addr → Prop} {Ts : List Cond} {own C : String} {b : Addr} {As rest : List Value} {g : JFrame}
theorem vx_callBack (cb : CallB R s args own index y bytes maxL ret ws rm mc ms n) (hM : vx_Met l y ws rm Pc Qc XC mc ms free) (hbl : FrameBlind Pc) : vx_Back l R p e below s args y 3 8 (PreOf R mc ms Pc) (PostOf Qc mc ms free) (vx_Post XC mc ms free) := by
  obtain ⟨hrc, hrs, hfr, hlo, hws, hcw, -, hini, -⟩ := cb
  exact vx_back (bytes := bytes) (maxL := maxL) (ret := ret) hM hbl hrc hrs hfr hlo hws hcw (fun a' U hW => word_at hW (Or.inl (by first | rfl | simp [Cond.onTables, Cond.keeps, Cond.steady])) hini)
theorem vx_runV (S : CallFix p m c cc nL s args Ts own) (hM : vx_Met l y ws rm Pc Qc XC mc ms free) (cw : CallW R s args own C index y bytes maxL ret ws rm mc ms n) (hp : PreV s H C b Pc As)
    (hg : g.method = m) (hn : As.length = n) (hsize : g.locals.size = nL) (hstack : g.stack = As.reverse ++ .ref b :: rest) (hW : 2 * g.monitorRoom + (rest.map fun v => v.category).sum ≤ 8) (hdg : decode cc g.pc = .ok (.invokevirtual index, 3)) (hf : cells + mc ≤ R.cells ∧ slots + ms ≤ R.slots) :
    vx_Run p l e R s m args below meth c H locs cells slots mc ms g rest (Qc (Value.ref b :: As).toArray) XC free := by
  have hK : vx_Back l R p e below s args y 3 8 (PreOf R mc ms Pc) (PostOf Qc mc ms free) (vx_Post XC mc ms free) := vx_callBack cw.1 hM hp.1
  obtain ⟨⟨-, -, -, -, -, -, hcode, -, hy, hlen, hl⟩, hin, hse⟩ := cw
  obtain ⟨hx, hb, hml, ho, -⟩ := S
  obtain ⟨-, ⟨cellB, hcB, hoB, hclB⟩, hPc⟩ := hp
  intro T hT X
  rcases vx_callV X hx (C := C) (bytes := bytes) (maxL := maxL) (ret := ret) ho hl hin hse hcode hy hK (by rw [hT]; exact hcB) hoB hclB hg (hsize.trans hml.symm) (argsL := As) (rest := rest) (fun sig h => hn.trans (hlen sig h)) hstack hW (by rw [hb]; exact hdg)
    (fun vm₁ hW₁ => ⟨hf.1, hf.2, hPc (T.setVm vm₁) hT hW₁⟩) with ⟨v, vm₁, ⟨U', l2, c2, s2⟩, hW₁, X', ⟨g', mk, t, L, e1, e2, hq, h1, hL, h2, h3⟩, st⟩ | ⟨q, vm₁, ⟨U', l2, c2, s2⟩, hW₁, X', ⟨g', mk, t, L, E, ce, e1, e2, hq, hce, hcv, hcl, h1, hL, h2, h3⟩, st⟩
  · dsimp only [Pt.U, Pt.locs, Pt.cells, Pt.slots] at X' e1 e2 h1 h2 h3 st
    subst h1; subst h2; subst h3
    exact Or.inl ⟨v, (T.setVm vm₁).calling g' mk (Value.ref b :: As).toArray, t, U', L, hT, X', hL, e1, e2, hq, st⟩
  · dsimp only [Pt.U, Pt.locs, Pt.cells, Pt.slots] at X' e1 e2 h1 h2 h3 st hcl
    subst h1; subst h2; subst h3
    exact Or.inr ⟨q, (T.setVm vm₁).calling g' mk (Value.ref b :: As).toArray, t, U', L, E, ce, hT, X', hL, e1, e2, hq, hce, hcv, vx_cls hW₁ hcl, st⟩
theorem vx_runS (S : CallFix p m c cc nL s args Ts own) (hM : vx_Met l y ws rm Pc Qc XC mc ms free) (cw : CallB R s args own index y bytes maxL ret ws rm mc ms n ∧ (Cond.static y).before args s = true) (hp : PreS s H Pc As)
    (hg : g.method = m) (hn : As.length = n) (hsize : g.locals.size = nL) (hstack : g.stack = As.reverse ++ rest) (hW : 2 * g.monitorRoom + (rest.map fun v => v.category).sum ≤ 8) (hdg : decode cc g.pc = .ok (.invokestatic index, 3)) (hf : cells + mc ≤ R.cells ∧ slots + ms ≤ R.slots) :
    vx_Run p l e R s m args below meth c H locs cells slots mc ms g rest (Qc As.toArray) XC free := by
  have hK : vx_Back l R p e below s args y 3 8 (PreOf R mc ms Pc) (PostOf Qc mc ms free) (vx_Post XC mc ms free) := vx_callBack cw.1 hM hp.1
  obtain ⟨⟨-, -, -, -, -, -, hcode, hini, hy, hlen, hl⟩, hstt⟩ := cw
  obtain ⟨hx, hb, hml, ho, -⟩ := S
  intro T hT X
  rcases vx_callS X hx (bytes := bytes) (maxL := maxL) (ret := ret) ho hl hstt hini hcode hy hK hg (hsize.trans hml.symm) (argsL := As) (rest := rest) (fun sig h => hn.trans (hlen sig h)) hstack hW (by rw [hb]; exact hdg)
    (fun vm₁ hW₁ => ⟨hf.1, hf.2, hp.2 (T.setVm vm₁) hT hW₁⟩) with ⟨v, vm₁, ⟨U', l2, c2, s2⟩, hW₁, X', ⟨g', mk, t, L, e1, e2, hq, h1, hL, h2, h3⟩, st⟩ | ⟨q, vm₁, ⟨U', l2, c2, s2⟩, hW₁, X', ⟨g', mk, t, L, E, ce, e1, e2, hq, hce, hcv, hcl, h1, hL, h2, h3⟩, st⟩
  · dsimp only [Pt.U, Pt.locs, Pt.cells, Pt.slots] at X' e1 e2 h1 h2 h3 st
    subst h1; subst h2; subst h3
    exact Or.inl ⟨v, (T.setVm vm₁).calling g' mk As.toArray, t, U', L, hT, X', hL, e1, e2, hq, st⟩
  · dsimp only [Pt.U, Pt.locs, Pt.cells, Pt.slots] at X' e1 e2 h1 h2 h3 st hcl
    subst h1; subst h2; subst h3
    exact Or.inr ⟨q, (T.setVm vm₁).calling g' mk As.toArray, t, U', L, E, ce, hT, X', hL, e1, e2, hq, hce, hcv, vx_cls hW₁ hcl, st⟩
end Runs
section Rows
variable {p : Program} {l : Launch} {e : Env} {R : Room} {s : State} {m : MethodId} {args : Array Value} {below : List Frame} {meth : Method} {c : Code} {H : Heap} {locs : List Loc} {cells slots : Nat} {Q : State → Prop}
variable {mc ms : Nat} {free : Addr → Prop} {A0 A1 : Nat → Prop} {H0 : Heap} {a : Array Value} {pc : Nat} {ls : Array Slot} {st0 rest : List Value}
theorem vx_keep {st₀ t T' : State} {L : List Loc} (h0 : st₀.heap = H) (e1 : T'.heap = t.heap) (hS : va_S A0 H0 H locs) (hA : ∀ q, q < H.size → A1 q → A0 q) (hf : ∀ q, free q → A0 q) (hL : ∀ q ∈ L, free q.base) (hF : va_F A1 st₀ t) :
    H.size ≤ T'.heap.size ∧ (∀ q : Nat, q < H.size → ¬ A1 q → T'.heap[q]? = H[q]?) ∧ va_S A0 H0 T'.heap (locs ++ L) := by
  obtain ⟨hz, hk⟩ := hF
  rw [h0] at hz hk
  exact ⟨by rw [e1]; exact hz, fun q h1 h2 => by rw [e1]; exact hk q h1 h2,
    ⟨Nat.le_trans hS.1 (by rw [e1]; exact hz), fun q h1 h2 => by rw [e1, hk q (Nat.lt_of_lt_of_le h1 hS.1) (fun z => h2 (hA q (Nat.lt_of_lt_of_le h1 hS.1) z))]; exact hS.2.1 q h1 h2, fun q hq => by
      rcases List.mem_append.mp hq with h | h
      · exact hS.2.2 q h
      · exact hf _ (hL q h)⟩⟩
theorem vx_calli {S SX : Type} {post : Int32 → S → Prop} {px : SX → Prop} {B : S → State → Prop} {BX : String → SX → State → Prop} {AX : Nat → Prop} (hr : vx_Run p l e R s m args below meth c H locs cells slots mc ms (F0 m pc ls st0) rest (va_Qi post B A1 a) (vx_X px BX AX) free) (hS : va_S A0 H0 H locs) (hA : ∀ q, q < H.size → A1 q → A0 q) (hf : ∀ q, free q → A0 q) (hAX : ∀ q, q < H.size → AX q → A0 q)
    (kx : ∀ (E : String) (ce : Cell) (q9 : Addr) (u : SX) (t : State) (H1 : Heap) (locs1 : List Loc), t.heap = H1 → s.vm.Alike t.vm → px u → BX E u t → H.size ≤ H1.size → (∀ q : Nat, q < H.size → ¬ AX q → H1[q]? = H[q]?) → va_S A0 H0 H1 locs1 → H1[q9]? = some ce → ce.vm = .none → s.vm.findClass E = some ce.cls → vx_W p l e R s m args below meth c H1 locs1 (cells + mc) (slots + ms) Q (F0 m pc ls rest) q9)
    (kk : ∀ (r : Int32) (u : S) (t : State) (H1 : Heap) (locs1 : List Loc), t.heap = H1 → s.vm.Alike t.vm → post r u → B u t → H.size ≤ H1.size → (∀ q : Nat, q < H.size → ¬ A1 q → H1[q]? = H[q]?) → va_S A0 H0 H1 locs1 → W p l e R s m args below meth c H1 locs1 (cells + mc) (slots + ms) Q (F0 m (pc + 3) ls (.int r :: rest))) : W p l e R s m args below meth c H locs cells slots Q (F0 m pc ls st0) := by
  intro T hT X
  rcases hr T hT X with ⟨v, st₀, t, T', L, h0, X', hL, e1, e2, ⟨⟨r, u, hv, hp, hb⟩, hF⟩, st⟩ | ⟨q, st₀, t, T', L, E, ce, h0, X', hL, e1, e2, ⟨u, hp, hb, hF⟩, hce, hcv, hcl, st⟩
  · cases hv
    obtain ⟨k1, k2, k3⟩ := vx_keep h0 e1 hS hA hf hL hF
    obtain ⟨t2, a1, b1⟩ := kk r u t T'.heap (locs ++ L) e1.symm (by rw [← e2]; exact X'.warmed.alike) hp hb k1 k2 k3 T' rfl X'
    exact ⟨t2, st t2 a1, b1⟩
  · obtain ⟨k1, k2, k3⟩ := vx_keep h0 e1 hS hAX hf hL hF
    obtain ⟨t2, a1, b1⟩ := kx E ce q u t T'.heap (locs ++ L) e1.symm (by rw [← e2]; exact X'.warmed.alike) hp hb k1 k2 k3 (by rw [e1]; exact hce) hcv hcl T' rfl X'
    exact ⟨t2, st.trans a1, b1⟩
theorem vx_calll {S SX : Type} {post : Int64 → S → Prop} {px : SX → Prop} {B : S → State → Prop} {BX : String → SX → State → Prop} {AX : Nat → Prop} (hr : vx_Run p l e R s m args below meth c H locs cells slots mc ms (F0 m pc ls st0) rest (va_Ql post B A1 a) (vx_X px BX AX) free) (hS : va_S A0 H0 H locs) (hA : ∀ q, q < H.size → A1 q → A0 q) (hf : ∀ q, free q → A0 q) (hAX : ∀ q, q < H.size → AX q → A0 q)
    (kx : ∀ (E : String) (ce : Cell) (q9 : Addr) (u : SX) (t : State) (H1 : Heap) (locs1 : List Loc), t.heap = H1 → s.vm.Alike t.vm → px u → BX E u t → H.size ≤ H1.size → (∀ q : Nat, q < H.size → ¬ AX q → H1[q]? = H[q]?) → va_S A0 H0 H1 locs1 → H1[q9]? = some ce → ce.vm = .none → s.vm.findClass E = some ce.cls → vx_W p l e R s m args below meth c H1 locs1 (cells + mc) (slots + ms) Q (F0 m pc ls rest) q9)
    (kk : ∀ (r : Int64) (u : S) (t : State) (H1 : Heap) (locs1 : List Loc), t.heap = H1 → s.vm.Alike t.vm → post r u → B u t → H.size ≤ H1.size → (∀ q : Nat, q < H.size → ¬ A1 q → H1[q]? = H[q]?) → va_S A0 H0 H1 locs1 → W p l e R s m args below meth c H1 locs1 (cells + mc) (slots + ms) Q (F0 m (pc + 3) ls (.long r :: rest))) : W p l e R s m args below meth c H locs cells slots Q (F0 m pc ls st0) := by
  intro T hT X
  rcases hr T hT X with ⟨v, st₀, t, T', L, h0, X', hL, e1, e2, ⟨⟨r, u, hv, hp, hb⟩, hF⟩, st⟩ | ⟨q, st₀, t, T', L, E, ce, h0, X', hL, e1, e2, ⟨u, hp, hb, hF⟩, hce, hcv, hcl, st⟩
  · cases hv
    obtain ⟨k1, k2, k3⟩ := vx_keep h0 e1 hS hA hf hL hF
    obtain ⟨t2, a1, b1⟩ := kk r u t T'.heap (locs ++ L) e1.symm (by rw [← e2]; exact X'.warmed.alike) hp hb k1 k2 k3 T' rfl X'
    exact ⟨t2, st t2 a1, b1⟩
  · obtain ⟨k1, k2, k3⟩ := vx_keep h0 e1 hS hAX hf hL hF
    obtain ⟨t2, a1, b1⟩ := kx E ce q u t T'.heap (locs ++ L) e1.symm (by rw [← e2]; exact X'.warmed.alike) hp hb k1 k2 k3 (by rw [e1]; exact hce) hcv hcl T' rfl X'
    exact ⟨t2, st.trans a1, b1⟩
theorem vx_callf {S SX : Type} {post : UInt32 → S → Prop} {px : SX → Prop} {B : S → State → Prop} {BX : String → SX → State → Prop} {AX : Nat → Prop} (hr : vx_Run p l e R s m args below meth c H locs cells slots mc ms (F0 m pc ls st0) rest (va_Qf post B A1 a) (vx_X px BX AX) free) (hS : va_S A0 H0 H locs) (hA : ∀ q, q < H.size → A1 q → A0 q) (hf : ∀ q, free q → A0 q) (hAX : ∀ q, q < H.size → AX q → A0 q)
    (kx : ∀ (E : String) (ce : Cell) (q9 : Addr) (u : SX) (t : State) (H1 : Heap) (locs1 : List Loc), t.heap = H1 → s.vm.Alike t.vm → px u → BX E u t → H.size ≤ H1.size → (∀ q : Nat, q < H.size → ¬ AX q → H1[q]? = H[q]?) → va_S A0 H0 H1 locs1 → H1[q9]? = some ce → ce.vm = .none → s.vm.findClass E = some ce.cls → vx_W p l e R s m args below meth c H1 locs1 (cells + mc) (slots + ms) Q (F0 m pc ls rest) q9)
    (kk : ∀ (r : UInt32) (u : S) (t : State) (H1 : Heap) (locs1 : List Loc), t.heap = H1 → s.vm.Alike t.vm → post r u → B u t → H.size ≤ H1.size → (∀ q : Nat, q < H.size → ¬ A1 q → H1[q]? = H[q]?) → va_S A0 H0 H1 locs1 → W p l e R s m args below meth c H1 locs1 (cells + mc) (slots + ms) Q (F0 m (pc + 3) ls (.float r :: rest))) : W p l e R s m args below meth c H locs cells slots Q (F0 m pc ls st0) := by
  intro T hT X
  rcases hr T hT X with ⟨v, st₀, t, T', L, h0, X', hL, e1, e2, ⟨⟨r, u, hv, hp, hb⟩, hF⟩, st⟩ | ⟨q, st₀, t, T', L, E, ce, h0, X', hL, e1, e2, ⟨u, hp, hb, hF⟩, hce, hcv, hcl, st⟩
  · cases hv
    obtain ⟨k1, k2, k3⟩ := vx_keep h0 e1 hS hA hf hL hF
    obtain ⟨t2, a1, b1⟩ := kk r u t T'.heap (locs ++ L) e1.symm (by rw [← e2]; exact X'.warmed.alike) hp hb k1 k2 k3 T' rfl X'
    exact ⟨t2, st t2 a1, b1⟩
  · obtain ⟨k1, k2, k3⟩ := vx_keep h0 e1 hS hAX hf hL hF
    obtain ⟨t2, a1, b1⟩ := kx E ce q u t T'.heap (locs ++ L) e1.symm (by rw [← e2]; exact X'.warmed.alike) hp hb k1 k2 k3 (by rw [e1]; exact hce) hcv hcl T' rfl X'
    exact ⟨t2, st.trans a1, b1⟩
theorem vx_calld {S SX : Type} {post : UInt64 → S → Prop} {px : SX → Prop} {B : S → State → Prop} {BX : String → SX → State → Prop} {AX : Nat → Prop} (hr : vx_Run p l e R s m args below meth c H locs cells slots mc ms (F0 m pc ls st0) rest (va_Qd post B A1 a) (vx_X px BX AX) free) (hS : va_S A0 H0 H locs) (hA : ∀ q, q < H.size → A1 q → A0 q) (hf : ∀ q, free q → A0 q) (hAX : ∀ q, q < H.size → AX q → A0 q)
    (kx : ∀ (E : String) (ce : Cell) (q9 : Addr) (u : SX) (t : State) (H1 : Heap) (locs1 : List Loc), t.heap = H1 → s.vm.Alike t.vm → px u → BX E u t → H.size ≤ H1.size → (∀ q : Nat, q < H.size → ¬ AX q → H1[q]? = H[q]?) → va_S A0 H0 H1 locs1 → H1[q9]? = some ce → ce.vm = .none → s.vm.findClass E = some ce.cls → vx_W p l e R s m args below meth c H1 locs1 (cells + mc) (slots + ms) Q (F0 m pc ls rest) q9)
    (kk : ∀ (r : UInt64) (u : S) (t : State) (H1 : Heap) (locs1 : List Loc), t.heap = H1 → s.vm.Alike t.vm → post r u → B u t → H.size ≤ H1.size → (∀ q : Nat, q < H.size → ¬ A1 q → H1[q]? = H[q]?) → va_S A0 H0 H1 locs1 → W p l e R s m args below meth c H1 locs1 (cells + mc) (slots + ms) Q (F0 m (pc + 3) ls (.double r :: rest))) : W p l e R s m args below meth c H locs cells slots Q (F0 m pc ls st0) := by
  intro T hT X
  rcases hr T hT X with ⟨v, st₀, t, T', L, h0, X', hL, e1, e2, ⟨⟨r, u, hv, hp, hb⟩, hF⟩, st⟩ | ⟨q, st₀, t, T', L, E, ce, h0, X', hL, e1, e2, ⟨u, hp, hb, hF⟩, hce, hcv, hcl, st⟩
  · cases hv
    obtain ⟨k1, k2, k3⟩ := vx_keep h0 e1 hS hA hf hL hF
    obtain ⟨t2, a1, b1⟩ := kk r u t T'.heap (locs ++ L) e1.symm (by rw [← e2]; exact X'.warmed.alike) hp hb k1 k2 k3 T' rfl X'
    exact ⟨t2, st t2 a1, b1⟩
  · obtain ⟨k1, k2, k3⟩ := vx_keep h0 e1 hS hAX hf hL hF
    obtain ⟨t2, a1, b1⟩ := kx E ce q u t T'.heap (locs ++ L) e1.symm (by rw [← e2]; exact X'.warmed.alike) hp hb k1 k2 k3 (by rw [e1]; exact hce) hcv hcl T' rfl X'
    exact ⟨t2, st.trans a1, b1⟩
theorem vx_callv {S SX : Type} {post : S → Prop} {px : SX → Prop} {B : S → State → Prop} {BX : String → SX → State → Prop} {AX : Nat → Prop} (hr : vx_Run p l e R s m args below meth c H locs cells slots mc ms (F0 m pc ls st0) rest (va_Qv post B A1 a) (vx_X px BX AX) free) (hS : va_S A0 H0 H locs) (hA : ∀ q, q < H.size → A1 q → A0 q) (hf : ∀ q, free q → A0 q) (hAX : ∀ q, q < H.size → AX q → A0 q)
    (kx : ∀ (E : String) (ce : Cell) (q9 : Addr) (u : SX) (t : State) (H1 : Heap) (locs1 : List Loc), t.heap = H1 → s.vm.Alike t.vm → px u → BX E u t → H.size ≤ H1.size → (∀ q : Nat, q < H.size → ¬ AX q → H1[q]? = H[q]?) → va_S A0 H0 H1 locs1 → H1[q9]? = some ce → ce.vm = .none → s.vm.findClass E = some ce.cls → vx_W p l e R s m args below meth c H1 locs1 (cells + mc) (slots + ms) Q (F0 m pc ls rest) q9)
    (kk : ∀ (u : S) (t : State) (H1 : Heap) (locs1 : List Loc), t.heap = H1 → s.vm.Alike t.vm → post u → B u t → H.size ≤ H1.size → (∀ q : Nat, q < H.size → ¬ A1 q → H1[q]? = H[q]?) → va_S A0 H0 H1 locs1 → W p l e R s m args below meth c H1 locs1 (cells + mc) (slots + ms) Q (F0 m (pc + 3) ls (rest))) : W p l e R s m args below meth c H locs cells slots Q (F0 m pc ls st0) := by
  intro T hT X
  rcases hr T hT X with ⟨v, st₀, t, T', L, h0, X', hL, e1, e2, ⟨⟨u, hv, hp, hb⟩, hF⟩, st⟩ | ⟨q, st₀, t, T', L, E, ce, h0, X', hL, e1, e2, ⟨u, hp, hb, hF⟩, hce, hcv, hcl, st⟩
  · cases hv
    obtain ⟨k1, k2, k3⟩ := vx_keep h0 e1 hS hA hf hL hF
    obtain ⟨t2, a1, b1⟩ := kk u t T'.heap (locs ++ L) e1.symm (by rw [← e2]; exact X'.warmed.alike) hp hb k1 k2 k3 T' rfl X'
    exact ⟨t2, st t2 a1, b1⟩
  · obtain ⟨k1, k2, k3⟩ := vx_keep h0 e1 hS hAX hf hL hF
    obtain ⟨t2, a1, b1⟩ := kx E ce q u t T'.heap (locs ++ L) e1.symm (by rw [← e2]; exact X'.warmed.alike) hp hb k1 k2 k3 (by rw [e1]; exact hce) hcv hcl T' rfl X'
    exact ⟨t2, st.trans a1, b1⟩
/-- caught by the row x of this method's table; the rows ahead don't take it -/
theorem vx_catch {own name : String} {E : String} {ce : Cell} {q : Addr} (hown : s.vm.findClass own = some m.cls) (pre : List ExceptionTableEntry) (x : ExceptionTableEntry) (suf : List ExceptionTableEntry) (hsplit : c.exceptionTable.toList = pre ++ x :: suf)
    (hpass : ∀ z ∈ pre, covers z pc = false ∨ (z.catchType ≠ 0 ∧ ∃ nm : String, (Cond.classLink own z.catchType nm).before args s = true ∧ va_Nc E nm s)) (hx : covers x pc = true) (h0 : x.catchType ≠ 0)
    (hlink : (Cond.classLink own x.catchType name).before args s = true) (hcast : (Cond.castable E name).before args s = true) (hcell : H[q]? = some ce) (hv : ce.vm = .none) (hcl : s.vm.findClass E = some ce.cls)
    (kk : W p l e R s m args below meth c H locs cells slots Q (F0 m x.handlerPc ls [.ref q])) : vx_W p l e R s m args below meth c H locs cells slots Q (F0 m pc ls rest) q := by
  intro T hT X
  have hpl : e.platform.magicAccessors = ({} : Platform).magicAccessors := by rw [X.admits.platform]
  obtain ⟨c3, c4, hc3, hc4, hasg⟩ := Cond.castable_spec hcast
  cases Option.some.inj (hc3.symm.trans hcl)
  obtain ⟨c5, hc5, hcl5⟩ := Cond.classLink_spec hown hlink e.platform hpl
  cases Option.some.inj (hc4.symm.trans hc5)
  obtain ⟨vm', X', st⟩ := X.thenCaughtThrough q (g := F0 m pc ls rest) rfl (Steps.refl _) (by rw [hT]; exact hcell) (by rw [hv]; rfl) (by obtain ⟨k9, h9, -⟩ := Vm.findClass_spec hcl; exact ⟨k9, h9⟩) pre x suf hsplit
    (fun z hz => by
      rcases hpass z hz with h | ⟨hz0, nm, hl1, hn1⟩
      · exact Or.inl h
      · obtain ⟨c6, hc6, hcl6⟩ := Cond.classLink_spec hown hl1 e.platform hpl
        obtain ⟨a8, b8, h1, h2, h3⟩ := hn1
        cases Option.some.inj (h1.symm.trans hcl)
        cases Option.some.inj (h2.symm.trans hc6)
        exact Or.inr ⟨hz0, _, hcl6, h3⟩) hx (Or.inr ⟨h0, c4, hcl5, hasg⟩)
  obtain ⟨t, a1, b1⟩ := kk (T.setVm vm') hT X'
  exact ⟨t, st.trans a1, b1⟩
end Rows
section Ends
variable {p : Program} {l : Launch} {e : Env} {R : Room} {s : State} {m : MethodId} {args : Array Value} {below : List Frame} {meth : Method} {c : Code} {H : Heap} {locs : List Loc} {cells slots : Nat} {Q : State → Prop}
variable {mc ms : Nat} {free : Addr → Prop} {A0 A1 : Nat → Prop} {H0 : Heap} {a : Array Value} {ls : Array Slot} {st0 rest : List Value}
variable {Qc : Array Value → State → Outcome → State → Prop} {XC : String → State → State → Prop}
/-- what a body that may throw owes at its end -/
def vx_MQ (below : List Frame) (Qc : Array Value → State → Outcome → State → Prop) (XC : String → State → State → Prop) (a : Array Value) (s : State) (mc ms : Nat) (free : Addr → Prop) : State → Prop := fun t =>
  ∃ o, t.status = .running ∧ Ended t below o ∧ vx_Q Qc XC mc ms free a s o t
theorem vx_ret {g : JFrame} {mc ms : Nat} (k : W p l e R s m args below meth c H locs cells slots (MQ below Qc args s mc ms free) g) : W p l e R s m args below meth c H locs cells slots (vx_MQ below Qc XC args s mc ms free) g := by
  intro T hT X
  obtain ⟨t, a1, o, b1, b2, b3, b4⟩ := k T hT X
  exact ⟨t, a1, o, b1, b2, Or.inl ⟨b3, b4⟩⟩
/-- not caught here: it goes on to the caller -/
theorem vx_widen {g : JFrame} {q : Addr} {k n : Nat} (h1 : cells ≤ k) (h2 : slots ≤ n) (kk : vx_W p l e R s m args below meth c H locs k n Q g q) : vx_W p l e R s m args below meth c H locs cells slots Q g q := fun T hT X => kk T hT (stand_widen X h1 h2)
theorem vx_out {pc : Nat} {E : String} {ce : Cell} {q : Addr} {mc ms : Nat} (hout : ∀ x ∈ c.exceptionTable.toList, covers x pc = false) (hlocks : meth.locks = false) (hcell : H[q]? = some ce) (hv : ce.vm = .none) (hcl : s.vm.findClass E = some ce.cls)
    (hx : ∀ t : State, t.heap = H → s.vm.Alike t.vm → XC E s t) (hf : ∀ z ∈ locs, free z.base) (hc : cells ≤ mc) (hs : slots ≤ ms) :
    vx_W p l e R s m args below meth c H locs cells slots (vx_MQ below Qc XC args s mc ms free) (F0 m pc ls rest) q := by
  intro T hT X
  obtain ⟨st1, hrun, hend, hW, hsm⟩ := X.leaveThrown q (g := F0 m pc ls rest) rfl rfl rfl hout hlocks
  have hcell9 : (T.setFrames (.throwing q :: below)).heap[q]? = some ce := by
    show T.heap[q]? = some ce
    rw [hT]; exact hcell
  exact ⟨_, st1, .threw q, hrun, hend, Or.inr ⟨q, rfl, E, ce, locs, hx _ hT hW.alike, hcell9, hv, hcl, hW, hsm.mono hc hs, hf⟩⟩
theorem vx_frame {U : State} {k n : Nat} (h : s.sameButNew ({ U with vm := s.vm } : State) locs k n) : s.heap.size ≤ U.heap.size ∧ ∀ q : Nat, q < s.heap.size → (∀ z ∈ locs, z.base ≠ q) → U.heap[q]? = s.heap[q]? := by
  obtain ⟨-, h2, -, -, -, h6⟩ := h
  refine ⟨h2, fun q hq hz => ?_⟩
  obtain ⟨c9, e1, e2, e3, e4⟩ := h6 q _ (Array.getElem?_eq_getElem hq)
  have hs : c9.slots = (s.heap[q]).slots := Array.ext_getElem? fun i => e4 i fun hm => hz _ hm rfl
  have h9 : c9 = s.heap[q] := by
    rw [hs] at e2
    exact e2
  have e5 : U.heap[q]? = some c9 := e1
  rw [e5, h9, Array.getElem?_eq_getElem hq]
/-- the words of a throw but the four that speak of the heap -/
def vx_no (w : Cond) : Bool := decide (w ≠ .isRef (.static Bundle.tN "UNASSIGNED_STACK" Bundle.steD)) && decide (w ≠ .isRef (.static Bundle.tN "SUPPRESSED_SENTINEL" Bundle.listD)) && decide (w ≠ .laysStatic Bundle.tN "UNASSIGNED_STACK" Bundle.steD) && decide (w ≠ .laysStatic Bundle.tN "SUPPRESSED_SENTINEL" Bundle.listD)
def vx_at0 (own : String) (ic : Nat) (X : String) (names : List String) : List Cond := (Bundle.ownAtoms0 own ic X names).filter vx_no
def vx_atS (own : String) (ic : Nat) (X : String) (names : List String) : List Cond := (Bundle.ownAtoms own ic X names).filter vx_no
/-- a word that the tables alone decide, or a good one -/
def vx_ot (w : Cond) : Bool := w.onTables || goodWord w
theorem vx_ot_at {args a' : Array Value} {s U : State} {w : Cond} (hW : s.WarmedH U.vm) (hvm : s.vm = U.vm) (hg : vx_ot w = true) (h : w.before args s = true) : w.before a' U = true := by
  simp only [vx_ot, Bool.or_eq_true] at hg
  rcases hg with hg | hg
  · exact va_tabs hg hvm h
  · exact word_at hW (good_of_word hg) h
/-- a list's words: the good ones out of the method's own list, the others by premises of their own -/
theorem vx_hat {args : Array Value} {s : State} {L B : List Cond} (h1 : ∀ w ∈ L.filter goodWord, w.before args s = true) (h2 : ∀ w ∈ L.filter (fun w => !goodWord w), w ∈ B) (h3 : ∀ w ∈ B, w.before args s = true) : ∀ w ∈ L, w.before args s = true := by
  intro w hw
  by_cases g : goodWord w = true
  · exact h1 w (List.mem_filter.mpr ⟨hw, g⟩)
  · refine h3 w (h2 w (List.mem_filter.mpr ⟨hw, ?_⟩))
    show (!goodWord w) = true
    cases hgw : goodWord w
    · rfl
    · exact absurd hgw g
theorem vx_c {args : Array Value} {s : State} {w : Cond} {B : List Cond} (h : w.before args s = true) (t : ∀ w ∈ B, w.before args s = true) : ∀ w' ∈ w :: B, w'.before args s = true := fun w' h' => (List.mem_cons.mp h').elim (fun e => by rw [e]; exact h) (t w')
theorem vx_n {args : Array Value} {s : State} : ∀ w ∈ ([] : List Cond), w.before args s = true := fun _ h => nomatch h
theorem vx_own {args : Array Value} {s : State} {L : List Cond} (h1 : ∀ w ∈ L.filter vx_no, w.before args s = true)
    (hU : (Cond.isRef (.static Bundle.tN "UNASSIGNED_STACK" Bundle.steD)).before args s = true) (hN : (Cond.isRef (.static Bundle.tN "SUPPRESSED_SENTINEL" Bundle.listD)).before args s = true)
    (lU : (Cond.laysStatic Bundle.tN "UNASSIGNED_STACK" Bundle.steD).before args s = true) (lN : (Cond.laysStatic Bundle.tN "SUPPRESSED_SENTINEL" Bundle.listD).before args s = true) : ∀ w ∈ L, w.before args s = true := by
  intro w hw
  by_cases e1 : w = .isRef (.static Bundle.tN "UNASSIGNED_STACK" Bundle.steD)
  · rw [e1]; exact hU
  · by_cases e2 : w = .isRef (.static Bundle.tN "SUPPRESSED_SENTINEL" Bundle.listD)
    · rw [e2]; exact hN
    · by_cases e3 : w = .laysStatic Bundle.tN "UNASSIGNED_STACK" Bundle.steD
      · rw [e3]; exact lU
      · by_cases e4 : w = .laysStatic Bundle.tN "SUPPRESSED_SENTINEL" Bundle.listD
        · rw [e4]; exact lN
        · exact h1 w (List.mem_filter.mpr ⟨hw, by unfold vx_no; rw [decide_eq_true e1, decide_eq_true e2, decide_eq_true e3, decide_eq_true e4]; rfl⟩)
/-- where a static field lies, its class's statics cell in H -/
def vx_L (C n d : String) (A : Nat → Prop) (U : State) (H : Heap) : Prop := ∃ (c : ClassId) (k : Class) (i : Nat) (f : Field) (a : Nat) (cell : Cell), U.vm.findClass C = some c ∧ U.fieldFound? C n d = some (c, k, i, f) ∧ f.isStatic = true ∧ k.statics = some a ∧ H[a]? = some cell ∧ cell.vm.isStatics = true ∧ cell.cls = c ∧ f.slot < cell.slots.size ∧ k.staticTypes[f.slot]? = some f.type ∧ ¬ A a
theorem vx_L.moved {C n d : String} {A : Nat → Prop} {u U : State} {H : Heap} (hvm : u.vm.Alike U.vm) (h : vx_L C n d A u H) : vx_L C n d A U H := by
  obtain ⟨c, k, i, f, a, cell, h1, h2, h3, h4, h5, h6, h7, h8, h9, h10⟩ := h
  obtain ⟨k', hi', he⟩ := State.fieldFound?_setVm hvm h2
  exact ⟨c, k', i, f, a, cell, by rw [hvm.findClass]; exact h1, hi', h3, by rw [he]; exact h4, h5, h6, h7, h8, by rw [he]; exact h9, h10⟩
theorem vx_L.kept {C n d : String} {A : Nat → Prop} {U : State} {H H1 : Heap} (h : vx_L C n d A U H) (hq : ∀ a : Nat, a < H.size → ¬ A a → H1[a]? = H[a]?) : vx_L C n d A U H1 := by
  obtain ⟨c, k, i, f, a, cell, h1, h2, h3, h4, h5, h6, h7, h8, h9, h10⟩ := h
  exact ⟨c, k, i, f, a, cell, h1, h2, h3, h4, by rw [hq a (Array.getElem?_eq_some_iff.mp h5).1 h10]; exact h5, h6, h7, h8, h9, h10⟩
theorem vx_L.narrow {C n d : String} {A B : Nat → Prop} {U : State} {H : Heap} (h : vx_L C n d A U H) (hAB : ∀ q, B q → A q) : vx_L C n d B U H := by
  obtain ⟨c, k, i, f, a, cell, h1, h2, h3, h4, h5, h6, h7, h8, h9, h10⟩ := h
  exact ⟨c, k, i, f, a, cell, h1, h2, h3, h4, h5, h6, h7, h8, h9, fun z => h10 (hAB _ z)⟩
theorem vx_L.word {C n d : String} {A : Nat → Prop} {s : State} {args : Array Value} (h : vx_L C n d A s s.heap) : (Cond.laysStatic C n d).before args s = true := by
  obtain ⟨c, k, i, f, a, cell, h1, h2, h3, h4, h5, h6, h7, h8, h9, -⟩ := h
  show (Cond.laysStatic C n d).holds args s none s [] = true
  exact Cond.laysStatic_of h1 h2 h3 h4 h5 h6 h7 h8 h9
/-- .. and what it holds: null or some reference -/
def vx_Zq (C n d : String) (A : Nat → Prop) (U : State) (H : Heap) : Prop := va_Zq C n d A U H ∧ vx_L C n d A U H
theorem vx_Zq.moved {C n d : String} {A : Nat → Prop} {u U : State} {H : Heap} (hvm : u.vm.Alike U.vm) (h : vx_Zq C n d A u H) : vx_Zq C n d A U H := ⟨va_Zq.moved hvm h.1, vx_L.moved hvm h.2⟩
theorem vx_Zq.kept {C n d : String} {A : Nat → Prop} {U : State} {H H1 : Heap} (h : vx_Zq C n d A U H) (hq : ∀ a : Nat, a < H.size → ¬ A a → H1[a]? = H[a]?) : vx_Zq C n d A U H1 := ⟨va_Zq.kept h.1 hq, vx_L.kept h.2 hq⟩
theorem vx_Zq.narrow {C n d : String} {A B : Nat → Prop} {U : State} {H : Heap} (h : vx_Zq C n d A U H) (hAB : ∀ q, B q → A q) : vx_Zq C n d B U H := ⟨va_Zq.narrow h.1 hAB, vx_L.narrow h.2 hAB⟩
theorem vx_Zqof {args : Array Value} {s : State} {C n d : String} {A : Nat → Prop} (hl : (Cond.laysStatic C n d).before args s = true) (hini : (Cond.initialized C).before args s = true) (h : (Cond.isRef (.static C n d)).before args s = true) (hA : ∀ a : Nat, a < s.heap.size → ¬ A a) : vx_Zq C n d A s s.heap := by
  refine ⟨va_Zqof hl hini h hA, ?_⟩
  obtain ⟨c, k, i, f, a, cell, h1, h2, h3, h4, h5, h6, h7, h8, h9⟩ := Cond.laysStatic_spec hl
  exact ⟨c, k, i, f, a, cell, h1, h2, h3, h4, h5, h6, h7, h8, h9, hA a (Array.getElem?_eq_some_iff.mp h5).1⟩
theorem vx_isRef {C n d : String} {v : Value} {A : Nat → Prop} {s : State} {args : Array Value} (h : va_Z C n d v A s s.heap) (hv : v.isRef = true) : (Cond.isRef (.static C n d)).before args s = true := by
  obtain ⟨cf, kf, fi, f, a, cell, h1, h2, h3, h4, h5, h6, h7, -⟩ := h
  have he : (Term.static C n d).eval args s none [] s = some v := by
    simp [Term.eval, State.fieldNamed?, h1, h2, h4, h5, h6, h7]
  simp only [Cond.before, Cond.holds, Cond.value, he]
  cases v <;> simp_all [Value.isRef]
theorem vx_isRefq {C n d : String} {A : Nat → Prop} {s : State} {args : Array Value} (h : va_Zq C n d A s s.heap) : (Cond.isRef (.static C n d)).before args s = true := by
  rcases h with h | ⟨t, h⟩
  · exact vx_isRef h rfl
  · exact vx_isRef h rfl
/-- the same frame, seen from here: as if the method were called anew in this heap -/
theorem vx_rebase {T : State} (X : Stand p l e R s m args below meth c T locs cells slots) {R' : Room} (hf : R'.frames ≤ R.frames) (hl : R'.locals ≤ R.locals) (hc : cells + R'.cells ≤ R.cells) (hs : slots + R'.slots ≤ R.slots) :
    Stand p l e R' ((T.setVm s.vm).setFrames (.invoking m args :: below)) m args below meth c T [] 0 0 := by
  have htop : (T.setVm s.vm).topJava?.isSome := X.here.top
  have hF : ((T.setVm s.vm).setFrames (.invoking m args :: below)).frames = .invoking m args :: below := State.frames_setFrames _ (State.cur_lt_of_top htop)
  obtain ⟨g₀, hg0⟩ := Option.isSome_iff_exists.mp htop
  obtain ⟨r, hr⟩ := State.topJava?_eq_some.mp hg0
  have hl9 : e.platform.stackLimits (T.setVm s.vm).me = e.platform.stackLimits s.me := X.limits
  have hb9 : (T.setVm s.vm).me.stackBytes = s.me.stackBytes := X.bytes
  refine ⟨X.admits, X.cas, X.clock, hF, ?_, X.hears, X.method, X.code, X.here, X.tail, X.warmed, ?_, ?_, ?_⟩
  · have h := X.room
    have hU : ((T.setVm s.vm).setFrames (.invoking m args :: below)).localsInUse = s.localsInUse := by
      rw [State.localsInUse_invoking hF (meth := meth) (c := c) X.method X.code, State.localsInUse_invoking X.frames X.method X.code]
    simp only [State.hasRoom, Bool.and_eq_true, decide_eq_true_eq] at h ⊢
    obtain ⟨⟨⟨⟨h1, h2, h3, h4, h5, h6⟩, h7⟩, h8⟩, h9⟩ := h
    rw [X.frames, List.length_cons] at h2 h3
    have q1 := X.heapSize
    have q2 := X.used
    simp only [hF, hU, List.length_cons, State.stackLimits_setFrames, State.stackBytes_setFrames, hl9, hb9]
    refine ⟨⟨⟨⟨by omega, by omega, by omega, by omega, by omega, h6⟩, ?_⟩, ?_⟩, X.book⟩
    · show T.heap.size + R'.cells ≤ e.platform.maxCells
      omega
    · show T.slotsUsed + R'.slots ≤ e.platform.maxSlots
      omega
  · rw [State.stackLimits_setFrames]; rfl
  · rw [State.stackBytes_setFrames]; rfl
  · refine ⟨?_, Nat.le_refl _, Nat.le_refl _, ?_, ?_, fun a c9 h9 => ⟨c9, h9, rfl, rfl, fun _ _ => rfl⟩⟩
    · obtain ⟨t, ht, -⟩ := State.frames_cons hr
      show T.setVm s.vm = { ((T.setVm s.vm).setFrames (.invoking m args :: below)).setFrames (T.setVm s.vm).frames with heap := T.heap, slotsUsed := T.slotsUsed }
      rw [State.setFrames_setFrames, State.setFrames_self ht]
      rfl
    · show T.slotsUsed = T.slotsUsed + ((T.heap.toList.drop T.heap.size).map (·.slots.size)).sum
      rw [List.drop_eq_nil_of_le (Nat.le_of_eq Array.length_toList)]
      rfl
    · show ((T.heap.toList.drop T.heap.size).map (·.slots.size)).sum ≤ 0
      rw [List.drop_eq_nil_of_le (Nat.le_of_eq Array.length_toList)]
      exact Nat.le_refl _
/-- 'throw new E()': new; dup; invokespecial; athrow -/
theorem vx_throw0 {cc : ByteArray} {pc : Nat} (hexec : p.tables.exec = Jvm.exec) (hb : c.code = cc) (hl : l.stackTraces = false) {own cls : String} {names : List String} {ik ic mc ms : Nat} {A : Nat → Prop}
    (hown : s.vm.findClass own = some m.cls) (hcls : Bundle.fit cls = true) (hnames : ∀ n ∈ names, Bundle.fit n = true)
    (hk : (Cond.classLink own ik cls).before args s = true) (hini : (Cond.initialized cls).before args s = true) (hat : ∀ w ∈ vx_at0 own ic cls names, w.before args s = true)
    (hgood : ∀ w ∈ Cond.classLink own ik cls :: Cond.initialized cls :: vx_at0 own ic cls names, vx_ot w = true)
    (hU : vx_Zq Bundle.tN "UNASSIGNED_STACK" Bundle.steD A s s.heap) (hN : vx_Zq Bundle.tN "SUPPRESSED_SENTINEL" Bundle.listD A s s.heap) (hS : va_S A s.heap H locs) (hsize : ls.size = c.maxLocals)
    (d0 : decode cc pc = .ok (.new ik, 3)) (d3 : decode cc (pc + 3) = .ok (.dup, 1)) (d4 : decode cc (pc + 4) = .ok (.invokespecial ic, 3)) (d7 : decode cc (pc + 7) = .ok (.athrow, 1))
    (hout : ∀ x ∈ c.exceptionTable.toList, covers x (pc + 7) = false)
    (hRframes : names.length + 3 < R.frames) (hRlocals : (rest.map fun v => v.category).sum + (13 * (names.length + 1) + 42) ≤ R.locals) (hRcells : cells + 1 ≤ R.cells) (hRslots : slots + 6 ≤ R.slots) (hlocks : meth.locks = false)
    (hx : ∀ t : State, s.vm.Alike t.vm → H.size ≤ t.heap.size → (∀ q : Nat, q < H.size → t.heap[q]? = H[q]?) → XC cls s t)
    (hf : ∀ z ∈ locs, free z.base) (hc : cells + 1 ≤ mc) (hs : slots + 6 ≤ ms) :
    W p l e R s m args below meth c H locs cells slots (vx_MQ below Qc XC args s mc ms free) (F0 m pc ls rest) := by
  intro T hT X
  have htr : e.platform.stackTraces = false := (show e.platform.stackTraces = l.stackTraces by rw [X.admits.platform]).trans hl
  have Y := vx_rebase X (R' := { frames := R.frames, locals := R.locals, cells := 1, slots := 6 }) (Nat.le_refl _) (Nat.le_refl _) hRcells hRslots
  obtain ⟨s', hA⟩ : ∃ z, z = (T.setVm s.vm).setFrames (.invoking m args :: below) := ⟨_, rfl⟩
  rw [← hA] at Y
  have hvm : s'.vm = s.vm := by rw [hA]; rfl
  have hhp : s'.heap = H := by rw [hA]; exact hT
  have hW0 : s.WarmedH s'.vm := by rw [hvm]; exact State.WarmedH.refl s
  have hat' : ∀ w ∈ vx_at0 own ic cls names, w.before args s' = true := fun w hw => vx_ot_at hW0 hvm.symm (hgood w (List.mem_cons_of_mem _ (List.mem_cons_of_mem _ hw))) (hat w hw)
  have hk' : (Cond.classLink own ik cls).before args s' = true := vx_ot_at hW0 hvm.symm (hgood _ List.mem_cons_self) hk
  have hini' : (Cond.initialized cls).before args s' = true := vx_ot_at hW0 hvm.symm (hgood _ (List.mem_cons_of_mem _ List.mem_cons_self)) hini
  have hU' : vx_Zq Bundle.tN "UNASSIGNED_STACK" Bundle.steD A s' s'.heap := by rw [hhp]; exact vx_Zq.moved hW0.alike (hU.kept hS.2.1)
  have hN' : vx_Zq Bundle.tN "SUPPRESSED_SENTINEL" Bundle.listD A s' s'.heap := by rw [hhp]; exact vx_Zq.moved hW0.alike (hN.kept hS.2.1)
  have h : ∀ w ∈ Bundle.ownAtoms0 own ic cls names, w.before args s' = true := vx_own hat' (vx_isRefq hU'.1) (vx_isRefq hN'.1) hU'.2.word hN'.2.word
  have hown' : s'.vm.findClass own = some m.cls := by rw [hvm]; exact hown
  have hins : (Cond.instantiable cls 6).before args s' = true := h _ (by simp [Bundle.ownAtoms0])
  obtain ⟨vm₁, cX, kX, hfX, hkX, -, -, X₁, st1⟩ := Y.newCold hexec (own := own) (C := cls) (index := ik) (n := 6) hown' hk' hins hini'
    (g := F0 m pc ls rest) rfl (by rw [hb]; exact d0) (Nat.le_refl _) (Nat.le_refl _)
  generalize hT1 : (T.setVm vm₁).pushCell { cls := cX, slots := kX.instanceTypes.map defaultValue, vm := .none } = T1 at X₁ st1
  have hcat : (Value.ref T.heap.size).category = 1 := rfl
  have hcellA : T1.heap[T.heap.size]? = some (freshCell cX kX) := by rw [← hT1]; exact State.heap_pushCell_size _ _
  have d3' : decode c.code (pc + 3) = .ok (.dup, 1) := by rw [hb]; exact d3
  obtain ⟨U, hsteps, hrun, hend, hW, hsame, ce, hce, hO⟩ := X₁.ctorThrow0 hexec htr (own := own) (cls := cls) (names := names) (ic := ic) hown' hcls hnames h (fun x hx => nomatch hx) hfX hkX hcellA (by rw [hhp, hT]; exact Nat.le_refl _)
    (g := { method := m, pc := pc + 4, locals := ls, stack := .ref T.heap.size :: .ref T.heap.size :: rest, locked := none }) rfl hsize rfl rfl (rest := rest) rfl
    (by rw [hb]; exact d4) (by rw [hb]; exact d7) hout hRframes (by simp only [List.map_cons, List.sum_cons, hcat]; omega) hlocks
  obtain ⟨f1, f2⟩ := vx_frame hsame
  rw [hhp] at f1 f2
  have hWs : s.WarmedH U.vm := State.WarmedH.trans hW0 hW
  have hcl : s.vm.findClass cls = some ce.cls := by
    have h9 := hO.cls
    rw [hvm] at h9
    exact h9
  have hall : s.sameButNew ({ U with vm := s.vm } : State) locs mc ms := by
    subst hA
    obtain ⟨e1, e2⟩ := hsame
    rw [State.setFrames_setFrames] at e1
    have h2 : (T.setVm s.vm).sameButNew ({ U with vm := s.vm } : State) [] (0 + 1) (0 + 6) := ⟨e1, e2⟩
    have h3 := X.same.trans h2
    rw [List.append_nil] at h3
    exact h3.mono hc hs
  refine ⟨U, ?_, .threw T.heap.size, hrun, hend, Or.inr ⟨T.heap.size, rfl, cls, ce, locs, hx U hWs.alike f1 (fun q hq => f2 q hq (fun z hz => nomatch hz)), hce, hO.vm, hcl, hWs, hall, hf⟩⟩
  refine st1 _ ?_
  show Steps p.tables e below (T1.setTop { method := m, pc := pc + 3, locals := ls, stack := .ref T.heap.size :: rest, locked := none }) _
  jvm_step X₁.here [X₁.here.top, hexec, d3', Value.category]
  exact hsteps
/-- 'throw new E("text")': new; dup; ldc; invokespecial; athrow -/
theorem vx_throwS {cc : ByteArray} {pc : Nat} (hexec : p.tables.exec = Jvm.exec) (hb : c.code = cc) (hl : l.stackTraces = false) {own cls text : String} {names : List String} {ik is ic mc ms sa : Nat} {A : Nat → Prop}
    (hown : s.vm.findClass own = some m.cls) (hcls : Bundle.fit cls = true) (hnames : ∀ n ∈ names, Bundle.fit n = true)
    (hk : (Cond.classLink own ik cls).before args s = true) (hini : (Cond.initialized cls).before args s = true) (hstr : vk_R own is text sa s) (hat : ∀ w ∈ vx_atS own ic cls names, w.before args s = true)
    (hgood : ∀ w ∈ Cond.classLink own ik cls :: Cond.initialized cls :: vx_atS own ic cls names, vx_ot w = true)
    (hU : vx_Zq Bundle.tN "UNASSIGNED_STACK" Bundle.steD A s s.heap) (hN : vx_Zq Bundle.tN "SUPPRESSED_SENTINEL" Bundle.listD A s s.heap) (hS : va_S A s.heap H locs) (hsize : ls.size = c.maxLocals)
    (d0 : decode cc pc = .ok (.new ik, 3)) (d3 : decode cc (pc + 3) = .ok (.dup, 1)) (d4 : decode cc (pc + 4) = .ok (.ldc is, 2)) (d6 : decode cc (pc + 6) = .ok (.invokespecial ic, 3)) (d9 : decode cc (pc + 9) = .ok (.athrow, 1))
    (hout : ∀ x ∈ c.exceptionTable.toList, covers x (pc + 9) = false)
    (hRframes : names.length + 3 < R.frames) (hRlocals : (rest.map fun v => v.category).sum + (13 * (names.length + 1) + 43) ≤ R.locals) (hRcells : cells + 1 ≤ R.cells) (hRslots : slots + 6 ≤ R.slots) (hlocks : meth.locks = false)
    (hx : ∀ t : State, s.vm.Alike t.vm → H.size ≤ t.heap.size → (∀ q : Nat, q < H.size → t.heap[q]? = H[q]?) → XC cls s t)
    (hf : ∀ z ∈ locs, free z.base) (hc : cells + 1 ≤ mc) (hs : slots + 6 ≤ ms) :
    W p l e R s m args below meth c H locs cells slots (vx_MQ below Qc XC args s mc ms free) (F0 m pc ls rest) := by
  intro T hT X
  have htr : e.platform.stackTraces = false := (show e.platform.stackTraces = l.stackTraces by rw [X.admits.platform]).trans hl
  have Y := vx_rebase X (R' := { frames := R.frames, locals := R.locals, cells := 1, slots := 6 }) (Nat.le_refl _) (Nat.le_refl _) hRcells hRslots
  obtain ⟨s', hA⟩ : ∃ z, z = (T.setVm s.vm).setFrames (.invoking m args :: below) := ⟨_, rfl⟩
  rw [← hA] at Y
  have hvm : s'.vm = s.vm := by rw [hA]; rfl
  have hhp : s'.heap = H := by rw [hA]; exact hT
  have hW0 : s.WarmedH s'.vm := by rw [hvm]; exact State.WarmedH.refl s
  have hat' : ∀ w ∈ vx_atS own ic cls names, w.before args s' = true := fun w hw => vx_ot_at hW0 hvm.symm (hgood w (List.mem_cons_of_mem _ (List.mem_cons_of_mem _ hw))) (hat w hw)
  have hk' : (Cond.classLink own ik cls).before args s' = true := vx_ot_at hW0 hvm.symm (hgood _ List.mem_cons_self) hk
  have hini' : (Cond.initialized cls).before args s' = true := vx_ot_at hW0 hvm.symm (hgood _ (List.mem_cons_of_mem _ List.mem_cons_self)) hini
  have hU' : vx_Zq Bundle.tN "UNASSIGNED_STACK" Bundle.steD A s' s'.heap := by rw [hhp]; exact vx_Zq.moved hW0.alike (hU.kept hS.2.1)
  have hN' : vx_Zq Bundle.tN "SUPPRESSED_SENTINEL" Bundle.listD A s' s'.heap := by rw [hhp]; exact vx_Zq.moved hW0.alike (hN.kept hS.2.1)
  have h : ∀ w ∈ Bundle.ownAtoms own ic cls names, w.before args s' = true := vx_own hat' (vx_isRefq hU'.1) (vx_isRefq hN'.1) hU'.2.word hN'.2.word
  have hown' : s'.vm.findClass own = some m.cls := by rw [hvm]; exact hown
  have hins : (Cond.instantiable cls 6).before args s' = true := h _ (by simp [Bundle.ownAtoms])
  obtain ⟨vm₁, cX, kX, hfX, hkX, -, -, X₁, st1⟩ := Y.newCold hexec (own := own) (C := cls) (index := ik) (n := 6) hown' hk' hins hini'
    (g := F0 m pc ls rest) rfl (by rw [hb]; exact d0) (Nat.le_refl _) (Nat.le_refl _)
  generalize hT1 : (T.setVm vm₁).pushCell { cls := cX, slots := kX.instanceTypes.map defaultValue, vm := .none } = T1 at X₁ st1
  have hcat : (Value.ref T.heap.size).category = 1 := rfl
  have hcellA : T1.heap[T.heap.size]? = some (freshCell cX kX) := by rw [← hT1]; exact State.heap_pushCell_size _ _
  have d3' : decode c.code (pc + 3) = .ok (.dup, 1) := by rw [hb]; exact d3
  have d4' : decode c.code (pc + 4) = .ok (.ldc is, 2) := by rw [hb]; exact d4
  have hstr' : vk_R own is text sa s' := vk_R.warm hW0 hstr
  obtain ⟨U, hsteps, hrun, hend, hW, hsame, ce, hce, hO⟩ := X₁.ctorThrowS hexec htr (own := own) (cls := cls) (names := names) (ic := ic) hown' hcls hnames h (fun x hx => nomatch hx) hfX hkX hcellA (by rw [hhp, hT]; exact Nat.le_refl _) (msg := .ref sa) rfl
    (g := { method := m, pc := pc + 6, locals := ls, stack := .ref sa :: .ref T.heap.size :: .ref T.heap.size :: rest, locked := none }) rfl hsize rfl rfl (rest := rest) rfl
    (by rw [hb]; exact d6) (by rw [hb]; exact d9) hout hRframes (by simp only [List.map_cons, List.sum_cons, hcat]; omega) hlocks
  obtain ⟨f1, f2⟩ := vx_frame hsame
  rw [hhp] at f1 f2
  have hWs : s.WarmedH U.vm := State.WarmedH.trans hW0 hW
  have hcl : s.vm.findClass cls = some ce.cls := by
    have h9 := hO.cls
    rw [hvm] at h9
    exact h9
  have hall : s.sameButNew ({ U with vm := s.vm } : State) locs mc ms := by
    subst hA
    obtain ⟨e1, e2⟩ := hsame
    rw [State.setFrames_setFrames] at e1
    have h2 : (T.setVm s.vm).sameButNew ({ U with vm := s.vm } : State) [] (0 + 1) (0 + 6) := ⟨e1, e2⟩
    have h3 := X.same.trans h2
    rw [List.append_nil] at h3
    exact h3.mono hc hs
  refine ⟨U, ?_, .threw T.heap.size, hrun, hend, Or.inr ⟨T.heap.size, rfl, cls, ce, locs, hx U hWs.alike f1 (fun q hq => f2 q hq (fun z hz => nomatch hz)), hce, hO.vm, hcl, hWs, hall, hf⟩⟩
  refine st1 _ ?_
  show Steps p.tables e below (T1.setTop { method := m, pc := pc + 3, locals := ls, stack := .ref T.heap.size :: rest, locked := none }) _
  jvm_step X₁.here [X₁.here.top, hexec, d3', Value.category]
  exact X₁.ldcString hexec (own := own) (text := text) (index := is) (a := sa) hown' hstr'.1 hstr'.2
    (g := { method := m, pc := pc + 4, locals := ls, stack := .ref T.heap.size :: .ref T.heap.size :: rest, locked := none }) rfl d4' _ hsteps
/-- 'throw new E("text")', the text by a wide index -/
theorem vx_throwSW {cc : ByteArray} {pc : Nat} (hexec : p.tables.exec = Jvm.exec) (hb : c.code = cc) (hl : l.stackTraces = false) {own cls text : String} {names : List String} {ik is ic mc ms sa : Nat} {A : Nat → Prop}
    (hown : s.vm.findClass own = some m.cls) (hcls : Bundle.fit cls = true) (hnames : ∀ n ∈ names, Bundle.fit n = true)
    (hk : (Cond.classLink own ik cls).before args s = true) (hini : (Cond.initialized cls).before args s = true) (hstr : vk_R own is text sa s) (hat : ∀ w ∈ vx_atS own ic cls names, w.before args s = true)
    (hgood : ∀ w ∈ Cond.classLink own ik cls :: Cond.initialized cls :: vx_atS own ic cls names, vx_ot w = true)
    (hU : vx_Zq Bundle.tN "UNASSIGNED_STACK" Bundle.steD A s s.heap) (hN : vx_Zq Bundle.tN "SUPPRESSED_SENTINEL" Bundle.listD A s s.heap) (hS : va_S A s.heap H locs) (hsize : ls.size = c.maxLocals)
    (d0 : decode cc pc = .ok (.new ik, 3)) (d3 : decode cc (pc + 3) = .ok (.dup, 1)) (d4 : decode cc (pc + 4) = .ok (.ldc_w is, 3)) (d7 : decode cc (pc + 7) = .ok (.invokespecial ic, 3)) (d10 : decode cc (pc + 10) = .ok (.athrow, 1))
    (hout : ∀ x ∈ c.exceptionTable.toList, covers x (pc + 10) = false)
    (hRframes : names.length + 3 < R.frames) (hRlocals : (rest.map fun v => v.category).sum + (13 * (names.length + 1) + 43) ≤ R.locals) (hRcells : cells + 1 ≤ R.cells) (hRslots : slots + 6 ≤ R.slots) (hlocks : meth.locks = false)
    (hx : ∀ t : State, s.vm.Alike t.vm → H.size ≤ t.heap.size → (∀ q : Nat, q < H.size → t.heap[q]? = H[q]?) → XC cls s t)
    (hf : ∀ z ∈ locs, free z.base) (hc : cells + 1 ≤ mc) (hs : slots + 6 ≤ ms) :
    W p l e R s m args below meth c H locs cells slots (vx_MQ below Qc XC args s mc ms free) (F0 m pc ls rest) := by
  intro T hT X
  have htr : e.platform.stackTraces = false := (show e.platform.stackTraces = l.stackTraces by rw [X.admits.platform]).trans hl
  have Y := vx_rebase X (R' := { frames := R.frames, locals := R.locals, cells := 1, slots := 6 }) (Nat.le_refl _) (Nat.le_refl _) hRcells hRslots
  obtain ⟨s', hA⟩ : ∃ z, z = (T.setVm s.vm).setFrames (.invoking m args :: below) := ⟨_, rfl⟩
  rw [← hA] at Y
  have hvm : s'.vm = s.vm := by rw [hA]; rfl
  have hhp : s'.heap = H := by rw [hA]; exact hT
  have hW0 : s.WarmedH s'.vm := by rw [hvm]; exact State.WarmedH.refl s
  have hat' : ∀ w ∈ vx_atS own ic cls names, w.before args s' = true := fun w hw => vx_ot_at hW0 hvm.symm (hgood w (List.mem_cons_of_mem _ (List.mem_cons_of_mem _ hw))) (hat w hw)
  have hk' : (Cond.classLink own ik cls).before args s' = true := vx_ot_at hW0 hvm.symm (hgood _ List.mem_cons_self) hk
  have hini' : (Cond.initialized cls).before args s' = true := vx_ot_at hW0 hvm.symm (hgood _ (List.mem_cons_of_mem _ List.mem_cons_self)) hini
  have hU' : vx_Zq Bundle.tN "UNASSIGNED_STACK" Bundle.steD A s' s'.heap := by rw [hhp]; exact vx_Zq.moved hW0.alike (hU.kept hS.2.1)
  have hN' : vx_Zq Bundle.tN "SUPPRESSED_SENTINEL" Bundle.listD A s' s'.heap := by rw [hhp]; exact vx_Zq.moved hW0.alike (hN.kept hS.2.1)
  have h : ∀ w ∈ Bundle.ownAtoms own ic cls names, w.before args s' = true := vx_own hat' (vx_isRefq hU'.1) (vx_isRefq hN'.1) hU'.2.word hN'.2.word
  have hown' : s'.vm.findClass own = some m.cls := by rw [hvm]; exact hown
  have hins : (Cond.instantiable cls 6).before args s' = true := h _ (by simp [Bundle.ownAtoms])
  obtain ⟨vm₁, cX, kX, hfX, hkX, -, -, X₁, st1⟩ := Y.newCold hexec (own := own) (C := cls) (index := ik) (n := 6) hown' hk' hins hini'
    (g := F0 m pc ls rest) rfl (by rw [hb]; exact d0) (Nat.le_refl _) (Nat.le_refl _)
  generalize hT1 : (T.setVm vm₁).pushCell { cls := cX, slots := kX.instanceTypes.map defaultValue, vm := .none } = T1 at X₁ st1
  have hcat : (Value.ref T.heap.size).category = 1 := rfl
  have hcellA : T1.heap[T.heap.size]? = some (freshCell cX kX) := by rw [← hT1]; exact State.heap_pushCell_size _ _
  have d3' : decode c.code (pc + 3) = .ok (.dup, 1) := by rw [hb]; exact d3
  have d4' : decode c.code (pc + 4) = .ok (.ldc_w is, 3) := by rw [hb]; exact d4
  have hstr' : vk_R own is text sa s' := vk_R.warm hW0 hstr
  obtain ⟨U, hsteps, hrun, hend, hW, hsame, ce, hce, hO⟩ := X₁.ctorThrowS hexec htr (own := own) (cls := cls) (names := names) (ic := ic) hown' hcls hnames h (fun x hx => nomatch hx) hfX hkX hcellA (by rw [hhp, hT]; exact Nat.le_refl _) (msg := .ref sa) rfl
    (g := { method := m, pc := pc + 7, locals := ls, stack := .ref sa :: .ref T.heap.size :: .ref T.heap.size :: rest, locked := none }) rfl hsize rfl rfl (rest := rest) rfl
    (by rw [hb]; exact d7) (by rw [hb]; exact d10) hout hRframes (by simp only [List.map_cons, List.sum_cons, hcat]; omega) hlocks
  obtain ⟨f1, f2⟩ := vx_frame hsame
  rw [hhp] at f1 f2
  have hWs : s.WarmedH U.vm := State.WarmedH.trans hW0 hW
  have hcl : s.vm.findClass cls = some ce.cls := by
    have h9 := hO.cls
    rw [hvm] at h9
    exact h9
  have hall : s.sameButNew ({ U with vm := s.vm } : State) locs mc ms := by
    subst hA
    obtain ⟨e1, e2⟩ := hsame
    rw [State.setFrames_setFrames] at e1
    have h2 : (T.setVm s.vm).sameButNew ({ U with vm := s.vm } : State) [] (0 + 1) (0 + 6) := ⟨e1, e2⟩
    have h3 := X.same.trans h2
    rw [List.append_nil] at h3
    exact h3.mono hc hs
  refine ⟨U, ?_, .threw T.heap.size, hrun, hend, Or.inr ⟨T.heap.size, rfl, cls, ce, locs, hx U hWs.alike f1 (fun q hq => f2 q hq (fun z hz => nomatch hz)), hce, hO.vm, hcl, hWs, hall, hf⟩⟩
  refine st1 _ ?_
  show Steps p.tables e below (T1.setTop { method := m, pc := pc + 3, locals := ls, stack := .ref T.heap.size :: rest, locked := none }) _
  jvm_step X₁.here [X₁.here.top, hexec, d3', Value.category]
  exact X₁.ldcStringW hexec (own := own) (text := text) (index := is) (a := sa) hown' hstr'.1 hstr'.2
    (g := { method := m, pc := pc + 4, locals := ls, stack := .ref T.heap.size :: .ref T.heap.size :: rest, locked := none }) rfl d4' _ hsteps
end Ends
section Bodies
variable {l : Launch}
theorem vx_ofW {y : MethodName} {ws ws' : List Cond} {rm : Room} {Pc : Array Value → State → Prop} {Qc : Array Value → State → Outcome → State → Prop} {XC : String → State → State → Prop} {mc ms : Nat} {free : Addr → Prop} {cc : ByteArray} {maxL : Nat} {ret : Option FieldType}
    (hy : plainName y.cls = true) (hw : ws = Cond.code y cc maxL ret :: ws')
    (body : ∀ p e s m args below meth c s₁, BodyLoose p l y (headSpec ws rm) cc maxL ret e s m args below meth c s₁ → c.maxLocals = maxL → (∀ x ∈ c.exceptionTable.toList, False) → Pc args s →
      W p l e (headSpec ws rm).room s m args below meth c s.heap [] 0 0 (vx_MQ below Qc XC args s mc ms free) (entryFrame m args maxL)) : vx_Met l y ws rm Pc Qc XC mc ms free := by
  refine MetFree.of_bodyS (code := cc) (maxLocals := maxL) (ret := ret) hy ?_ ?_
  · intro args s m h hn
    obtain ⟨meth, c, h1, h2, h3, h4, h5, h6, -, -⟩ := Cond.code_spec hn (atoms_spec (ws := ws) h _ (by rw [hw]; exact List.mem_cons_self))
    exact ⟨meth, c, h1, h2, h3, h4, h5, h6⟩
  · intro p e s m args below meth c s₁ B hml hP _
    have hh0 : s₁.heap = s.heap := by rw [B.state]; rfl
    have ht : ∀ x ∈ c.exceptionTable.toList, False := by
      obtain ⟨meth9, c9, h1, h2, -, -, -, -, h7, -⟩ := Cond.code_spec B.named (atoms_spec (ws := ws) B.pre _ (by rw [hw]; exact List.mem_cons_self))
      cases Option.some.inj (h1.symm.trans B.method)
      cases Option.some.inj (h2.symm.trans (Stand.of_body B).code)
      intro x hx
      rw [Array.isEmpty_iff.mp h7] at hx
      cases hx
    obtain ⟨t, a1, o, b1, b2, b3⟩ := body p e s m args below meth c s₁ B hml ht hP s₁ hh0 (Stand.of_body B)
    exact ⟨t, o, a1, b1, b2, b3⟩
/-- the table of a body with handlers -/
theorem vx_table {p : Program} {x y : MethodName} {S : Spec} {cc bytes : ByteArray} {maxL maxL' : Nat} {ret ret' : Option FieldType} {e : Env} {s s₁ : State} {m : MethodId} {args : Array Value} {below : List Frame} {meth : Method} {c : Code} {hh : List (Nat × Nat × Nat × Nat)}
    (B : BodyLoose p l y S cc maxL ret e s m args below meth c s₁) (h : (Cond.codeWith y bytes maxL' ret' hh).before args s = true) : c.exceptionTable.toList = tableOf hh := by
  obtain ⟨m9, meth9, c9, hn9, h1, h2, -, -, h6, -⟩ := Cond.codeWith_spec h
  cases Option.some.inj (hn9.symm.trans B.named)
  cases Option.some.inj (h1.symm.trans B.method)
  cases Option.some.inj (h2.symm.trans (Stand.of_body B).code)
  rw [← h6, table_eq]
end Bodies
end VXA
/-! ===== END ===== -/
/-! ===== BEGIN a static call of a method with an exception table ===== -/
section VXS
variable {p : Program} {l : Launch} {e : Env} {R : Room} {s : State} {m : MethodId} {args : Array Value} {below : List Frame} {meth : Method} {c : Code} {T : State} {H : Heap} {locs : List Loc} {cells slots : Nat}
abbrev vx_CSW (R : Room) (s : State) (args : Array Value) (own : String) (index : Nat) (y : MethodName) (bytes : ByteArray) (maxL : Nat) (ret : Option FieldType) (hh : List (Nat × Nat × Nat × Nat)) (ws : List Cond) (rm : Room) (mc ms n : Nat) : Prop :=
  (rm.cells = mc ∧ rm.slots = ms ∧ rm.frames + 1 ≤ R.frames ∧ 8 + (maxL + 11) + rm.locals ≤ R.locals ∧ (∀ w ∈ ws, ∀ (a' : Array Value) (U : State), s.WarmedH U.vm → w.before a' U = true) ∧ Cond.codeWith y bytes maxL ret hh ∈ ws) ∧
  (Cond.codeWith y bytes maxL ret hh).before args s = true ∧ (Cond.initialized y.cls).before args s = true ∧ (y.cls ≠ "java/lang/invoke/MethodHandle" ∧ y.cls ≠ "java/lang/invoke/VarHandle") ∧
  (∀ sig, parseMethodDescriptor y.desc = some sig → n = sig.parameters.length) ∧ (Cond.methodLink own index y).before args s = true ∧ (Cond.static y).before args s = true
theorem vx_cwSW {own : String} {index maxL mc ms : Nat} {y : MethodName} {bytes : ByteArray} {ret : Option FieldType} {hh : List (Nat × Nat × Nat × Nat)} {Ts ws ws' : List Cond} {rm : Room} (n : Nat) (ht : ∀ w ∈ Ts, w.before args s = true) (hT : GoodIn Ts (va_wsS own index y ws)) (hw : ws = Cond.codeWith y bytes maxL ret hh :: ws') (hrc : rm.cells = mc) (hrs : rm.slots = ms)
    (hd : y.cls ≠ "java/lang/invoke/MethodHandle" ∧ y.cls ≠ "java/lang/invoke/VarHandle" ∧ (parseMethodDescriptor y.desc).map (fun d => d.parameters.length) = some n) (hR : rm.frames + 1 ≤ R.frames ∧ 8 + (maxL + 11) + rm.locals ≤ R.locals) :
    vx_CSW R s args own index y bytes maxL ret hh ws rm mc ms n := by
  have ok : ∀ w ∈ va_wsS own index y ws, w.before args s = true := fun w h => ht w (hT w h).1
  have hG : GoodIn Ts ws := fun w h => hT w (by unfold va_wsS; exact List.mem_append_right _ h)
  have hc : Cond.codeWith y bytes maxL ret hh ∈ ws := by rw [hw]; exact List.mem_cons_self
  refine ⟨⟨hrc, hrs, hR.1, hR.2, pay_in ht hG, hc⟩, ht _ (hG _ hc).1, ok _ (by simp [va_wsS]), ⟨hd.1, hd.2.1⟩, fun sig h => ?_, ok _ (by simp [va_wsS]), ok _ (by simp [va_wsS])⟩
  have h2 := hd.2.2
  rw [h] at h2
  exact (Option.some.inj h2).symm
theorem vx_callSW (X : Stand p l e R s m args below meth c T locs cells slots) (hexec : p.tables.exec = Jvm.exec) {own : String} {index : Nat} {y : MethodName} {bytes : ByteArray} {maxL : Nat} {ret : Option FieldType} {hh : List (Nat × Nat × Nat × Nat)}
    (hown : s.vm.findClass own = some m.cls) (hlink : (Cond.methodLink own index y).before args s = true) (hstat : (Cond.static y).before args s = true) (hinit : (Cond.initialized y.cls).before args s = true)
    (hcode : (Cond.codeWith y bytes maxL ret hh).before args s = true) (hy : y.cls ≠ "java/lang/invoke/MethodHandle" ∧ y.cls ≠ "java/lang/invoke/VarHandle")
    {W9 : Nat} {Pre : Pt → Array Value → Prop} {Post : Pt → Array Value → Option Value → Pt → Prop} (hK : Back l R p e below s args y 3 W9 Pre Post)
    {g : JFrame} (hg : g.method = m) (hsize : g.locals.size = c.maxLocals) {argsL rest : List Value} (hlen : ∀ sig, parseMethodDescriptor y.desc = some sig → argsL.length = sig.parameters.length)
    (hstack : g.stack = argsL.reverse ++ rest) (hW : 2 * g.monitorRoom + (rest.map fun v => v.category).sum ≤ W9) (hdg : decode c.code g.pc = .ok (.invokestatic index, 3))
    (hpre : ∀ vm₁, s.WarmedH vm₁ → Pre ⟨T.setVm vm₁, locs, cells, slots⟩ argsL.toArray) :
    ∃ (v : Option Value) (vm₁ : Vm) (B : Pt), s.WarmedH vm₁ ∧ Stand p l e R s m args below meth c B.U B.locs B.cells B.slots ∧ Post ⟨T.setVm vm₁, locs, cells, slots⟩ argsL.toArray v B ∧
      ∀ target, Steps p.tables e below (B.U.setTop { g with pc := g.pc + 3, stack := v.toList ++ rest }) target → Steps p.tables e below (T.setTop g) target := by
  obtain ⟨mk, methM, cM, hnamed, hmethM, -, -, -, -, -, -, hsigM⟩ := Cond.codeWith_spec hcode
  have hstatic : methM.isStatic = true := Cond.static_spec hnamed hmethM hstat
  obtain ⟨kP, hkP, -⟩ := className_of_methodNamed hnamed
  have hinitP : kP.init = .initialized := Cond.initialized_spec (findClass_of_methodNamed hnamed) hkP hinit
  obtain ⟨vm₁, X₁, hstep₁⟩ := X.invokestatic hexec hown hlink hnamed hmethM hstatic hkP hinitP hy (g := g) hg (argsL := argsL) (rest := rest) (hlen _ hsigM) hstack hdg
  obtain ⟨v, B, X', hpost, hsteps⟩ := hK m meth c ⟨T.setVm vm₁, locs, cells, slots⟩ { g with stack := rest } (.invokestatic index) mk argsL.toArray X₁ hg hsize hdg hW (X₁.named hnamed) (hpre vm₁ X₁.warmed)
  exact ⟨v, vm₁, B, X₁.warmed, X', hpost, fun target h => hstep₁ _ fun acts => by rw [doInvoke_state]; exact hsteps.trans h⟩
theorem vx_runSW {y : MethodName} {bytes cc : ByteArray} {maxL nL mc ms n index : Nat} {ret : Option FieldType} {hh : List (Nat × Nat × Nat × Nat)} {ws : List Cond} {rm : Room} {Pc : Array Value → State → Prop} {Qc : Array Value → State → Outcome → State → Prop} {free : Addr → Prop} {Ts : List Cond} {own : String} {As rest : List Value} {g : JFrame}
    (S : CallFix p m c cc nL s args Ts own) (hM : Met l y ws rm Pc Qc mc ms free) (cw : vx_CSW R s args own index y bytes maxL ret hh ws rm mc ms n) (hp : PreS s H Pc As)
    (hg : g.method = m) (hn : As.length = n) (hsize : g.locals.size = nL) (hstack : g.stack = As.reverse ++ rest) (hW : 2 * g.monitorRoom + (rest.map fun v => v.category).sum ≤ 8) (hdg : decode cc g.pc = .ok (.invokestatic index, 3)) (hf : cells + mc ≤ R.cells ∧ slots + ms ≤ R.slots) :
    va_Run p l e R s m args below meth c H locs cells slots mc ms g rest (Qc As.toArray) (free) := by
  obtain ⟨⟨hrc, hrs, hfr, hlo, hws, hcw⟩, hcode, hini, hy, hlen, hl, hstt⟩ := cw
  have hK : Back l R p e below s args y 3 8 (PreOf R mc ms Pc) (PostOf Qc mc ms free) := va_backW (hh := hh) (bytes := bytes) (maxL := maxL) (ret := ret) hM hp.1 hrc hrs hfr hlo hws hcw (fun a' U hW => word_at hW (Or.inl (by first | rfl | simp [Cond.onTables, Cond.keeps, Cond.steady])) hini)
  obtain ⟨hx, hb, hml, ho, -⟩ := S
  intro T hT X
  obtain ⟨v, vm₁, ⟨U', l2, c2, s2⟩, hW₁, X', ⟨g', mk, t, L, e1, e2, hq, h1, hL, h2, h3⟩, st⟩ := vx_callSW X hx (hh := hh) (bytes := bytes) (maxL := maxL) (ret := ret) ho hl hstt hini hcode hy hK hg (hsize.trans hml.symm) (argsL := As) (rest := rest) (fun sig h => hn.trans (hlen sig h)) hstack hW (by rw [hb]; exact hdg)
    (fun vm₁ hW₁ => ⟨hf.1, hf.2, hp.2 (T.setVm vm₁) hT hW₁⟩)
  dsimp only [Pt.U, Pt.locs, Pt.cells, Pt.slots] at X' e1 e2 h1 h2 h3 st
  subst h1; subst h2; subst h3
  exact ⟨v, (T.setVm vm₁).calling g' mk As.toArray, t, U', L, hT, X', hL, e1, e2, hq, st⟩
/-- not caught here, past rows that name other classes: it goes on to the caller -/
theorem vx_outP {p : Program} {l : Launch} {e : Env} {R : Room} {s : State} {m : MethodId} {args : Array Value} {below : List Frame} {meth : Method} {c : Code} {H : Heap} {locs : List Loc} {cells slots : Nat} {free : Addr → Prop} {ls : Array Slot} {rest : List Value} {Qc : Array Value → State → Outcome → State → Prop} {XC : String → State → State → Prop}
    {pc : Nat} {own E : String} {ce : Cell} {q : Addr} {mc ms : Nat} (hown : s.vm.findClass own = some m.cls) (hlocks : meth.locks = false)
    (hpass : ∀ z ∈ c.exceptionTable.toList, covers z pc = false ∨ (z.catchType ≠ 0 ∧ ∃ nm : String, (Cond.classLink own z.catchType nm).before args s = true ∧ va_Nc E nm s)) (hcell : H[q]? = some ce) (hv : ce.vm = .none) (hcl : s.vm.findClass E = some ce.cls)
    (hx : ∀ t : State, t.heap = H → s.vm.Alike t.vm → XC E s t) (hf : ∀ z ∈ locs, free z.base) (hc : cells ≤ mc) (hs : slots ≤ ms) :
    vx_W p l e R s m args below meth c H locs cells slots (vx_MQ below Qc XC args s mc ms free) (F0 m pc ls rest) q := by
  intro T hT X
  have hpl : e.platform.magicAccessors = ({} : Platform).magicAccessors := by rw [X.admits.platform]
  obtain ⟨vm', hW', X', st⟩ := X.outThrough hlocks q (g := F0 m pc ls rest) rfl rfl rfl (cell := ce) (by rw [hT]; exact hcell) (by rw [hv]; rfl)
    (by obtain ⟨k9, h9, -⟩ := Vm.findClass_spec hcl; exact ⟨k9, h9⟩) (fun z hz => by
      rcases hpass z hz with h | ⟨hz0, nm, hl1, hn1⟩
      · exact Or.inl h
      · obtain ⟨c6, hc6, hcl6⟩ := Cond.classLink_spec hown hl1 e.platform hpl
        obtain ⟨a8, b8, h1, h2, h3⟩ := hn1
        cases Option.some.inj (h1.symm.trans hcl)
        cases Option.some.inj (h2.symm.trans hc6)
        exact Or.inr ⟨hz0, _, hcl6, h3⟩)
  obtain ⟨g₀, hfr⟩ := X'.frames_eq
  have hcell9 : ((T.setVm vm').setFrames (.throwing q :: below)).heap[q]? = some ce := by
    show T.heap[q]? = some ce
    rw [hT]; exact hcell
  have hend : Ended ((T.setVm vm').setFrames (.throwing q :: below)) below (.threw q) := State.frames_setFrames _ (State.cur_lt_of_frames hfr)
  refine ⟨(T.setVm vm').setFrames (.throwing q :: below), ?_, .threw q, X'.here.running, hend, Or.inr ⟨q, rfl, E, ce, locs, hx _ hT (X'.ends _).1.alike, hcell9, hv, hcl, (X'.ends _).1, (X'.ends _).2.mono hc hs, hf⟩⟩
  rw [X.pushThrowing_eq]
  exact st
/-- a thing of a world lies in the heap -/
theorem vx_lt {D : va_G} {cl : List vw_C} {ws : va_W} {H1 : Heap} (h : va_P D cl ws H1) {k : Nat} {q : Nat × va_E} (hk : ws[k]? = some q) : q.1 < H1.size := (h k q hk).lt
end VXS
/-! ===== END ===== -/
/-! ===== BEGIN methods with a table of their own: called by a name, returning or throwing ===== -/
section VXH
/-! vx_backW, vx_callVX, vx_callSX, vx_callVW, vx_runVW, vx_runVX, vx_runSX, vx_ofWH follow the same proofs as their sisters above (Free/Laws.lean, Shelf42/LK1.lean); vx_outP calls Shelf42/NT130.lean (outThrough). -/
section
variable {l : Launch} {R : Room} {p : Program} {e : Env} {below : List Frame} {s : State} {sargs : Array Value} {y : MethodName} {len W9 : Nat}
theorem vx_backW {ws : List Cond} {rm : Room} {Pc : Array Value → State → Prop} {Qc : Array Value → State → Outcome → State → Prop} {XC : String → State → State → Prop} {mc ms : Nat} {free : Addr → Prop} {bytes : ByteArray} {maxL : Nat} {ret : Option FieldType} {hh : List (Nat × Nat × Nat × Nat)}
    (hM : vx_Met l y ws rm Pc Qc XC mc ms free) (hblind : FrameBlind Pc) (hrc : rm.cells = mc) (hrs : rm.slots = ms)
    (hframes : rm.frames + 1 ≤ R.frames) (hlocals : W9 + (maxL + 11) + rm.locals ≤ R.locals)
    (hws : ∀ w ∈ ws, ∀ a' U, s.WarmedH U.vm → w.before a' U = true) (hcode : Cond.codeWith y bytes maxL ret hh ∈ ws) (hinit : ∀ a' U, s.WarmedH U.vm → (Cond.initialized y.cls).before a' U = true) :
    vx_Back l R p e below s sargs y len W9 (PreOf R mc ms Pc) (PostOf Qc mc ms free) (vx_Post XC mc ms free) := by
  intro m meth c A g ig mk a X hg hsize hdg hW hn hp
  have h1 : (headSpec ws rm).pre.before a A.U = true := atoms_intro fun w hw => hws w hw _ _ X.warmed
  have h2 : (Cond.codeWith y bytes maxL ret hh).before a A.U = true := hws _ hcode _ _ X.warmed
  have h3 : (Cond.initialized y.cls).before a A.U = true := hinit _ _ X.warmed
  have h4 : A.cells + (headSpec ws rm).room.cells ≤ R.cells := by rw [show (headSpec ws rm).room.cells = mc from hrc]; exact hp.1
  have h5 : A.slots + (headSpec ws rm).room.slots ≤ R.slots := by rw [show (headSpec ws rm).room.slots = ms from hrs]; exact hp.2.1
  have hPc : Pc a (A.U.calling g mk a) := hblind _ _ _ _ hp.2.2
  obtain ⟨U, Ls, c0, s0⟩ := A
  dsimp only [Pt.U, Pt.locs, Pt.cells, Pt.slots] at h1 h2 h3 h4 h5 X hn hPc ⊢
  obtain ⟨m9, methY, cY, hn9, hmY, hcY, -, hlY, -⟩ := Cond.codeWith_spec h2
  cases Option.some.inj (hn9.symm.trans hn)
  obtain ⟨kY, hkY, -⟩ := className_of_methodNamed hn
  have hinitY : kY.init = .initialized := Cond.initialized_spec (findClass_of_methodNamed hn) hkY h3
  have h : At U g.method c below := by rw [hg]; exact X.here
  have hlocals9 : W9 + (maxL + 11) + (headSpec ws rm).room.locals ≤ R.locals := hlocals
  have happ : (headSpec ws rm).appliesLoose y e.platform (U.calling g mk a) = true :=
    Spec.appliesLoose_calling (g := g) h hdg hn hkY hinitY
      (X.room_calling (g := g) (R' := (headSpec ws rm).room) hsize hmY hcY hframes (by rw [hlY]; omega) h4 h5) h1
  obtain ⟨mid, hmid⟩ := h.above
  have hfr : (U.setTop g).frames = (.java g :: mid) ++ below := by rw [State.frames_setTop' g h.top, hmid]; rfl
  obtain ⟨o, s₂, hsteps, -, hend, hq⟩ := Steps.callFree hM p X.admits X.cas X.clock (acts := []) hfr happ hPc trivial
  have hq' : vx_Q Qc XC mc ms free a (U.calling g mk a) o s₂ := hq
  rw [State.frames_setTop' g h.top] at hend
  obtain ⟨g₀, hg0⟩ := Option.isSome_iff_exists.mp h.top
  obtain ⟨r, hr⟩ := State.topJava?_eq_some.mp hg0
  have hr' : (({ U with heap := s₂.heap, slotsUsed := s₂.slotsUsed } : State).setVm s₂.vm).frames = .java g₀ :: r := hr
  rcases hq' with ⟨hqc, L, hfe, hL⟩ | ⟨q, rfl, E, ce, L, hx, hce, hcv, hcl, hW₂, hsm, hL⟩
  · obtain ⟨⟨v, rfl⟩, hW₂, e2, q2, q3, q4, q5, q6⟩ := id hfe
    have e3 : s₂ = ({ (U.calling g mk a).setFrames s₂.frames with heap := s₂.heap, slotsUsed := s₂.slotsUsed } : State).setVm s₂.vm := by
      have : s₂ = ({ s₂ with vm := (U.calling g mk a).vm } : State).setVm s₂.vm := rfl
      rw [e2] at this
      exact this
    obtain ⟨c₂, i₂, len₂, hc₂, hd₂, hf₂⟩ := hend
    have hW' : U.WarmedH s₂.vm := hW₂
    have hcc : c₂ = c := by
      have h1 : s₂.code? g.method = U.code? g.method := by
        rw [State.code?_eq, State.code?_eq, hW'.alike.method?]
      exact Option.some.inj (hc₂.symm.trans (h1.trans h.code))
    subst hcc
    have hlen : len₂ = len := by rw [hdg] at hd₂; cases hd₂; rfl
    subst hlen
    have hs₂ : s₂ = (({ U with heap := s₂.heap, slotsUsed := s₂.slotsUsed } : State).setVm s₂.vm).setTop { g with pc := g.pc + len₂, stack := v.toList ++ g.stack } := by
      refine e3.trans ?_
      rw [hf₂, State.calling_eq h.top, State.setFrames_setFrames, State.setTop_of_frames _ hr', hr]
      rfl
    have hsame : U.sameButNew ({ U with heap := s₂.heap, slotsUsed := s₂.slotsUsed } : State) L mc ms := by
      refine ⟨?_, q2, q3, q4, q5, q6⟩
      obtain ⟨t, ht, -⟩ := State.frames_cons hr
      show ({ U with heap := s₂.heap, slotsUsed := s₂.slotsUsed } : State) = { U.setFrames U.frames with heap := s₂.heap, slotsUsed := s₂.slotsUsed }
      rw [State.setFrames_self ht]
    subst hg
    refine Or.inl ⟨v, ⟨(({ U with heap := s₂.heap, slotsUsed := s₂.slotsUsed } : State).setVm s₂.vm), Ls ++ L, c0 + mc, s0 + ms⟩,
      ⟨X.admits, X.cas, X.clock, X.frames, X.room, X.hears, X.method, X.code, (X.here.setHeapUsed s₂.heap s₂.slotsUsed).setVm hW'.alike, X.tail, State.WarmedH.trans X.warmed hW', X.limits, X.bytes, X.same.trans (hsame.setVm s.vm)⟩,
      ⟨g, mk, s₂, L, rfl, rfl, hqc, rfl, hL, rfl, rfl⟩, ?_⟩
    show Steps p.tables e below _ ((({ U with heap := s₂.heap, slotsUsed := s₂.slotsUsed } : State).setVm s₂.vm).setTop { g with pc := g.pc + len₂, stack := v.toList ++ g.stack })
    rw [← hs₂]
    exact hsteps
  · obtain ⟨e2, q2, q3, q4, q5, q6⟩ := id hsm
    have e3 : s₂ = ({ (U.calling g mk a).setFrames s₂.frames with heap := s₂.heap, slotsUsed := s₂.slotsUsed } : State).setVm s₂.vm := by
      have : s₂ = ({ s₂ with vm := (U.calling g mk a).vm } : State).setVm s₂.vm := rfl
      rw [e2] at this
      exact this
    have hf₂ : s₂.frames = .throwing q :: .java g :: U.frames.tail := hend
    have hW' : U.WarmedH s₂.vm := hW₂
    have hs₂ : s₂ = ((({ U with heap := s₂.heap, slotsUsed := s₂.slotsUsed } : State).setVm s₂.vm).setTop g).pushFrame (.throwing q) := by
      refine e3.trans ?_
      rw [hf₂, State.calling_eq h.top, State.setFrames_setFrames, State.pushFrame, State.frames_setTop _ hr', State.setTop_of_frames _ hr', State.setFrames_setFrames, hr]
      rfl
    have hsame : U.sameButNew ({ U with heap := s₂.heap, slotsUsed := s₂.slotsUsed } : State) L mc ms := by
      refine ⟨?_, q2, q3, q4, q5, q6⟩
      obtain ⟨t, ht, -⟩ := State.frames_cons hr
      show ({ U with heap := s₂.heap, slotsUsed := s₂.slotsUsed } : State) = { U.setFrames U.frames with heap := s₂.heap, slotsUsed := s₂.slotsUsed }
      rw [State.setFrames_self ht]
    subst hg
    refine Or.inr ⟨q, ⟨(({ U with heap := s₂.heap, slotsUsed := s₂.slotsUsed } : State).setVm s₂.vm), Ls ++ L, c0 + mc, s0 + ms⟩,
      ⟨X.admits, X.cas, X.clock, X.frames, X.room, X.hears, X.method, X.code, (X.here.setHeapUsed s₂.heap s₂.slotsUsed).setVm hW'.alike, X.tail, State.WarmedH.trans X.warmed hW', X.limits, X.bytes, X.same.trans (hsame.setVm s.vm)⟩,
      ⟨g, mk, s₂, L, E, ce, rfl, rfl, hx, hce, hcv, hcl, rfl, hL, rfl, rfl⟩, ?_⟩
    show Steps p.tables e below _ (((({ U with heap := s₂.heap, slotsUsed := s₂.slotsUsed } : State).setVm s₂.vm).setTop g).pushFrame (.throwing q))
    rw [← hs₂]
    exact hsteps
end
variable {p : Program} {l : Launch} {e : Env} {R : Room} {s : State} {m : MethodId} {args : Array Value} {below : List Frame} {meth : Method} {c : Code} {T : State} {H : Heap} {locs : List Loc} {cells slots : Nat}
theorem vx_callVX (X : Stand p l e R s m args below meth c T locs cells slots) (hexec : p.tables.exec = Jvm.exec) {own C : String} {index : Nat} {y : MethodName} {bytes : ByteArray} {maxL : Nat} {ret : Option FieldType} {hh : List (Nat × Nat × Nat × Nat)}
    (hown : s.vm.findClass own = some m.cls) (hlink : (Cond.methodLink own index y).before args s = true) (hinst : (Cond.instanceMethod y).before args s = true) (hsel : (Cond.selects C y y).before args s = true)
    (hcode : (Cond.codeWith y bytes maxL ret hh).before args s = true) (hy : y.cls ≠ "java/lang/invoke/MethodHandle" ∧ y.cls ≠ "java/lang/invoke/VarHandle")
    {W9 : Nat} {Pre : Pt → Array Value → Prop} {Post : Pt → Array Value → Option Value → Pt → Prop} {PostX : Pt → Array Value → Addr → Pt → Prop} (hK : vx_Back l R p e below s args y 3 W9 Pre Post PostX)
    {b : Addr} {cellB : Cell} (hcell : T.heap[b]? = some cellB) (hobj : cellB.vm.isStatics = false) (hcls : s.vm.findClass C = some cellB.cls)
    {g : JFrame} (hg : g.method = m) (hsize : g.locals.size = c.maxLocals) {argsL rest : List Value} (hlen : ∀ sig, parseMethodDescriptor y.desc = some sig → argsL.length = sig.parameters.length)
    (hstack : g.stack = argsL.reverse ++ .ref b :: rest) (hW : 2 * g.monitorRoom + (rest.map fun v => v.category).sum ≤ W9) (hdg : decode c.code g.pc = .ok (.invokevirtual index, 3))
    (hpre : ∀ vm₁, s.WarmedH vm₁ → Pre ⟨T.setVm vm₁, locs, cells, slots⟩ (Value.ref b :: argsL).toArray) :
    (∃ (v : Option Value) (vm₁ : Vm) (B : Pt), s.WarmedH vm₁ ∧ Stand p l e R s m args below meth c B.U B.locs B.cells B.slots ∧ Post ⟨T.setVm vm₁, locs, cells, slots⟩ (Value.ref b :: argsL).toArray v B ∧
      ∀ target, Steps p.tables e below (B.U.setTop { g with pc := g.pc + 3, stack := v.toList ++ rest }) target → Steps p.tables e below (T.setTop g) target) ∨
    (∃ (q : Addr) (vm₁ : Vm) (B : Pt), s.WarmedH vm₁ ∧ Stand p l e R s m args below meth c B.U B.locs B.cells B.slots ∧ PostX ⟨T.setVm vm₁, locs, cells, slots⟩ (Value.ref b :: argsL).toArray q B ∧
      Steps p.tables e below (T.setTop g) ((B.U.setTop { g with stack := rest }).pushFrame (.throwing q))) := by
  obtain ⟨mk, methM, hnamed, hmethM, hstM, habM⟩ := Cond.instanceMethod_spec hinst
  obtain ⟨m8, methM', cM, hn8, hmethM', -, -, -, -, -, -, hsigM⟩ := Cond.codeWith_spec hcode
  cases Option.some.inj (hn8.symm.trans hnamed)
  cases hmethM.symm.trans hmethM'
  obtain ⟨c2, r2, m2, q1, q2, q3, q4, kP, hkP, hkPi⟩ := Cond.selects_spec hsel
  cases hcls.symm.trans q1
  cases (State.methodFound?_of_named hnamed hy).symm.trans q2
  cases hnamed.symm.trans q3
  have hselP : selectMethod e.platform s.vm cellB.cls mk = .method mk := by rw [Launch.admits_selectMethod X.admits]; exact q4
  obtain ⟨vm₁, X₁, hstep₁⟩ := X.invokevirtual hexec hown hlink hnamed hmethM hstM hkP hkPi hy (a := b) (cell := cellB) hcell
    (fun z h => by rw [h] at hobj; cases hobj) hselP hmethM habM hkP hkPi (g := g) hg (argsL := argsL) (rest := rest) (hlen _ hsigM) hstack hdg
  rcases hK m meth c ⟨T.setVm vm₁, locs, cells, slots⟩ { g with stack := rest } (.invokevirtual index) mk (Value.ref b :: argsL).toArray X₁ hg hsize hdg hW (X₁.named hnamed) (hpre vm₁ X₁.warmed) with ⟨v, B, X', hpost, hsteps⟩ | ⟨q, B, X', hpost, hsteps⟩
  · exact Or.inl ⟨v, vm₁, B, X₁.warmed, X', hpost, fun target h => hstep₁ _ fun acts => by rw [doInvoke_state]; exact hsteps.trans h⟩
  · exact Or.inr ⟨q, vm₁, B, X₁.warmed, X', hpost, hstep₁ _ fun acts => by rw [doInvoke_state]; exact hsteps⟩
theorem vx_callSX (X : Stand p l e R s m args below meth c T locs cells slots) (hexec : p.tables.exec = Jvm.exec) {own : String} {index : Nat} {y : MethodName} {bytes : ByteArray} {maxL : Nat} {ret : Option FieldType} {hh : List (Nat × Nat × Nat × Nat)}
    (hown : s.vm.findClass own = some m.cls) (hlink : (Cond.methodLink own index y).before args s = true) (hstat : (Cond.static y).before args s = true) (hinit : (Cond.initialized y.cls).before args s = true)
    (hcode : (Cond.codeWith y bytes maxL ret hh).before args s = true) (hy : y.cls ≠ "java/lang/invoke/MethodHandle" ∧ y.cls ≠ "java/lang/invoke/VarHandle")
    {W9 : Nat} {Pre : Pt → Array Value → Prop} {Post : Pt → Array Value → Option Value → Pt → Prop} {PostX : Pt → Array Value → Addr → Pt → Prop} (hK : vx_Back l R p e below s args y 3 W9 Pre Post PostX)
    {g : JFrame} (hg : g.method = m) (hsize : g.locals.size = c.maxLocals) {argsL rest : List Value} (hlen : ∀ sig, parseMethodDescriptor y.desc = some sig → argsL.length = sig.parameters.length)
    (hstack : g.stack = argsL.reverse ++ rest) (hW : 2 * g.monitorRoom + (rest.map fun v => v.category).sum ≤ W9) (hdg : decode c.code g.pc = .ok (.invokestatic index, 3))
    (hpre : ∀ vm₁, s.WarmedH vm₁ → Pre ⟨T.setVm vm₁, locs, cells, slots⟩ argsL.toArray) :
    (∃ (v : Option Value) (vm₁ : Vm) (B : Pt), s.WarmedH vm₁ ∧ Stand p l e R s m args below meth c B.U B.locs B.cells B.slots ∧ Post ⟨T.setVm vm₁, locs, cells, slots⟩ argsL.toArray v B ∧
      ∀ target, Steps p.tables e below (B.U.setTop { g with pc := g.pc + 3, stack := v.toList ++ rest }) target → Steps p.tables e below (T.setTop g) target) ∨
    (∃ (q : Addr) (vm₁ : Vm) (B : Pt), s.WarmedH vm₁ ∧ Stand p l e R s m args below meth c B.U B.locs B.cells B.slots ∧ PostX ⟨T.setVm vm₁, locs, cells, slots⟩ argsL.toArray q B ∧
      Steps p.tables e below (T.setTop g) ((B.U.setTop { g with stack := rest }).pushFrame (.throwing q))) := by
  obtain ⟨mk, methM, cM, hnamed, hmethM, -, -, -, -, -, -, hsigM⟩ := Cond.codeWith_spec hcode
  have hstatic : methM.isStatic = true := Cond.static_spec hnamed hmethM hstat
  obtain ⟨kP, hkP, -⟩ := className_of_methodNamed hnamed
  have hinitP : kP.init = .initialized := Cond.initialized_spec (findClass_of_methodNamed hnamed) hkP hinit
  obtain ⟨vm₁, X₁, hstep₁⟩ := X.invokestatic hexec hown hlink hnamed hmethM hstatic hkP hinitP hy (g := g) hg (argsL := argsL) (rest := rest) (hlen _ hsigM) hstack hdg
  rcases hK m meth c ⟨T.setVm vm₁, locs, cells, slots⟩ { g with stack := rest } (.invokestatic index) mk argsL.toArray X₁ hg hsize hdg hW (X₁.named hnamed) (hpre vm₁ X₁.warmed) with ⟨v, B, X', hpost, hsteps⟩ | ⟨q, B, X', hpost, hsteps⟩
  · exact Or.inl ⟨v, vm₁, B, X₁.warmed, X', hpost, fun target h => hstep₁ _ fun acts => by rw [doInvoke_state]; exact hsteps.trans h⟩
  · exact Or.inr ⟨q, vm₁, B, X₁.warmed, X', hpost, hstep₁ _ fun acts => by rw [doInvoke_state]; exact hsteps⟩
theorem vx_callVW (X : Stand p l e R s m args below meth c T locs cells slots) (hexec : p.tables.exec = Jvm.exec) {own C : String} {index : Nat} {y : MethodName} {bytes : ByteArray} {maxL : Nat} {ret : Option FieldType} {hh : List (Nat × Nat × Nat × Nat)}
    (hown : s.vm.findClass own = some m.cls) (hlink : (Cond.methodLink own index y).before args s = true) (hinst : (Cond.instanceMethod y).before args s = true) (hsel : (Cond.selects C y y).before args s = true)
    (hcode : (Cond.codeWith y bytes maxL ret hh).before args s = true) (hy : y.cls ≠ "java/lang/invoke/MethodHandle" ∧ y.cls ≠ "java/lang/invoke/VarHandle")
    {W9 : Nat} {Pre : Pt → Array Value → Prop} {Post : Pt → Array Value → Option Value → Pt → Prop} (hK : Back l R p e below s args y 3 W9 Pre Post)
    {b : Addr} {cellB : Cell} (hcell : T.heap[b]? = some cellB) (hobj : cellB.vm.isStatics = false) (hcls : s.vm.findClass C = some cellB.cls)
    {g : JFrame} (hg : g.method = m) (hsize : g.locals.size = c.maxLocals) {argsL rest : List Value} (hlen : ∀ sig, parseMethodDescriptor y.desc = some sig → argsL.length = sig.parameters.length)
    (hstack : g.stack = argsL.reverse ++ .ref b :: rest) (hW : 2 * g.monitorRoom + (rest.map fun v => v.category).sum ≤ W9) (hdg : decode c.code g.pc = .ok (.invokevirtual index, 3))
    (hpre : ∀ vm₁, s.WarmedH vm₁ → Pre ⟨T.setVm vm₁, locs, cells, slots⟩ (Value.ref b :: argsL).toArray) :
    ∃ (v : Option Value) (vm₁ : Vm) (B : Pt), s.WarmedH vm₁ ∧ Stand p l e R s m args below meth c B.U B.locs B.cells B.slots ∧ Post ⟨T.setVm vm₁, locs, cells, slots⟩ (Value.ref b :: argsL).toArray v B ∧
      ∀ target, Steps p.tables e below (B.U.setTop { g with pc := g.pc + 3, stack := v.toList ++ rest }) target → Steps p.tables e below (T.setTop g) target := by
  obtain ⟨mk, methM, hnamed, hmethM, hstM, habM⟩ := Cond.instanceMethod_spec hinst
  obtain ⟨m8, methM', cM, hn8, hmethM', -, -, -, -, -, -, hsigM⟩ := Cond.codeWith_spec hcode
  cases Option.some.inj (hn8.symm.trans hnamed)
  cases hmethM.symm.trans hmethM'
  obtain ⟨c2, r2, m2, q1, q2, q3, q4, kP, hkP, hkPi⟩ := Cond.selects_spec hsel
  cases hcls.symm.trans q1
  cases (State.methodFound?_of_named hnamed hy).symm.trans q2
  cases hnamed.symm.trans q3
  have hselP : selectMethod e.platform s.vm cellB.cls mk = .method mk := by rw [Launch.admits_selectMethod X.admits]; exact q4
  obtain ⟨vm₁, X₁, hstep₁⟩ := X.invokevirtual hexec hown hlink hnamed hmethM hstM hkP hkPi hy (a := b) (cell := cellB) hcell
    (fun z h => by rw [h] at hobj; cases hobj) hselP hmethM habM hkP hkPi (g := g) hg (argsL := argsL) (rest := rest) (hlen _ hsigM) hstack hdg
  obtain ⟨v, B, X', hpost, hsteps⟩ := hK m meth c ⟨T.setVm vm₁, locs, cells, slots⟩ { g with stack := rest } (.invokevirtual index) mk (Value.ref b :: argsL).toArray X₁ hg hsize hdg hW (X₁.named hnamed) (hpre vm₁ X₁.warmed)
  exact ⟨v, vm₁, B, X₁.warmed, X', hpost, fun target h => hstep₁ _ fun acts => by rw [doInvoke_state]; exact hsteps.trans h⟩
abbrev vx_CVW (R : Room) (s : State) (args : Array Value) (own C : String) (index : Nat) (y : MethodName) (bytes : ByteArray) (maxL : Nat) (ret : Option FieldType) (hh : List (Nat × Nat × Nat × Nat)) (ws : List Cond) (rm : Room) (mc ms n : Nat) : Prop :=
  (rm.cells = mc ∧ rm.slots = ms ∧ rm.frames + 1 ≤ R.frames ∧ 8 + (maxL + 11) + rm.locals ≤ R.locals ∧ (∀ w ∈ ws, ∀ (a' : Array Value) (U : State), s.WarmedH U.vm → w.before a' U = true) ∧ Cond.codeWith y bytes maxL ret hh ∈ ws) ∧
  (Cond.codeWith y bytes maxL ret hh).before args s = true ∧ (Cond.initialized y.cls).before args s = true ∧ (y.cls ≠ "java/lang/invoke/MethodHandle" ∧ y.cls ≠ "java/lang/invoke/VarHandle") ∧
  (∀ sig, parseMethodDescriptor y.desc = some sig → n = sig.parameters.length) ∧ (Cond.methodLink own index y).before args s = true ∧ (Cond.instanceMethod y).before args s = true ∧ (Cond.selects C y y).before args s = true
theorem vx_cwVW {own C : String} {index maxL mc ms : Nat} {y : MethodName} {bytes : ByteArray} {ret : Option FieldType} {hh : List (Nat × Nat × Nat × Nat)} {Ts ws ws' : List Cond} {rm : Room} (n : Nat) (ht : ∀ w ∈ Ts, w.before args s = true) (hT : GoodIn Ts (wsV own index C y ws)) (hw : ws = Cond.codeWith y bytes maxL ret hh :: ws') (hrc : rm.cells = mc) (hrs : rm.slots = ms)
    (hd : y.cls = C ∧ y.cls ≠ "java/lang/invoke/MethodHandle" ∧ y.cls ≠ "java/lang/invoke/VarHandle" ∧ (parseMethodDescriptor y.desc).map (fun d => d.parameters.length) = some n) (hR : rm.frames + 1 ≤ R.frames ∧ 8 + (maxL + 11) + rm.locals ≤ R.locals) :
    vx_CVW R s args own C index y bytes maxL ret hh ws rm mc ms n := by
  obtain ⟨hC, hd⟩ := hd
  subst hC
  have ok : ∀ w ∈ wsV own index y.cls y ws, w.before args s = true := fun w h => ht w (hT w h).1
  have hG : GoodIn Ts ws := fun w h => hT w (by unfold wsV; exact List.mem_append_right _ h)
  have hc : Cond.codeWith y bytes maxL ret hh ∈ ws := by rw [hw]; exact List.mem_cons_self
  refine ⟨⟨hrc, hrs, hR.1, hR.2, pay_in ht hG, hc⟩, ht _ (hG _ hc).1, ok _ (by simp [wsV]), ⟨hd.1, hd.2.1⟩, fun sig h => ?_, ok _ (by simp [wsV]), ok _ (by simp [wsV]), ok _ (by simp [wsV])⟩
  have h2 := hd.2.2
  rw [h] at h2
  exact (Option.some.inj h2).symm
theorem vx_runVW {y : MethodName} {bytes cc : ByteArray} {maxL nL mc ms n index : Nat} {ret : Option FieldType} {hh : List (Nat × Nat × Nat × Nat)} {ws : List Cond} {rm : Room} {Pc : Array Value → State → Prop} {Qc : Array Value → State → Outcome → State → Prop} {free : Addr → Prop} {Ts : List Cond} {own C : String} {b : Addr} {As rest : List Value} {g : JFrame}
    (S : CallFix p m c cc nL s args Ts own) (hM : Met l y ws rm Pc Qc mc ms free) (cw : vx_CVW R s args own C index y bytes maxL ret hh ws rm mc ms n) (hp : PreV s H C b Pc As)
    (hg : g.method = m) (hn : As.length = n) (hsize : g.locals.size = nL) (hstack : g.stack = As.reverse ++ .ref b :: rest) (hW : 2 * g.monitorRoom + (rest.map fun v => v.category).sum ≤ 8) (hdg : decode cc g.pc = .ok (.invokevirtual index, 3)) (hf : cells + mc ≤ R.cells ∧ slots + ms ≤ R.slots) :
    va_Run p l e R s m args below meth c H locs cells slots mc ms g rest (Qc (Value.ref b :: As).toArray) free := by
  obtain ⟨⟨hrc, hrs, hfr, hlo, hws, hcw⟩, hcode, hini, hy, hlen, hl, hin, hse⟩ := cw
  have hK : Back l R p e below s args y 3 8 (PreOf R mc ms Pc) (PostOf Qc mc ms free) := va_backW (hh := hh) (bytes := bytes) (maxL := maxL) (ret := ret) hM hp.1 hrc hrs hfr hlo hws hcw (fun a' U hW => word_at hW (Or.inl (by first | rfl | simp [Cond.onTables, Cond.keeps, Cond.steady])) hini)
  obtain ⟨hx, hb, hml, ho, -⟩ := S
  obtain ⟨-, ⟨cellB, hcB, hoB, hclB⟩, hPc⟩ := hp
  intro T hT X
  obtain ⟨v, vm₁, ⟨U', l2, c2, s2⟩, hW₁, X', ⟨g', mk, t, L, e1, e2, hq, h1, hL, h2, h3⟩, st⟩ := vx_callVW X hx (C := C) (hh := hh) (bytes := bytes) (maxL := maxL) (ret := ret) ho hl hin hse hcode hy hK (by rw [hT]; exact hcB) hoB hclB hg (hsize.trans hml.symm) (argsL := As) (rest := rest) (fun sig h => hn.trans (hlen sig h)) hstack hW (by rw [hb]; exact hdg)
    (fun vm₁ hW₁ => ⟨hf.1, hf.2, hPc (T.setVm vm₁) hT hW₁⟩)
  dsimp only [Pt.U, Pt.locs, Pt.cells, Pt.slots] at X' e1 e2 h1 h2 h3 st
  subst h1; subst h2; subst h3
  exact ⟨v, (T.setVm vm₁).calling g' mk (Value.ref b :: As).toArray, t, U', L, hT, X', hL, e1, e2, hq, st⟩
section
variable {y : MethodName} {bytes cc : ByteArray} {maxL nL mc ms n index : Nat} {ret : Option FieldType} {ws : List Cond} {rm : Room} {Pc : Array Value → State → Prop} {Qc : Array Value → State → Outcome → State → Prop} {XC : String → State → State → Prop} {free : Addr → Prop} {Ts : List Cond} {own C : String} {b : Addr} {As rest : List Value} {g : JFrame}
theorem vx_runVX {hh : List (Nat × Nat × Nat × Nat)} (S : CallFix p m c cc nL s args Ts own) (hM : vx_Met l y ws rm Pc Qc XC mc ms free) (cw : vx_CVW R s args own C index y bytes maxL ret hh ws rm mc ms n) (hp : PreV s H C b Pc As)
    (hg : g.method = m) (hn : As.length = n) (hsize : g.locals.size = nL) (hstack : g.stack = As.reverse ++ .ref b :: rest) (hW : 2 * g.monitorRoom + (rest.map fun v => v.category).sum ≤ 8) (hdg : decode cc g.pc = .ok (.invokevirtual index, 3)) (hf : cells + mc ≤ R.cells ∧ slots + ms ≤ R.slots) :
    vx_Run p l e R s m args below meth c H locs cells slots mc ms g rest (Qc (Value.ref b :: As).toArray) XC free := by
  obtain ⟨⟨hrc, hrs, hfr, hlo, hws, hcw⟩, hcode, hini, hy, hlen, hl, hin, hse⟩ := cw
  have hK : vx_Back l R p e below s args y 3 8 (PreOf R mc ms Pc) (PostOf Qc mc ms free) (vx_Post XC mc ms free) := vx_backW (hh := hh) (bytes := bytes) (maxL := maxL) (ret := ret) hM hp.1 hrc hrs hfr hlo hws hcw (fun a' U hW => word_at hW (Or.inl (by first | rfl | simp [Cond.onTables, Cond.keeps, Cond.steady])) hini)
  obtain ⟨hx, hb, hml, ho, -⟩ := S
  obtain ⟨-, ⟨cellB, hcB, hoB, hclB⟩, hPc⟩ := hp
  intro T hT X
  rcases vx_callVX X hx (C := C) (hh := hh) (bytes := bytes) (maxL := maxL) (ret := ret) ho hl hin hse hcode hy hK (by rw [hT]; exact hcB) hoB hclB hg (hsize.trans hml.symm) (argsL := As) (rest := rest) (fun sig h => hn.trans (hlen sig h)) hstack hW (by rw [hb]; exact hdg)
    (fun vm₁ hW₁ => ⟨hf.1, hf.2, hPc (T.setVm vm₁) hT hW₁⟩) with ⟨v, vm₁, ⟨U', l2, c2, s2⟩, hW₁, X', ⟨g', mk, t, L, e1, e2, hq, h1, hL, h2, h3⟩, st⟩ | ⟨q, vm₁, ⟨U', l2, c2, s2⟩, hW₁, X', ⟨g', mk, t, L, E, ce, e1, e2, hq, hce, hcv, hcl, h1, hL, h2, h3⟩, st⟩
  · dsimp only [Pt.U, Pt.locs, Pt.cells, Pt.slots] at X' e1 e2 h1 h2 h3 st
    subst h1; subst h2; subst h3
    exact Or.inl ⟨v, (T.setVm vm₁).calling g' mk (Value.ref b :: As).toArray, t, U', L, hT, X', hL, e1, e2, hq, st⟩
  · dsimp only [Pt.U, Pt.locs, Pt.cells, Pt.slots] at X' e1 e2 h1 h2 h3 st hcl
    subst h1; subst h2; subst h3
    exact Or.inr ⟨q, (T.setVm vm₁).calling g' mk (Value.ref b :: As).toArray, t, U', L, E, ce, hT, X', hL, e1, e2, hq, hce, hcv, vx_cls hW₁ hcl, st⟩
theorem vx_runSX {hh : List (Nat × Nat × Nat × Nat)} (S : CallFix p m c cc nL s args Ts own) (hM : vx_Met l y ws rm Pc Qc XC mc ms free) (cw : vx_CSW R s args own index y bytes maxL ret hh ws rm mc ms n) (hp : PreS s H Pc As)
    (hg : g.method = m) (hn : As.length = n) (hsize : g.locals.size = nL) (hstack : g.stack = As.reverse ++ rest) (hW : 2 * g.monitorRoom + (rest.map fun v => v.category).sum ≤ 8) (hdg : decode cc g.pc = .ok (.invokestatic index, 3)) (hf : cells + mc ≤ R.cells ∧ slots + ms ≤ R.slots) :
    vx_Run p l e R s m args below meth c H locs cells slots mc ms g rest (Qc As.toArray) XC free := by
  obtain ⟨⟨hrc, hrs, hfr, hlo, hws, hcw⟩, hcode, hini, hy, hlen, hl, hstt⟩ := cw
  have hK : vx_Back l R p e below s args y 3 8 (PreOf R mc ms Pc) (PostOf Qc mc ms free) (vx_Post XC mc ms free) := vx_backW (hh := hh) (bytes := bytes) (maxL := maxL) (ret := ret) hM hp.1 hrc hrs hfr hlo hws hcw (fun a' U hW => word_at hW (Or.inl (by first | rfl | simp [Cond.onTables, Cond.keeps, Cond.steady])) hini)
  obtain ⟨hx, hb, hml, ho, -⟩ := S
  intro T hT X
  rcases vx_callSX X hx (hh := hh) (bytes := bytes) (maxL := maxL) (ret := ret) ho hl hstt hini hcode hy hK hg (hsize.trans hml.symm) (argsL := As) (rest := rest) (fun sig h => hn.trans (hlen sig h)) hstack hW (by rw [hb]; exact hdg)
    (fun vm₁ hW₁ => ⟨hf.1, hf.2, hp.2 (T.setVm vm₁) hT hW₁⟩) with ⟨v, vm₁, ⟨U', l2, c2, s2⟩, hW₁, X', ⟨g', mk, t, L, e1, e2, hq, h1, hL, h2, h3⟩, st⟩ | ⟨q, vm₁, ⟨U', l2, c2, s2⟩, hW₁, X', ⟨g', mk, t, L, E, ce, e1, e2, hq, hce, hcv, hcl, h1, hL, h2, h3⟩, st⟩
  · dsimp only [Pt.U, Pt.locs, Pt.cells, Pt.slots] at X' e1 e2 h1 h2 h3 st
    subst h1; subst h2; subst h3
    exact Or.inl ⟨v, (T.setVm vm₁).calling g' mk As.toArray, t, U', L, hT, X', hL, e1, e2, hq, st⟩
  · dsimp only [Pt.U, Pt.locs, Pt.cells, Pt.slots] at X' e1 e2 h1 h2 h3 st hcl
    subst h1; subst h2; subst h3
    exact Or.inr ⟨q, (T.setVm vm₁).calling g' mk As.toArray, t, U', L, E, ce, hT, X', hL, e1, e2, hq, hce, hcv, vx_cls hW₁ hcl, st⟩
end
end VXH
theorem vx_ofWH {l : Launch} {y : MethodName} {ws ws' : List Cond} {rm : Room} {Pc : Array Value → State → Prop} {Qc : Array Value → State → Outcome → State → Prop} {XC : String → State → State → Prop} {mc ms : Nat} {free : Addr → Prop} {cc : ByteArray} {maxL : Nat} {ret : Option FieldType} {hh : List (Nat × Nat × Nat × Nat)}
    (hy : plainName y.cls = true) (hw : ws = Cond.codeWith y cc maxL ret hh :: ws')
    (body : ∀ p e s m args below meth c s₁, BodyLoose p l y (headSpec ws rm) cc maxL ret e s m args below meth c s₁ → c.maxLocals = maxL → Pc args s →
      W p l e (headSpec ws rm).room s m args below meth c s.heap [] 0 0 (vx_MQ below Qc XC args s mc ms free) (entryFrame m args maxL)) : vx_Met l y ws rm Pc Qc XC mc ms free := by
  refine MetFree.of_bodyS (code := cc) (maxLocals := maxL) (ret := ret) hy ?_ ?_
  · intro args s m h hn
    obtain ⟨m9, meth, c, hn9, h1, h2, h3, h4, -, h5, h6, -⟩ := Cond.codeWith_spec (atoms_spec (ws := ws) h _ (by rw [hw]; exact List.mem_cons_self))
    cases hn.symm.trans hn9
    exact ⟨meth, c, h1, h2, h3, h4, h5, h6⟩
  · intro p e s m args below meth c s₁ B hml hP _
    have hh0 : s₁.heap = s.heap := by rw [B.state]; rfl
    obtain ⟨t, a1, o, b1, b2, b3⟩ := body p e s m args below meth c s₁ B hml hP s₁ hh0 (Stand.of_body B)
    exact ⟨t, o, a1, b1, b2, b3⟩
/-! ===== END ===== -/
end
section
def RX0 : String := "Warren$Mind"
def TX0 : u_T := fun k => match k with
  | 0 => ("Warren$Mind", "ways", "LWarren$Ways;", true)
  | _ => ("Warren$Mind", "worths", "[I", true)
def tyX0 : Nat → FieldType := fun k => match k with
  | 0 => .object "Warren$Ways"
  | _ => .array .int
abbrev wsX00 : List Cond := u_ws RX0 TX0 2
theorem nmX0 : ∀ a, a < 2 → ∀ b, b < 2 → a ≠ b → (TX0 a).2.1 ≠ (TX0 b).2.1 := by decide +kernel
theorem tyX0_ok : ∀ k, k < 2 → parseFieldDescriptor (TX0 k).2.2.1 = some (tyX0 k) := by decide +kernel
abbrev cX0_init : ByteArray := prog_2_method_1_code
def yX0_init : MethodName := ⟨RX0, "<init>", "()V"⟩
abbrev cX0_wayOf : ByteArray := prog_2_method_2_code
def yX0_wayOf : MethodName := ⟨RX0, "wayOf", "(LWarren$State;II)I"⟩
abbrev cX0_weigh : ByteArray := prog_2_method_3_code
def yX0_weigh : MethodName := ⟨RX0, "weigh", "(LWarren$State;I)V"⟩
abbrev cX0_worthOf : ByteArray := prog_2_method_4_code
def yX0_worthOf : MethodName := ⟨RX0, "worthOf", "(I)I"⟩
abbrev cX0_best : ByteArray := prog_2_method_5_code
def yX0_best : MethodName := ⟨RX0, "best", "()I"⟩
abbrev cX0_worthIfPossible : ByteArray := prog_2_method_6_code
def yX0_worthIfPossible : MethodName := ⟨RX0, "worthIfPossible", "(LWarren$State;III)I"⟩
abbrev cX0_worthOfGuard : ByteArray := prog_2_method_7_code
def yX0_worthOfGuard : MethodName := ⟨RX0, "worthOfGuard", "(LWarren$State;I)I"⟩
abbrev cX0_worthOfGo : ByteArray := prog_2_method_8_code
def yX0_worthOfGo : MethodName := ⟨RX0, "worthOfGo", "(LWarren$State;II)I"⟩
def RX1 : String := "Warren$Rules"
def TX1 : u_T := fun k => match k with
  | _ => ("", "", "", false)
def tyX1 : Nat → FieldType := fun k => match k with
  | _ => .int
abbrev wsX10 : List Cond := u_ws RX1 TX1 0
theorem nmX1 : ∀ a, a < 0 → ∀ b, b < 0 → a ≠ b → (TX1 a).2.1 ≠ (TX1 b).2.1 := by decide +kernel
theorem tyX1_ok : ∀ k, k < 0 → parseFieldDescriptor (TX1 k).2.2.1 = some (tyX1 k) := by decide +kernel
abbrev cX1_isPossible : ByteArray := prog_3_method_2_code
def yX1_isPossible : MethodName := ⟨RX1, "isPossible", "(LWarren$State;II)Z"⟩
abbrev cX1_canGo : ByteArray := prog_3_method_3_code
def yX1_canGo : MethodName := ⟨RX1, "canGo", "(LWarren$State;II)Z"⟩
abbrev cX1_cellTowards : ByteArray := prog_3_method_4_code
def yX1_cellTowards : MethodName := ⟨RX1, "cellTowards", "(LWarren$State;II)I"⟩
abbrev cX1_perform : ByteArray := prog_3_method_5_code
def yX1_perform : MethodName := ⟨RX1, "perform", "(LWarren$State;II)I"⟩
abbrev cX1_go : ByteArray := prog_3_method_6_code
def yX1_go : MethodName := ⟨RX1, "go", "(LWarren$State;II)I"⟩
abbrev cX1_conjure : ByteArray := prog_3_method_7_code
def yX1_conjure : MethodName := ⟨RX1, "conjure", "(LWarren$State;II)V"⟩
abbrev cX1_wearOff : ByteArray := prog_3_method_8_code
def yX1_wearOff : MethodName := ⟨RX1, "wearOff", "(LWarren$State;I)V"⟩
abbrev cX1_passTime : ByteArray := prog_3_method_9_code
def yX1_passTime : MethodName := ⟨RX1, "passTime", "(LWarren$State;IZ)V"⟩
def RX2 : String := "Warren$State"
def TX2 : u_T := fun k => match k with
  | 0 => ("Warren$State", "kinds", "[I", true)
  | 1 => ("Warren$State", "known", "[I", true)
  | 2 => ("Warren$State", "traits", "[I", true)
  | 3 => ("Warren$State", "stacks", "[I", true)
  | 4 => ("Warren$State", "turns", "[I", true)
  | 5 => ("Warren$State", "beings", "I", false)
  | 6 => ("Warren$State", "actions", "I", false)
  | _ => ("Warren$State", "hits", "I", false)
def tyX2 : Nat → FieldType := fun k => match k with
  | 0 => .array .int
  | 1 => .array .int
  | 2 => .array .int
  | 3 => .array .int
  | 4 => .array .int
  | 5 => .int
  | 6 => .int
  | _ => .int
abbrev wsX20 : List Cond := u_ws RX2 TX2 8
theorem nmX2 : ∀ a, a < 8 → ∀ b, b < 8 → a ≠ b → (TX2 a).2.1 ≠ (TX2 b).2.1 := by decide +kernel
theorem tyX2_ok : ∀ k, k < 8 → parseFieldDescriptor (TX2 k).2.2.1 = some (tyX2 k) := by decide +kernel
abbrev cX2_init : ByteArray := prog_4_method_1_code
def yX2_init : MethodName := ⟨RX2, "<init>", "()V"⟩
abbrev cX2_copyFrom : ByteArray := prog_4_method_2_code
def yX2_copyFrom : MethodName := ⟨RX2, "copyFrom", "(LWarren$State;)V"⟩
abbrev cX2_kindAt : ByteArray := prog_4_method_3_code
def yX2_kindAt : MethodName := ⟨RX2, "kindAt", "(I)I"⟩
abbrev cX2_putKind : ByteArray := prog_4_method_4_code
def yX2_putKind : MethodName := ⟨RX2, "putKind", "(II)V"⟩
abbrev cX2_digRoom : ByteArray := prog_4_method_5_code
def yX2_digRoom : MethodName := ⟨RX2, "digRoom", "(IIII)I"⟩
abbrev cX2_apart : ByteArray := prog_4_method_6_code
def yX2_apart : MethodName := ⟨RX2, "apart", "(II)I"⟩
abbrev cX2_nearest : ByteArray := prog_4_method_7_code
def yX2_nearest : MethodName := ⟨RX2, "nearest", "(II)I"⟩
abbrev cX2_isSeenFrom : ByteArray := prog_4_method_8_code
def yX2_isSeenFrom : MethodName := ⟨RX2, "isSeenFrom", "(II)Z"⟩
abbrev cX2_isKnown : ByteArray := prog_4_method_9_code
def yX2_isKnown : MethodName := ⟨RX2, "isKnown", "(II)Z"⟩
abbrev cX2_knownCells : ByteArray := prog_4_method_10_code
def yX2_knownCells : MethodName := ⟨RX2, "knownCells", "(I)I"⟩
abbrev cX2_look : ByteArray := prog_4_method_11_code
def yX2_look : MethodName := ⟨RX2, "look", "(I)V"⟩
abbrev cX2_isBeing : ByteArray := prog_4_method_12_code
def yX2_isBeing : MethodName := ⟨RX2, "isBeing", "(I)Z"⟩
abbrev cX2_hasRoom : ByteArray := prog_4_method_13_code
def yX2_hasRoom : MethodName := ⟨RX2, "hasRoom", "()Z"⟩
abbrev cX2_trait : ByteArray := prog_4_method_14_code
def yX2_trait : MethodName := ⟨RX2, "trait", "(II)I"⟩
abbrev cX2_putTrait : ByteArray := prog_4_method_15_code
def yX2_putTrait : MethodName := ⟨RX2, "putTrait", "(III)V"⟩
abbrev cX2_stackOf : ByteArray := prog_4_method_16_code
def yX2_stackOf : MethodName := ⟨RX2, "stackOf", "(II)I"⟩
abbrev cX2_turnsOf : ByteArray := prog_4_method_17_code
def yX2_turnsOf : MethodName := ⟨RX2, "turnsOf", "(II)I"⟩
abbrev cX2_putEffect : ByteArray := prog_4_method_18_code
def yX2_putEffect : MethodName := ⟨RX2, "putEffect", "(IIII)V"⟩
abbrev cX2_addEffect : ByteArray := prog_4_method_19_code
def yX2_addEffect : MethodName := ⟨RX2, "addEffect", "(IIII)V"⟩
abbrev cX2_addBeing : ByteArray := prog_4_method_20_code
def yX2_addBeing : MethodName := ⟨RX2, "addBeing", "(III)I"⟩
abbrev cX2_isAlive : ByteArray := prog_4_method_21_code
def yX2_isAlive : MethodName := ⟨RX2, "isAlive", "(I)Z"⟩
abbrev cX2_isAfraid : ByteArray := prog_4_method_22_code
def yX2_isAfraid : MethodName := ⟨RX2, "isAfraid", "(I)Z"⟩
abbrev cX2_whoIsOn : ByteArray := prog_4_method_23_code
def yX2_whoIsOn : MethodName := ⟨RX2, "whoIsOn", "(I)I"⟩
abbrev cX2_living : ByteArray := prog_4_method_24_code
def yX2_living : MethodName := ⟨RX2, "living", "(I)I"⟩
abbrev cX2_lifeOf : ByteArray := prog_4_method_25_code
def yX2_lifeOf : MethodName := ⟨RX2, "lifeOf", "(I)I"⟩
abbrev cX2_whoseTurn : ByteArray := prog_4_method_26_code
def yX2_whoseTurn : MethodName := ⟨RX2, "whoseTurn", "()I"⟩
abbrev cX2_isFoe : ByteArray := prog_4_method_27_code
def yX2_isFoe : MethodName := ⟨RX2, "isFoe", "(II)Z"⟩
abbrev cX2_targetOf : ByteArray := prog_4_method_28_code
def yX2_targetOf : MethodName := ⟨RX2, "targetOf", "(I)I"⟩
abbrev cX2_firstFoe : ByteArray := prog_4_method_29_code
def yX2_firstFoe : MethodName := ⟨RX2, "firstFoe", "(I)I"⟩
abbrev cX2_hasFoeBeside : ByteArray := prog_4_method_30_code
def yX2_hasFoeBeside : MethodName := ⟨RX2, "hasFoeBeside", "(I)Z"⟩
abbrev cX2_watchersOf : ByteArray := prog_4_method_31_code
def yX2_watchersOf : MethodName := ⟨RX2, "watchersOf", "(II)I"⟩
abbrev cX2_hitOf : ByteArray := prog_4_method_32_code
def yX2_hitOf : MethodName := ⟨RX2, "hitOf", "(II)I"⟩
abbrev cX2_takeLife : ByteArray := prog_4_method_33_code
def yX2_takeLife : MethodName := ⟨RX2, "takeLife", "(II)I"⟩
def RX3 : String := "Warren$Ways"
def TX3 : u_T := fun k => match k with
  | 0 => ("Warren$Ways", "lengths", "[I", true)
  | 1 => ("Warren$Ways", "queue", "[I", true)
  | _ => ("Warren$Ways", "queued", "I", false)
def tyX3 : Nat → FieldType := fun k => match k with
  | 0 => .array .int
  | 1 => .array .int
  | _ => .int
abbrev wsX30 : List Cond := u_ws RX3 TX3 3
theorem nmX3 : ∀ a, a < 3 → ∀ b, b < 3 → a ≠ b → (TX3 a).2.1 ≠ (TX3 b).2.1 := by decide +kernel
theorem tyX3_ok : ∀ k, k < 3 → parseFieldDescriptor (TX3 k).2.2.1 = some (tyX3 k) := by decide +kernel
abbrev cX3_init : ByteArray := prog_5_method_1_code
def yX3_init : MethodName := ⟨RX3, "<init>", "()V"⟩
abbrev cX3_measure : ByteArray := prog_5_method_2_code
def yX3_measure : MethodName := ⟨RX3, "measure", "(LWarren$State;II)V"⟩
abbrev cX3_from : ByteArray := prog_5_method_3_code
def yX3_from : MethodName := ⟨RX3, "from", "(I)I"⟩
abbrev cX3_spread : ByteArray := prog_5_method_4_code
def yX3_spread : MethodName := ⟨RX3, "spread", "(LWarren$State;)V"⟩
abbrev cX3_reachAround : ByteArray := prog_5_method_5_code
def yX3_reachAround : MethodName := ⟨RX3, "reachAround", "(LWarren$State;II)V"⟩
abbrev cX3_enqueue : ByteArray := prog_5_method_6_code
def yX3_enqueue : MethodName := ⟨RX3, "enqueue", "(I)V"⟩
abbrev cX3_lengthAt : ByteArray := prog_5_method_7_code
def yX3_lengthAt : MethodName := ⟨RX3, "lengthAt", "(I)I"⟩
abbrev cX3_putLength : ByteArray := prog_5_method_8_code
def yX3_putLength : MethodName := ⟨RX3, "putLength", "(II)V"⟩
def RX4 : String := "Warren"
def TX4 : u_T := fun k => match k with
  | 0 => ("Warren", "state", "LWarren$State;", false)
  | 1 => ("Warren", "trial", "LWarren$State;", true)
  | 2 => ("Warren", "saved", "Ljava/util/List;", true)
  | _ => ("Warren", "mind", "LWarren$Mind;", true)
def tyX4 : Nat → FieldType := fun k => match k with
  | 0 => .object "Warren$State"
  | 1 => .object "Warren$State"
  | 2 => .object "java/util/List"
  | _ => .object "Warren$Mind"
abbrev wsX40 : List Cond := u_ws RX4 TX4 4
theorem nmX4 : ∀ a, a < 4 → ∀ b, b < 4 → a ≠ b → (TX4 a).2.1 ≠ (TX4 b).2.1 := by decide +kernel
theorem tyX4_ok : ∀ k, k < 4 → parseFieldDescriptor (TX4 k).2.2.1 = some (tyX4 k) := by decide +kernel
abbrev cX4_init : ByteArray := prog_1_method_1_code
def yX4_init : MethodName := ⟨RX4, "<init>", "()V"⟩
abbrev cX4_dig : ByteArray := prog_1_method_2_code
def yX4_dig : MethodName := ⟨RX4, "dig", "(IIII)I"⟩
abbrev cX4_set : ByteArray := prog_1_method_3_code
def yX4_set : MethodName := ⟨RX4, "set", "(II)I"⟩
abbrev cX4_cell : ByteArray := prog_1_method_4_code
def yX4_cell : MethodName := ⟨RX4, "cell", "(I)I"⟩
abbrev cX4_on : ByteArray := prog_1_method_5_code
def yX4_on : MethodName := ⟨RX4, "on", "(I)I"⟩
abbrev cX4_sees : ByteArray := prog_1_method_6_code
def yX4_sees : MethodName := ⟨RX4, "sees", "(II)Z"⟩
abbrev cX4_knows : ByteArray := prog_1_method_7_code
def yX4_knows : MethodName := ⟨RX4, "knows", "(II)Z"⟩
abbrev cX4_come : ByteArray := prog_1_method_8_code
def yX4_come : MethodName := ⟨RX4, "come", "(III)I"⟩
abbrev cX4_become : ByteArray := prog_1_method_9_code
def yX4_become : MethodName := ⟨RX4, "become", "(IIII)I"⟩
abbrev cX4_lay : ByteArray := prog_1_method_10_code
def yX4_lay : MethodName := ⟨RX4, "lay", "(IIII)I"⟩
abbrev cX4_of : ByteArray := prog_1_method_11_code
def yX4_of : MethodName := ⟨RX4, "of", "(II)I"⟩
abbrev cX4_effect : ByteArray := prog_1_method_12_code
def yX4_effect : MethodName := ⟨RX4, "effect", "(IIZ)I"⟩
abbrev cX4_many : ByteArray := prog_1_method_13_code
def yX4_many : MethodName := ⟨RX4, "many", "(I)I"⟩
abbrev cX4_act : ByteArray := prog_1_method_14_code
def yX4_act : MethodName := ⟨RX4, "act", "(I)I"⟩
abbrev cX4_follow : ByteArray := prog_1_method_15_code
def yX4_follow : MethodName := ⟨RX4, "follow", "(I)I"⟩
abbrev cX4_target : ByteArray := prog_1_method_16_code
def yX4_target : MethodName := ⟨RX4, "target", "(I)I"⟩
abbrev cX4_way : ByteArray := prog_1_method_17_code
def yX4_way : MethodName := ⟨RX4, "way", "(II)I"⟩
abbrev cX4_worth : ByteArray := prog_1_method_18_code
def yX4_worth : MethodName := ⟨RX4, "worth", "(II)I"⟩
abbrev cX4_plan : ByteArray := prog_1_method_19_code
def yX4_plan : MethodName := ⟨RX4, "plan", "(I)I"⟩
abbrev cX4_save : ByteArray := prog_1_method_20_code
def yX4_save : MethodName := ⟨RX4, "save", "()I"⟩
abbrev cX4_load : ByteArray := prog_1_method_21_code
def yX4_load : MethodName := ⟨RX4, "load", "(I)I"⟩
abbrev cX4_hit : ByteArray := prog_1_method_22_code
def yX4_hit : MethodName := ⟨RX4, "hit", "(II)I"⟩
abbrev cX4_ahead : ByteArray := prog_1_method_23_code
def yX4_ahead : MethodName := ⟨RX4, "ahead", "(I)I"⟩
abbrev cX4_danger : ByteArray := prog_1_method_24_code
def yX4_danger : MethodName := ⟨RX4, "danger", "(II)I"⟩
abbrev cX4_meanLife : ByteArray := prog_1_method_25_code
def yX4_meanLife : MethodName := ⟨RX4, "meanLife", "()D"⟩
abbrev cX4_digest : ByteArray := prog_1_method_26_code
def yX4_digest : MethodName := ⟨RX4, "digest", "()J"⟩
abbrev cX4_isWithin : ByteArray := prog_1_method_27_code
def yX4_isWithin : MethodName := ⟨RX4, "isWithin", "(III)Z"⟩
abbrev cX4_isCell : ByteArray := prog_1_method_28_code
def yX4_isCell : MethodName := ⟨RX4, "isCell", "(I)Z"⟩
abbrev cX4_isSide : ByteArray := prog_1_method_29_code
def yX4_isSide : MethodName := ⟨RX4, "isSide", "(I)Z"⟩
abbrev cX4_isEdge : ByteArray := prog_1_method_30_code
def yX4_isEdge : MethodName := ⟨RX4, "isEdge", "(I)Z"⟩
abbrev cX4_stopsSight : ByteArray := prog_1_method_31_code
def yX4_stopsSight : MethodName := ⟨RX4, "stopsSight", "(I)Z"⟩
abbrev cX4_answerOf : ByteArray := prog_1_method_32_code
def yX4_answerOf : MethodName := ⟨RX4, "answerOf", "(II)I"⟩
abbrev cX4_countOf : ByteArray := prog_1_method_33_code
def yX4_countOf : MethodName := ⟨RX4, "countOf", "(I)I"⟩
abbrev cX4_play : ByteArray := prog_1_method_34_code
def yX4_play : MethodName := ⟨RX4, "play", "(I)I"⟩
abbrev cX4_digestOf : ByteArray := prog_1_method_35_code
def yX4_digestOf : MethodName := ⟨RX4, "digestOf", "(JI)J"⟩
def RX5 : String := "WarrenModel"
def TX5 : u_T := fun k => match k with
  | 0 => ("WarrenModel", "thrown", "I", false)
  | 1 => ("WarrenModel", "g", "[I", false)
  | 2 => ("WarrenModel", "saved", "[[I", true)
  | _ => ("WarrenModel", "games", "I", false)
def tyX5 : Nat → FieldType := fun k => match k with
  | 0 => .int
  | 1 => .array .int
  | 2 => .array (.array .int)
  | _ => .int
abbrev wsX50 : List Cond := u_ws RX5 TX5 4
theorem nmX5 : ∀ a, a < 4 → ∀ b, b < 4 → a ≠ b → (TX5 a).2.1 ≠ (TX5 b).2.1 := by decide +kernel
theorem tyX5_ok : ∀ k, k < 4 → parseFieldDescriptor (TX5 k).2.2.1 = some (tyX5 k) := by decide +kernel
abbrev cX5_init : ByteArray := prog_7_method_1_code
def yX5_init : MethodName := ⟨RX5, "<init>", "()V"⟩
abbrev cX5_thrown : ByteArray := prog_7_method_2_code
def yX5_thrown : MethodName := ⟨RX5, "thrown", "()I"⟩
abbrev cX5_no : ByteArray := prog_7_method_3_code
def yX5_no : MethodName := ⟨RX5, "no", "(I)I"⟩
abbrev cX5_isIn : ByteArray := prog_7_method_4_code
def yX5_isIn : MethodName := ⟨RX5, "isIn", "(III)Z"⟩
abbrev cX5_isCell : ByteArray := prog_7_method_5_code
def yX5_isCell : MethodName := ⟨RX5, "isCell", "(I)Z"⟩
abbrev cX5_isEdge : ByteArray := prog_7_method_6_code
def yX5_isEdge : MethodName := ⟨RX5, "isEdge", "(I)Z"⟩
abbrev cX5_isBeing : ByteArray := prog_7_method_7_code
def yX5_isBeing : MethodName := ⟨RX5, "isBeing", "(I)Z"⟩
abbrev cX5_its : ByteArray := prog_7_method_8_code
def yX5_its : MethodName := ⟨RX5, "its", "(II)I"⟩
abbrev cX5_put : ByteArray := prog_7_method_9_code
def yX5_put : MethodName := ⟨RX5, "put", "(III)V"⟩
abbrev cX5_isAlive : ByteArray := prog_7_method_10_code
def yX5_isAlive : MethodName := ⟨RX5, "isAlive", "(I)Z"⟩
abbrev cX5_dig : ByteArray := prog_7_method_11_code
def yX5_dig : MethodName := ⟨RX5, "dig", "(IIII)I"⟩
abbrev cX5_set : ByteArray := prog_7_method_12_code
def yX5_set : MethodName := ⟨RX5, "set", "(II)I"⟩
abbrev cX5_cell : ByteArray := prog_7_method_13_code
def yX5_cell : MethodName := ⟨RX5, "cell", "(I)I"⟩
abbrev cX5_onNow : ByteArray := prog_7_method_14_code
def yX5_onNow : MethodName := ⟨RX5, "onNow", "(I)I"⟩
abbrev cX5_on : ByteArray := prog_7_method_15_code
def yX5_on : MethodName := ⟨RX5, "on", "(I)I"⟩
abbrev cX5_apart : ByteArray := prog_7_method_16_code
def yX5_apart : MethodName := ⟨RX5, "apart", "(II)I"⟩
abbrev cX5_round : ByteArray := prog_7_method_17_code
def yX5_round : MethodName := ⟨RX5, "round", "(III)I"⟩
abbrev cX5_isClear : ByteArray := prog_7_method_18_code
def yX5_isClear : MethodName := ⟨RX5, "isClear", "(II)Z"⟩
abbrev cX5_seesNow : ByteArray := prog_7_method_19_code
def yX5_seesNow : MethodName := ⟨RX5, "seesNow", "(II)Z"⟩
abbrev cX5_sees : ByteArray := prog_7_method_20_code
def yX5_sees : MethodName := ⟨RX5, "sees", "(II)Z"⟩
abbrev cX5_knows : ByteArray := prog_7_method_21_code
def yX5_knows : MethodName := ⟨RX5, "knows", "(II)Z"⟩
abbrev cX5_look : ByteArray := prog_7_method_22_code
def yX5_look : MethodName := ⟨RX5, "look", "(I)V"⟩
abbrev cX5_turn : ByteArray := prog_7_method_23_code
def yX5_turn : MethodName := ⟨RX5, "turn", "()I"⟩
abbrev cX5_come : ByteArray := prog_7_method_24_code
def yX5_come : MethodName := ⟨RX5, "come", "(III)I"⟩
abbrev cX5_become : ByteArray := prog_7_method_25_code
def yX5_become : MethodName := ⟨RX5, "become", "(IIII)I"⟩
abbrev cX5_layNow : ByteArray := prog_7_method_26_code
def yX5_layNow : MethodName := ⟨RX5, "layNow", "(IIII)V"⟩
abbrev cX5_lay : ByteArray := prog_7_method_27_code
def yX5_lay : MethodName := ⟨RX5, "lay", "(IIII)I"⟩
abbrev cX5_isAfraid : ByteArray := prog_7_method_28_code
def yX5_isAfraid : MethodName := ⟨RX5, "isAfraid", "(I)Z"⟩
abbrev cX5_ofNow : ByteArray := prog_7_method_29_code
def yX5_ofNow : MethodName := ⟨RX5, "ofNow", "(II)I"⟩
abbrev cX5_of : ByteArray := prog_7_method_30_code
def yX5_of : MethodName := ⟨RX5, "of", "(II)I"⟩
abbrev cX5_effect : ByteArray := prog_7_method_31_code
def yX5_effect : MethodName := ⟨RX5, "effect", "(IIZ)I"⟩
abbrev cX5_alive : ByteArray := prog_7_method_32_code
def yX5_alive : MethodName := ⟨RX5, "alive", "(I)I"⟩
abbrev cX5_manyNow : ByteArray := prog_7_method_33_code
def yX5_manyNow : MethodName := ⟨RX5, "manyNow", "(I)I"⟩
abbrev cX5_many : ByteArray := prog_7_method_34_code
def yX5_many : MethodName := ⟨RX5, "many", "(I)I"⟩
abbrev cX5_targetNow : ByteArray := prog_7_method_35_code
def yX5_targetNow : MethodName := ⟨RX5, "targetNow", "(I)I"⟩
abbrev cX5_beside : ByteArray := prog_7_method_36_code
def yX5_beside : MethodName := ⟨RX5, "beside", "(II)I"⟩
abbrev cX5_isPossible : ByteArray := prog_7_method_37_code
def yX5_isPossible : MethodName := ⟨RX5, "isPossible", "(II)Z"⟩
abbrev cX5_hitNow : ByteArray := prog_7_method_38_code
def yX5_hitNow : MethodName := ⟨RX5, "hitNow", "(II)I"⟩
abbrev cX5_take : ByteArray := prog_7_method_39_code
def yX5_take : MethodName := ⟨RX5, "take", "(II)V"⟩
abbrev cX5_goNow : ByteArray := prog_7_method_40_code
def yX5_goNow : MethodName := ⟨RX5, "goNow", "(II)I"⟩
abbrev cX5_actNow : ByteArray := prog_7_method_41_code
def yX5_actNow : MethodName := ⟨RX5, "actNow", "(II)I"⟩
abbrev cX5_act : ByteArray := prog_7_method_42_code
def yX5_act : MethodName := ⟨RX5, "act", "(I)I"⟩
abbrev cX5_followNow : ByteArray := prog_7_method_43_code
def yX5_followNow : MethodName := ⟨RX5, "followNow", "(I)I"⟩
abbrev cX5_follow : ByteArray := prog_7_method_44_code
def yX5_follow : MethodName := ⟨RX5, "follow", "(I)I"⟩
abbrev cX5_target : ByteArray := prog_7_method_45_code
def yX5_target : MethodName := ⟨RX5, "target", "(I)I"⟩
abbrev cX5_costOf : ByteArray := prog_7_method_46_code
def yX5_costOf : MethodName := ⟨RX5, "costOf", "(I)I"⟩
abbrev cX5_ways : ByteArray := prog_7_method_47_code
def yX5_ways : MethodName := ⟨RX5, "ways", "(II)[I"⟩
abbrev cX5_way : ByteArray := prog_7_method_48_code
def yX5_way : MethodName := ⟨RX5, "way", "(II)I"⟩
abbrev cX5_prey : ByteArray := prog_7_method_49_code
def yX5_prey : MethodName := ⟨RX5, "prey", "(I)I"⟩
abbrev cX5_worthOfGo : ByteArray := prog_7_method_50_code
def yX5_worthOfGo : MethodName := ⟨RX5, "worthOfGo", "(II[I)I"⟩
abbrev cX5_isThreatened : ByteArray := prog_7_method_51_code
def yX5_isThreatened : MethodName := ⟨RX5, "isThreatened", "(I)Z"⟩
abbrev cX5_worthOf : ByteArray := prog_7_method_52_code
def yX5_worthOf : MethodName := ⟨RX5, "worthOf", "(II[I)I"⟩
abbrev cX5_worths : ByteArray := prog_7_method_53_code
def yX5_worths : MethodName := ⟨RX5, "worths", "(I)[I"⟩
abbrev cX5_worth : ByteArray := prog_7_method_54_code
def yX5_worth : MethodName := ⟨RX5, "worth", "(II)I"⟩
abbrev cX5_best : ByteArray := prog_7_method_55_code
def yX5_best : MethodName := ⟨RX5, "best", "([I)I"⟩
abbrev cX5_planNow : ByteArray := prog_7_method_56_code
def yX5_planNow : MethodName := ⟨RX5, "planNow", "(I)I"⟩
abbrev cX5_plan : ByteArray := prog_7_method_57_code
def yX5_plan : MethodName := ⟨RX5, "plan", "(I)I"⟩
abbrev cX5_copy : ByteArray := prog_7_method_58_code
def yX5_copy : MethodName := ⟨RX5, "copy", "([I)[I"⟩
abbrev cX5_save : ByteArray := prog_7_method_59_code
def yX5_save : MethodName := ⟨RX5, "save", "()I"⟩
abbrev cX5_load : ByteArray := prog_7_method_60_code
def yX5_load : MethodName := ⟨RX5, "load", "(I)I"⟩
abbrev cX5_hit : ByteArray := prog_7_method_61_code
def yX5_hit : MethodName := ⟨RX5, "hit", "(II)I"⟩
abbrev cX5_life : ByteArray := prog_7_method_62_code
def yX5_life : MethodName := ⟨RX5, "life", "(I)I"⟩
abbrev cX5_ahead : ByteArray := prog_7_method_63_code
def yX5_ahead : MethodName := ⟨RX5, "ahead", "(I)I"⟩
abbrev cX5_dangerNow : ByteArray := prog_7_method_64_code
def yX5_dangerNow : MethodName := ⟨RX5, "dangerNow", "(II)I"⟩
abbrev cX5_danger : ByteArray := prog_7_method_65_code
def yX5_danger : MethodName := ⟨RX5, "danger", "(II)I"⟩
abbrev cX5_meanLife : ByteArray := prog_7_method_66_code
def yX5_meanLife : MethodName := ⟨RX5, "meanLife", "()D"⟩
abbrev cX5_digest : ByteArray := prog_7_method_67_code
def yX5_digest : MethodName := ⟨RX5, "digest", "()J"⟩
def RJx145de : String := "java/io/Serializable"
def TJx145de : u_T := fun k => match k with
  | _ => ("", "", "", false)
def tyJx145de : Nat → FieldType := fun k => match k with
  | _ => .int
abbrev wsJx145de0 : List Cond := u_ws RJx145de TJx145de 0
theorem nmJx145de : ∀ a, a < 0 → ∀ b, b < 0 → a ≠ b → (TJx145de a).2.1 ≠ (TJx145de b).2.1 := by decide +kernel
theorem tyJx145de_ok : ∀ k, k < 0 → parseFieldDescriptor (TJx145de k).2.2.1 = some (tyJx145de k) := by decide +kernel
def RJx8e188 : String := "java/lang/Cloneable"
def TJx8e188 : u_T := fun k => match k with
  | _ => ("", "", "", false)
def tyJx8e188 : Nat → FieldType := fun k => match k with
  | _ => .int
abbrev wsJx8e1880 : List Cond := u_ws RJx8e188 TJx8e188 0
theorem nmJx8e188 : ∀ a, a < 0 → ∀ b, b < 0 → a ≠ b → (TJx8e188 a).2.1 ≠ (TJx8e188 b).2.1 := by decide +kernel
theorem tyJx8e188_ok : ∀ k, k < 0 → parseFieldDescriptor (TJx8e188 k).2.2.1 = some (tyJx8e188 k) := by decide +kernel
def RJxab1ab : String := "java/lang/Iterable"
def TJxab1ab : u_T := fun k => match k with
  | _ => ("", "", "", false)
def tyJxab1ab : Nat → FieldType := fun k => match k with
  | _ => .int
abbrev wsJxab1ab0 : List Cond := u_ws RJxab1ab TJxab1ab 0
theorem nmJxab1ab : ∀ a, a < 0 → ∀ b, b < 0 → a ≠ b → (TJxab1ab a).2.1 ≠ (TJxab1ab b).2.1 := by decide +kernel
theorem tyJxab1ab_ok : ∀ k, k < 0 → parseFieldDescriptor (TJxab1ab k).2.2.1 = some (tyJxab1ab k) := by decide +kernel
def RJ9 : String := "java/lang/Math"
def TJ9 : u_T := fun k => match k with
  | _ => ("", "", "", false)
def tyJ9 : Nat → FieldType := fun k => match k with
  | _ => .int
abbrev wsJ90 : List Cond := u_ws RJ9 TJ9 0
theorem nmJ9 : ∀ a, a < 0 → ∀ b, b < 0 → a ≠ b → (TJ9 a).2.1 ≠ (TJ9 b).2.1 := by decide +kernel
theorem tyJ9_ok : ∀ k, k < 0 → parseFieldDescriptor (TJ9 k).2.2.1 = some (tyJ9 k) := by decide +kernel
abbrev cJ9_floorDiv_7cf53 : ByteArray := prog_15_method_47_code
def yJ9_floorDiv_7cf53 : MethodName := ⟨RJ9, "floorDiv", "(II)I"⟩
abbrev cJ9_abs_0f7a4 : ByteArray := prog_15_method_59_code
def yJ9_abs_0f7a4 : MethodName := ⟨RJ9, "abs", "(I)I"⟩
abbrev cJ9_max_7cf53 : ByteArray := prog_15_method_65_code
def yJ9_max_7cf53 : MethodName := ⟨RJ9, "max", "(II)I"⟩
abbrev cJ9_min_7cf53 : ByteArray := prog_15_method_69_code
def yJ9_min_7cf53 : MethodName := ⟨RJ9, "min", "(II)I"⟩
def RJ0 : String := "java/lang/String"
def TJ0 : u_T := fun k => match k with
  | _ => ("", "", "", false)
def tyJ0 : Nat → FieldType := fun k => match k with
  | _ => .int
abbrev wsJ00 : List Cond := u_ws RJ0 TJ0 0
theorem nmJ0 : ∀ a, a < 0 → ∀ b, b < 0 → a ≠ b → (TJ0 a).2.1 ≠ (TJ0 b).2.1 := by decide +kernel
theorem tyJ0_ok : ∀ k, k < 0 → parseFieldDescriptor (TJ0 k).2.2.1 = some (tyJ0 k) := by decide +kernel
def RJ10 : String := "java/lang/System"
def TJ10 : u_T := fun k => match k with
  | _ => ("", "", "", false)
def tyJ10 : Nat → FieldType := fun k => match k with
  | _ => .int
abbrev wsJ100 : List Cond := u_ws RJ10 TJ10 0
theorem nmJ10 : ∀ a, a < 0 → ∀ b, b < 0 → a ≠ b → (TJ10 a).2.1 ≠ (TJ10 b).2.1 := by decide +kernel
theorem tyJ10_ok : ∀ k, k < 0 → parseFieldDescriptor (TJ10 k).2.2.1 = some (tyJ10 k) := by decide +kernel
def RJxa1e45 : String := "java/util/AbstractCollection"
def TJxa1e45 : u_T := fun k => match k with
  | _ => ("", "", "", false)
def tyJxa1e45 : Nat → FieldType := fun k => match k with
  | _ => .int
abbrev wsJxa1e450 : List Cond := u_ws RJxa1e45 TJxa1e45 0
theorem nmJxa1e45 : ∀ a, a < 0 → ∀ b, b < 0 → a ≠ b → (TJxa1e45 a).2.1 ≠ (TJxa1e45 b).2.1 := by decide +kernel
theorem tyJxa1e45_ok : ∀ k, k < 0 → parseFieldDescriptor (TJxa1e45 k).2.2.1 = some (tyJxa1e45 k) := by decide +kernel
abbrev cJxa1e45_init_da8c8 : ByteArray := prog_20_method_1_code
def yJxa1e45_init_da8c8 : MethodName := ⟨RJxa1e45, "<init>", "()V"⟩
def RJxc12de : String := "java/util/AbstractList"
def TJxc12de : u_T := fun k => match k with
  | _ => ("", "", "", false)
def tyJxc12de : Nat → FieldType := fun k => match k with
  | _ => .int
abbrev wsJxc12de0 : List Cond := u_ws RJxc12de TJxc12de 0
theorem nmJxc12de : ∀ a, a < 0 → ∀ b, b < 0 → a ≠ b → (TJxc12de a).2.1 ≠ (TJxc12de b).2.1 := by decide +kernel
theorem tyJxc12de_ok : ∀ k, k < 0 → parseFieldDescriptor (TJxc12de k).2.2.1 = some (tyJxc12de k) := by decide +kernel
abbrev cJxc12de_init_da8c8 : ByteArray := prog_21_method_1_code
def yJxc12de_init_da8c8 : MethodName := ⟨RJxc12de, "<init>", "()V"⟩
def RJx4a65c : String := "java/util/ArrayList"
def TJx4a65c : u_T := fun k => match k with
  | 0 => ("java/util/AbstractList", "modCount", "I", false)
  | 1 => ("java/util/ArrayList", "elementData", "[Ljava/lang/Object;", false)
  | _ => ("java/util/ArrayList", "size", "I", false)
def tyJx4a65c : Nat → FieldType := fun k => match k with
  | 0 => .int
  | 1 => .array (.object "java/lang/Object")
  | _ => .int
abbrev wsJx4a65c0 : List Cond := u_ws RJx4a65c TJx4a65c 3
theorem nmJx4a65c : ∀ a, a < 3 → ∀ b, b < 3 → a ≠ b → (TJx4a65c a).2.1 ≠ (TJx4a65c b).2.1 := by decide +kernel
theorem tyJx4a65c_ok : ∀ k, k < 3 → parseFieldDescriptor (TJx4a65c k).2.2.1 = some (tyJx4a65c k) := by decide +kernel
abbrev cJx4a65c_init_da8c8 : ByteArray := prog_22_method_2_code
def yJx4a65c_init_da8c8 : MethodName := ⟨RJx4a65c, "<init>", "()V"⟩
abbrev cJx4a65c_grow_92f84 : ByteArray := prog_22_method_6_code
def yJx4a65c_grow_92f84 : MethodName := ⟨RJx4a65c, "grow", "(I)[Ljava/lang/Object;"⟩
abbrev cJx4a65c_grow_d5877 : ByteArray := prog_22_method_7_code
def yJx4a65c_grow_d5877 : MethodName := ⟨RJx4a65c, "grow", "()[Ljava/lang/Object;"⟩
abbrev cJx4a65c_size_8abf5 : ByteArray := prog_22_method_8_code
def yJx4a65c_size_8abf5 : MethodName := ⟨RJx4a65c, "size", "()I"⟩
abbrev cJx4a65c_elementData_915e3 : ByteArray := prog_22_method_18_code
def yJx4a65c_elementData_915e3 : MethodName := ⟨RJx4a65c, "elementData", "(I)Ljava/lang/Object;"⟩
abbrev cJx4a65c_get_915e3 : ByteArray := prog_22_method_20_code
def yJx4a65c_get_915e3 : MethodName := ⟨RJx4a65c, "get", "(I)Ljava/lang/Object;"⟩
abbrev cJx4a65c_add_72be8 : ByteArray := prog_22_method_24_code
def yJx4a65c_add_72be8 : MethodName := ⟨RJx4a65c, "add", "(Ljava/lang/Object;[Ljava/lang/Object;I)V"⟩
abbrev cJx4a65c_add_9ea2d : ByteArray := prog_22_method_25_code
def yJx4a65c_add_9ea2d : MethodName := ⟨RJx4a65c, "add", "(Ljava/lang/Object;)Z"⟩
def RJ7 : String := "java/util/Arrays"
def TJ7 : u_T := fun k => match k with
  | _ => ("", "", "", false)
def tyJ7 : Nat → FieldType := fun k => match k with
  | _ => .int
abbrev wsJ70 : List Cond := u_ws RJ7 TJ7 0
theorem nmJ7 : ∀ a, a < 0 → ∀ b, b < 0 → a ≠ b → (TJ7 a).2.1 ≠ (TJ7 b).2.1 := by decide +kernel
theorem tyJ7_ok : ∀ k, k < 0 → parseFieldDescriptor (TJ7 k).2.2.1 = some (tyJ7 k) := by decide +kernel
abbrev cJ7_fill_53178 : ByteArray := prog_23_method_103_code
def yJ7_fill_53178 : MethodName := ⟨RJ7, "fill", "([II)V"⟩
abbrev cJ7_copyOf_1904c : ByteArray := prog_23_method_119_code
def yJ7_copyOf_1904c : MethodName := ⟨RJ7, "copyOf", "([Ljava/lang/Object;I)[Ljava/lang/Object;"⟩
abbrev cJ7_copyOf_6403c : ByteArray := prog_23_method_120_code
def yJ7_copyOf_6403c : MethodName := ⟨RJ7, "copyOf", "([Ljava/lang/Object;ILjava/lang/Class;)[Ljava/lang/Object;"⟩
def RJx5ef63 : String := "java/util/Collection"
def TJx5ef63 : u_T := fun k => match k with
  | _ => ("", "", "", false)
def tyJx5ef63 : Nat → FieldType := fun k => match k with
  | _ => .int
abbrev wsJx5ef630 : List Cond := u_ws RJx5ef63 TJx5ef63 0
theorem nmJx5ef63 : ∀ a, a < 0 → ∀ b, b < 0 → a ≠ b → (TJx5ef63 a).2.1 ≠ (TJx5ef63 b).2.1 := by decide +kernel
theorem tyJx5ef63_ok : ∀ k, k < 0 → parseFieldDescriptor (TJx5ef63 k).2.2.1 = some (tyJx5ef63 k) := by decide +kernel
def RJxbd725 : String := "java/util/List"
def TJxbd725 : u_T := fun k => match k with
  | _ => ("", "", "", false)
def tyJxbd725 : Nat → FieldType := fun k => match k with
  | _ => .int
abbrev wsJxbd7250 : List Cond := u_ws RJxbd725 TJxbd725 0
theorem nmJxbd725 : ∀ a, a < 0 → ∀ b, b < 0 → a ≠ b → (TJxbd725 a).2.1 ≠ (TJxbd725 b).2.1 := by decide +kernel
theorem tyJxbd725_ok : ∀ k, k < 0 → parseFieldDescriptor (TJxbd725 k).2.2.1 = some (tyJxbd725 k) := by decide +kernel
def RJ15 : String := "java/util/Objects"
def TJ15 : u_T := fun k => match k with
  | _ => ("", "", "", false)
def tyJ15 : Nat → FieldType := fun k => match k with
  | _ => .int
abbrev wsJ150 : List Cond := u_ws RJ15 TJ15 0
theorem nmJ15 : ∀ a, a < 0 → ∀ b, b < 0 → a ≠ b → (TJ15 a).2.1 ≠ (TJ15 b).2.1 := by decide +kernel
theorem tyJ15_ok : ∀ k, k < 0 → parseFieldDescriptor (TJ15 k).2.2.1 = some (tyJ15 k) := by decide +kernel
abbrev cJ15_checkIndex_7cf53 : ByteArray := prog_26_method_17_code
def yJ15_checkIndex_7cf53 : MethodName := ⟨RJ15, "checkIndex", "(II)I"⟩
def RJxf0a74 : String := "java/util/RandomAccess"
def TJxf0a74 : u_T := fun k => match k with
  | _ => ("", "", "", false)
def tyJxf0a74 : Nat → FieldType := fun k => match k with
  | _ => .int
abbrev wsJxf0a740 : List Cond := u_ws RJxf0a74 TJxf0a74 0
theorem nmJxf0a74 : ∀ a, a < 0 → ∀ b, b < 0 → a ≠ b → (TJxf0a74 a).2.1 ≠ (TJxf0a74 b).2.1 := by decide +kernel
theorem tyJxf0a74_ok : ∀ k, k < 0 → parseFieldDescriptor (TJxf0a74 k).2.2.1 = some (tyJxf0a74 k) := by decide +kernel
def RJxa66e6 : String := "java/util/SequencedCollection"
def TJxa66e6 : u_T := fun k => match k with
  | _ => ("", "", "", false)
def tyJxa66e6 : Nat → FieldType := fun k => match k with
  | _ => .int
abbrev wsJxa66e60 : List Cond := u_ws RJxa66e6 TJxa66e6 0
theorem nmJxa66e6 : ∀ a, a < 0 → ∀ b, b < 0 → a ≠ b → (TJxa66e6 a).2.1 ≠ (TJxa66e6 b).2.1 := by decide +kernel
theorem tyJxa66e6_ok : ∀ k, k < 0 → parseFieldDescriptor (TJxa66e6 k).2.2.1 = some (tyJxa66e6 k) := by decide +kernel
def RJ8 : String := "jdk/internal/util/ArraysSupport"
def TJ8 : u_T := fun k => match k with
  | _ => ("", "", "", false)
def tyJ8 : Nat → FieldType := fun k => match k with
  | _ => .int
abbrev wsJ80 : List Cond := u_ws RJ8 TJ8 0
theorem nmJ8 : ∀ a, a < 0 → ∀ b, b < 0 → a ≠ b → (TJ8 a).2.1 ≠ (TJ8 b).2.1 := by decide +kernel
theorem tyJ8_ok : ∀ k, k < 0 → parseFieldDescriptor (TJ8 k).2.2.1 = some (tyJ8 k) := by decide +kernel
abbrev cJ8_newLength_cabcc : ByteArray := prog_29_method_27_code
def yJ8_newLength_cabcc : MethodName := ⟨RJ8, "newLength", "(III)I"⟩
abbrev cJ8_hugeLength_7cf53 : ByteArray := prog_29_method_28_code
def yJ8_hugeLength_7cf53 : MethodName := ⟨RJ8, "hugeLength", "(II)I"⟩
def RJ3 : String := "jdk/internal/util/Preconditions"
def TJ3 : u_T := fun k => match k with
  | _ => ("", "", "", false)
def tyJ3 : Nat → FieldType := fun k => match k with
  | _ => .int
abbrev wsJ30 : List Cond := u_ws RJ3 TJ3 0
theorem nmJ3 : ∀ a, a < 0 → ∀ b, b < 0 → a ≠ b → (TJ3 a).2.1 ≠ (TJ3 b).2.1 := by decide +kernel
theorem tyJ3_ok : ∀ k, k < 0 → parseFieldDescriptor (TJ3 k).2.2.1 = some (tyJ3 k) := by decide +kernel
abbrev cJ3_checkIndex_8e157 : ByteArray := prog_30_method_11_code
def yJ3_checkIndex_8e157 : MethodName := ⟨RJ3, "checkIndex", "(IILjava/util/function/BiFunction;)I"⟩
def RL : String := "WarrenLaw"
abbrev cL_dig : ByteArray := method_3_code
def yL_dig : MethodName := ⟨RL, "dig", "(LWarren;IIII[J)I"⟩
abbrev cL_set : ByteArray := method_4_code
def yL_set : MethodName := ⟨RL, "set", "(LWarren;II[J)I"⟩
abbrev cL_cell : ByteArray := method_5_code
def yL_cell : MethodName := ⟨RL, "cell", "(LWarren;I[J)I"⟩
abbrev cL_on : ByteArray := method_6_code
def yL_on : MethodName := ⟨RL, "on", "(LWarren;I[J)I"⟩
abbrev cL_sees : ByteArray := method_7_code
def yL_sees : MethodName := ⟨RL, "sees", "(LWarren;II[J)I"⟩
abbrev cL_knows : ByteArray := method_8_code
def yL_knows : MethodName := ⟨RL, "knows", "(LWarren;II[J)I"⟩
abbrev cL_come : ByteArray := method_9_code
def yL_come : MethodName := ⟨RL, "come", "(LWarren;III[J)I"⟩
abbrev cL_become : ByteArray := method_10_code
def yL_become : MethodName := ⟨RL, "become", "(LWarren;IIII[J)I"⟩
abbrev cL_lay : ByteArray := method_11_code
def yL_lay : MethodName := ⟨RL, "lay", "(LWarren;IIII[J)I"⟩
abbrev cL_of : ByteArray := method_12_code
def yL_of : MethodName := ⟨RL, "of", "(LWarren;II[J)I"⟩
abbrev cL_effect : ByteArray := method_13_code
def yL_effect : MethodName := ⟨RL, "effect", "(LWarren;IIZ[J)I"⟩
abbrev cL_many : ByteArray := method_14_code
def yL_many : MethodName := ⟨RL, "many", "(LWarren;I[J)I"⟩
abbrev cL_act : ByteArray := method_15_code
def yL_act : MethodName := ⟨RL, "act", "(LWarren;I[J)I"⟩
abbrev cL_follow : ByteArray := method_16_code
def yL_follow : MethodName := ⟨RL, "follow", "(LWarren;I[J)I"⟩
abbrev cL_target : ByteArray := method_17_code
def yL_target : MethodName := ⟨RL, "target", "(LWarren;I[J)I"⟩
abbrev cL_way : ByteArray := method_18_code
def yL_way : MethodName := ⟨RL, "way", "(LWarren;II[J)I"⟩
abbrev cL_worth : ByteArray := method_19_code
def yL_worth : MethodName := ⟨RL, "worth", "(LWarren;II[J)I"⟩
abbrev cL_plan : ByteArray := method_20_code
def yL_plan : MethodName := ⟨RL, "plan", "(LWarren;I[J)I"⟩
abbrev cL_save : ByteArray := method_21_code
def yL_save : MethodName := ⟨RL, "save", "(LWarren;[J)I"⟩
abbrev cL_load : ByteArray := method_22_code
def yL_load : MethodName := ⟨RL, "load", "(LWarren;I[J)I"⟩
abbrev cL_hit : ByteArray := method_23_code
def yL_hit : MethodName := ⟨RL, "hit", "(LWarren;II[J)I"⟩
abbrev cL_ahead : ByteArray := method_24_code
def yL_ahead : MethodName := ⟨RL, "ahead", "(LWarren;I[J)I"⟩
abbrev cL_danger : ByteArray := method_25_code
def yL_danger : MethodName := ⟨RL, "danger", "(LWarren;II[J)I"⟩
abbrev cL_law : ByteArray := code
def yL_law : MethodName := ⟨RL, "law", "([I)Z"⟩
abbrev vwCl : List vw_C := [(RJx4a65c, TJx4a65c, 3), (RX0, TX0, 2), (RX2, TX2, 8), (RX3, TX3, 3), (RX4, TX4, 4), (RX5, TX5, 4)]
end
section
def wsX3_init : List Cond := .code yX3_init cX3_init 1 none :: ([.methodLink RX3 3 objectInit, .instanceMethod objectInit, .code objectInit ⟨#[0xb1]⟩ 1 none, .arrayClass .int, .fieldLink RX3 9 "Warren$Ways" "lengths" "[I", .fieldLink RX3 15 "Warren$Ways" "queue" "[I"] ++ wsX30)
def wsX0_init : List Cond := .code yX0_init cX0_init 1 none :: ([.methodLink RX0 3 objectInit, .instanceMethod objectInit, .code objectInit ⟨#[0xb1]⟩ 1 none, .classLink RX0 9 RX3, .instantiable RX3 3, .initialized RX3, .fieldLink RX0 12 "Warren$Mind" "ways" "LWarren$Ways;", .arrayClass .int, .fieldLink RX0 18 "Warren$Mind" "worths" "[I", .instanceMethod yX3_init, .code yX3_init cX3_init 1 none, .methodLink RX3 3 objectInit, .fieldLink RX3 9 "Warren$Ways" "lengths" "[I", .fieldLink RX3 15 "Warren$Ways" "queue" "[I"] ++ wsX30 ++ wsX00)
def wsX2_trait : List Cond := .code yX2_trait cX2_trait 4 (some .int) :: ([.fieldLink RX2 18 "Warren$State" "traits" "[I"] ++ wsX20)
def wsX2_isAlive : List Cond := .code yX2_isAlive cX2_isAlive 2 (some .boolean) :: ([.methodLink RX2 86 yX2_trait, .instanceMethod yX2_trait, .selects RX2 yX2_trait yX2_trait, .initialized RX2, .code yX2_trait cX2_trait 4 (some .int), .fieldLink RX2 18 "Warren$State" "traits" "[I"] ++ wsX20)
def wsJ7_fill_53178 : List Cond := .code yJ7_fill_53178 cJ7_fill_53178 4 none :: ([])
def wsX2_kindAt : List Cond := .code yX2_kindAt cX2_kindAt 2 (some .int) :: ([.fieldLink RX2 9 "Warren$State" "kinds" "[I"] ++ wsX20)
def wsX3_putLength : List Cond := .code yX3_putLength cX3_putLength 3 none :: ([.fieldLink RX3 9 "Warren$Ways" "lengths" "[I"] ++ wsX30)
def wsX3_enqueue : List Cond := .code yX3_enqueue cX3_enqueue 2 none :: ([.fieldLink RX3 24 "Warren$Ways" "queued" "I", .fieldLink RX3 15 "Warren$Ways" "queue" "[I"] ++ wsX30)
def wsX3_lengthAt : List Cond := .code yX3_lengthAt cX3_lengthAt 2 (some .int) :: ([.fieldLink RX3 9 "Warren$Ways" "lengths" "[I"] ++ wsX30)
def wsX3_reachAround : List Cond := .code yX3_reachAround cX3_reachAround 6 none :: ([.methodLink RX3 53 yX3_lengthAt, .instanceMethod yX3_lengthAt, .selects RX3 yX3_lengthAt yX3_lengthAt, .initialized RX3, .code yX3_lengthAt cX3_lengthAt 2 (some .int), .fieldLink RX3 9 "Warren$Ways" "lengths" "[I", .methodLink RX3 28 yX2_kindAt, .instanceMethod yX2_kindAt, .selects RX2 yX2_kindAt yX2_kindAt, .initialized RX2, .code yX2_kindAt cX2_kindAt 2 (some .int), .fieldLink RX2 9 "Warren$State" "kinds" "[I", .methodLink RX3 41 yX3_putLength, .instanceMethod yX3_putLength, .selects RX3 yX3_putLength yX3_putLength, .code yX3_putLength cX3_putLength 3 none, .methodLink RX3 45 yX3_enqueue, .instanceMethod yX3_enqueue, .selects RX3 yX3_enqueue yX3_enqueue, .code yX3_enqueue cX3_enqueue 2 none, .fieldLink RX3 24 "Warren$Ways" "queued" "I", .fieldLink RX3 15 "Warren$Ways" "queue" "[I"] ++ wsX30 ++ wsX20)
def wsX3_spread_r1 : List Cond := [Cond.fieldLink RX3 24 "Warren$Ways" "queued" "I", Cond.fieldLink RX3 15 "Warren$Ways" "queue" "[I", Cond.methodLink RX3 28 yX2_kindAt, Cond.instanceMethod yX2_kindAt, Cond.selects RX2 yX2_kindAt yX2_kindAt, Cond.initialized RX2, Cond.code yX2_kindAt cX2_kindAt 2 (some .int), Cond.fieldLink RX2 9 "Warren$State" "kinds" "[I", Cond.methodLink RX3 45 yX3_enqueue, Cond.instanceMethod yX3_enqueue, Cond.selects RX3 yX3_enqueue yX3_enqueue, Cond.initialized RX3, Cond.code yX3_enqueue cX3_enqueue 2 none, Cond.methodLink RX3 53 yX3_lengthAt, Cond.instanceMethod yX3_lengthAt, Cond.selects RX3 yX3_lengthAt yX3_lengthAt, Cond.code yX3_lengthAt cX3_lengthAt 2 (some .int), Cond.fieldLink RX3 9 "Warren$Ways" "lengths" "[I", Cond.methodLink RX3 61 yX3_reachAround, Cond.instanceMethod yX3_reachAround, Cond.selects RX3 yX3_reachAround yX3_reachAround, Cond.code yX3_reachAround cX3_reachAround 6 none, Cond.methodLink RX3 41 yX3_putLength, Cond.instanceMethod yX3_putLength]
def wsX3_spread_r2 : List Cond := [Cond.selects RX3 yX3_putLength yX3_putLength, Cond.code yX3_putLength cX3_putLength 3 none]
def wsX3_spread : List Cond := .code yX3_spread cX3_spread 6 none :: ((wsX3_spread_r1 ++ wsX3_spread_r2) ++ wsX30 ++ wsX20)
def wsX3_measure_r1 : List Cond := [Cond.fieldLink RX3 9 "Warren$Ways" "lengths" "[I", Cond.fieldLink RX3 24 "Warren$Ways" "queued" "I", Cond.methodLink RX3 18 yJ7_fill_53178, Cond.static yJ7_fill_53178, Cond.initialized RJ7, Cond.code yJ7_fill_53178 cJ7_fill_53178 4 none, Cond.methodLink RX3 28 yX2_kindAt, Cond.instanceMethod yX2_kindAt, Cond.selects RX2 yX2_kindAt yX2_kindAt, Cond.initialized RX2, Cond.code yX2_kindAt cX2_kindAt 2 (some .int), Cond.fieldLink RX2 9 "Warren$State" "kinds" "[I", Cond.methodLink RX3 37 yX2_trait, Cond.instanceMethod yX2_trait, Cond.selects RX2 yX2_trait yX2_trait, Cond.code yX2_trait cX2_trait 4 (some .int), Cond.fieldLink RX2 18 "Warren$State" "traits" "[I", Cond.methodLink RX3 41 yX3_putLength, Cond.instanceMethod yX3_putLength, Cond.selects RX3 yX3_putLength yX3_putLength, Cond.initialized RX3, Cond.code yX3_putLength cX3_putLength 3 none, Cond.methodLink RX3 45 yX3_enqueue, Cond.instanceMethod yX3_enqueue]
def wsX3_measure_r2 : List Cond := [Cond.selects RX3 yX3_enqueue yX3_enqueue, Cond.code yX3_enqueue cX3_enqueue 2 none, Cond.fieldLink RX3 15 "Warren$Ways" "queue" "[I", Cond.methodLink RX3 49 yX3_spread, Cond.instanceMethod yX3_spread, Cond.selects RX3 yX3_spread yX3_spread, Cond.code yX3_spread cX3_spread 6 none, Cond.methodLink RX3 53 yX3_lengthAt, Cond.instanceMethod yX3_lengthAt, Cond.selects RX3 yX3_lengthAt yX3_lengthAt, Cond.code yX3_lengthAt cX3_lengthAt 2 (some .int), Cond.methodLink RX3 61 yX3_reachAround, Cond.instanceMethod yX3_reachAround, Cond.selects RX3 yX3_reachAround yX3_reachAround, Cond.code yX3_reachAround cX3_reachAround 6 none]
def wsX3_measure : List Cond := .code yX3_measure cX3_measure 5 none :: ((wsX3_measure_r1 ++ wsX3_measure_r2) ++ wsX30 ++ wsX20)
def wsX3_from : List Cond := .code yX3_from cX3_from 2 (some .int) :: ([.methodLink RX3 56 Lib.Math.max.name, .static Lib.Math.max.name, .initialized "java/lang/Math", .code Lib.Math.max.name Lib.Math.max.code 2 (some .int), .methodLink RX3 53 yX3_lengthAt, .instanceMethod yX3_lengthAt, .selects RX3 yX3_lengthAt yX3_lengthAt, .initialized RX3, .code yX3_lengthAt cX3_lengthAt 2 (some .int), .fieldLink RX3 9 "Warren$Ways" "lengths" "[I"] ++ wsX30)
def wsX0_wayOf_r1 : List Cond := [Cond.fieldLink RX0 12 "Warren$Mind" "ways" "LWarren$Ways;", Cond.methodLink RX0 22 yX2_isAlive, Cond.instanceMethod yX2_isAlive, Cond.selects RX2 yX2_isAlive yX2_isAlive, Cond.initialized RX2, Cond.code yX2_isAlive cX2_isAlive 2 (some .boolean), Cond.methodLink RX2 86 yX2_trait, Cond.instanceMethod yX2_trait, Cond.selects RX2 yX2_trait yX2_trait, Cond.code yX2_trait cX2_trait 4 (some .int), Cond.fieldLink RX2 18 "Warren$State" "traits" "[I", Cond.methodLink RX0 28 yX3_measure, Cond.instanceMethod yX3_measure, Cond.selects RX3 yX3_measure yX3_measure, Cond.initialized RX3, Cond.code yX3_measure cX3_measure 5 none, Cond.fieldLink RX3 9 "Warren$Ways" "lengths" "[I", Cond.fieldLink RX3 24 "Warren$Ways" "queued" "I", Cond.methodLink RX3 18 yJ7_fill_53178, Cond.static yJ7_fill_53178, Cond.initialized RJ7, Cond.code yJ7_fill_53178 cJ7_fill_53178 4 none, Cond.methodLink RX3 28 yX2_kindAt, Cond.instanceMethod yX2_kindAt]
def wsX0_wayOf_r2 : List Cond := [Cond.selects RX2 yX2_kindAt yX2_kindAt, Cond.code yX2_kindAt cX2_kindAt 2 (some .int), Cond.fieldLink RX2 9 "Warren$State" "kinds" "[I", Cond.methodLink RX3 37 yX2_trait, Cond.methodLink RX3 41 yX3_putLength, Cond.instanceMethod yX3_putLength, Cond.selects RX3 yX3_putLength yX3_putLength, Cond.code yX3_putLength cX3_putLength 3 none, Cond.methodLink RX3 45 yX3_enqueue, Cond.instanceMethod yX3_enqueue, Cond.selects RX3 yX3_enqueue yX3_enqueue, Cond.code yX3_enqueue cX3_enqueue 2 none, Cond.fieldLink RX3 15 "Warren$Ways" "queue" "[I", Cond.methodLink RX3 49 yX3_spread, Cond.instanceMethod yX3_spread, Cond.selects RX3 yX3_spread yX3_spread, Cond.code yX3_spread cX3_spread 6 none, Cond.methodLink RX3 53 yX3_lengthAt, Cond.instanceMethod yX3_lengthAt, Cond.selects RX3 yX3_lengthAt yX3_lengthAt, Cond.code yX3_lengthAt cX3_lengthAt 2 (some .int), Cond.methodLink RX3 61 yX3_reachAround, Cond.instanceMethod yX3_reachAround, Cond.selects RX3 yX3_reachAround yX3_reachAround]
def wsX0_wayOf_r3 : List Cond := [Cond.code yX3_reachAround cX3_reachAround 6 none, Cond.methodLink RX0 32 yX2_trait, Cond.methodLink RX0 36 yX3_from, Cond.instanceMethod yX3_from, Cond.selects RX3 yX3_from yX3_from, Cond.code yX3_from cX3_from 2 (some .int), Cond.methodLink RX3 56 Lib.Math.max.name, Cond.static Lib.Math.max.name, Cond.initialized "java/lang/Math", Cond.code Lib.Math.max.name Lib.Math.max.code 2 (some .int)]
def wsX0_wayOf : List Cond := .code yX0_wayOf cX0_wayOf 4 (some .int) :: ((wsX0_wayOf_r1 ++ (wsX0_wayOf_r2 ++ wsX0_wayOf_r3)) ++ wsX00 ++ wsX20 ++ wsX30)
def wsX2_isFoe : List Cond := .code yX2_isFoe cX2_isFoe 3 (some .boolean) :: ([.methodLink RX2 86 yX2_trait, .instanceMethod yX2_trait, .selects RX2 yX2_trait yX2_trait, .initialized RX2, .code yX2_trait cX2_trait 4 (some .int), .fieldLink RX2 18 "Warren$State" "traits" "[I"] ++ wsX20)
def wsX2_apart : List Cond := .code yX2_apart cX2_apart 4 (some .int) :: ([.methodLink RX2 61 Lib.Math.abs.name, .static Lib.Math.abs.name, .initialized "java/lang/Math", .code Lib.Math.abs.name Lib.Math.abs.code 1 (some .int), .methodLink RX2 66 Lib.Math.max.name, .static Lib.Math.max.name, .code Lib.Math.max.name Lib.Math.max.code 2 (some .int)])
def wsJ9_floorDiv_7cf53 : List Cond := .code yJ9_floorDiv_7cf53 cJ9_floorDiv_7cf53 3 (some .int) :: ([])
def wsX2_nearest : List Cond := .code yX2_nearest cX2_nearest 2 (some .int) :: ([.methodLink RX2 70 yJ9_floorDiv_7cf53, .static yJ9_floorDiv_7cf53, .initialized RJ9, .code yJ9_floorDiv_7cf53 cJ9_floorDiv_7cf53 3 (some .int)])
def wsX4_stopsSight : List Cond := .code yX4_stopsSight cX4_stopsSight 1 (some .boolean) :: ([])
def wsX2_isSeenFrom_r1 : List Cond := [Cond.methodLink RX2 73 yX2_apart, Cond.static yX2_apart, Cond.initialized RX2, Cond.code yX2_apart cX2_apart 4 (some .int), Cond.methodLink RX2 61 Lib.Math.abs.name, Cond.static Lib.Math.abs.name, Cond.initialized "java/lang/Math", Cond.code Lib.Math.abs.name Lib.Math.abs.code 1 (some .int), Cond.methodLink RX2 66 Lib.Math.max.name, Cond.static Lib.Math.max.name, Cond.code Lib.Math.max.name Lib.Math.max.code 2 (some .int), Cond.methodLink RX2 76 yX2_nearest, Cond.static yX2_nearest, Cond.code yX2_nearest cX2_nearest 2 (some .int), Cond.methodLink RX2 70 yJ9_floorDiv_7cf53, Cond.static yJ9_floorDiv_7cf53, Cond.initialized RJ9, Cond.code yJ9_floorDiv_7cf53 cJ9_floorDiv_7cf53 3 (some .int), Cond.methodLink RX2 53 yX2_kindAt, Cond.instanceMethod yX2_kindAt, Cond.selects RX2 yX2_kindAt yX2_kindAt, Cond.code yX2_kindAt cX2_kindAt 2 (some .int), Cond.fieldLink RX2 9 "Warren$State" "kinds" "[I", Cond.static yX4_stopsSight]
def wsX2_isSeenFrom_r2 : List Cond := [Cond.initialized RX4, Cond.code yX4_stopsSight cX4_stopsSight 1 (some .boolean)]
def wsX2_isSeenFrom : List Cond := .code yX2_isSeenFrom cX2_isSeenFrom 8 (some .boolean) :: ((wsX2_isSeenFrom_r1 ++ wsX2_isSeenFrom_r2) ++ wsX20)
def wsX2_targetOf_r1 : List Cond := [Cond.fieldLink RX2 39 "Warren$State" "beings" "I", Cond.methodLink RX2 117 yX2_isAlive, Cond.instanceMethod yX2_isAlive, Cond.selects RX2 yX2_isAlive yX2_isAlive, Cond.initialized RX2, Cond.code yX2_isAlive cX2_isAlive 2 (some .boolean), Cond.methodLink RX2 86 yX2_trait, Cond.instanceMethod yX2_trait, Cond.selects RX2 yX2_trait yX2_trait, Cond.code yX2_trait cX2_trait 4 (some .int), Cond.fieldLink RX2 18 "Warren$State" "traits" "[I", Cond.methodLink RX2 120 yX2_isFoe, Cond.instanceMethod yX2_isFoe, Cond.selects RX2 yX2_isFoe yX2_isFoe, Cond.code yX2_isFoe cX2_isFoe 3 (some .boolean), Cond.methodLink RX2 73 yX2_apart, Cond.static yX2_apart, Cond.code yX2_apart cX2_apart 4 (some .int), Cond.methodLink RX2 61 Lib.Math.abs.name, Cond.static Lib.Math.abs.name, Cond.initialized "java/lang/Math", Cond.code Lib.Math.abs.name Lib.Math.abs.code 1 (some .int), Cond.methodLink RX2 66 Lib.Math.max.name, Cond.static Lib.Math.max.name]
def wsX2_targetOf_r2 : List Cond := [Cond.code Lib.Math.max.name Lib.Math.max.code 2 (some .int), Cond.methodLink RX2 89 yX2_isSeenFrom, Cond.instanceMethod yX2_isSeenFrom, Cond.selects RX2 yX2_isSeenFrom yX2_isSeenFrom, Cond.code yX2_isSeenFrom cX2_isSeenFrom 8 (some .boolean), Cond.methodLink RX2 76 yX2_nearest, Cond.static yX2_nearest, Cond.code yX2_nearest cX2_nearest 2 (some .int), Cond.methodLink RX2 70 yJ9_floorDiv_7cf53, Cond.static yJ9_floorDiv_7cf53, Cond.initialized RJ9, Cond.code yJ9_floorDiv_7cf53 cJ9_floorDiv_7cf53 3 (some .int), Cond.methodLink RX2 53 yX2_kindAt, Cond.instanceMethod yX2_kindAt, Cond.selects RX2 yX2_kindAt yX2_kindAt, Cond.code yX2_kindAt cX2_kindAt 2 (some .int), Cond.fieldLink RX2 9 "Warren$State" "kinds" "[I", Cond.static yX4_stopsSight, Cond.initialized RX4, Cond.code yX4_stopsSight cX4_stopsSight 1 (some .boolean)]
def wsX2_targetOf : List Cond := .code yX2_targetOf cX2_targetOf 7 (some .int) :: ((wsX2_targetOf_r1 ++ wsX2_targetOf_r2) ++ wsX20)
def wsX2_firstFoe : List Cond := .code yX2_firstFoe cX2_firstFoe 3 (some .int) :: ([.fieldLink RX2 39 "Warren$State" "beings" "I", .methodLink RX2 120 yX2_isFoe, .instanceMethod yX2_isFoe, .selects RX2 yX2_isFoe yX2_isFoe, .initialized RX2, .code yX2_isFoe cX2_isFoe 3 (some .boolean), .methodLink RX2 86 yX2_trait, .instanceMethod yX2_trait, .selects RX2 yX2_trait yX2_trait, .code yX2_trait cX2_trait 4 (some .int), .fieldLink RX2 18 "Warren$State" "traits" "[I"] ++ wsX20)
def wsX1_cellTowards : List Cond := .code yX1_cellTowards cX1_cellTowards 5 (some .int) :: ([.methodLink RX1 25 yX2_trait, .instanceMethod yX2_trait, .selects RX2 yX2_trait yX2_trait, .initialized RX2, .code yX2_trait cX2_trait 4 (some .int), .fieldLink RX2 18 "Warren$State" "traits" "[I"] ++ wsX20)
def wsX2_whoIsOn : List Cond := .code yX2_whoIsOn cX2_whoIsOn 3 (some .int) :: ([.fieldLink RX2 39 "Warren$State" "beings" "I", .methodLink RX2 86 yX2_trait, .instanceMethod yX2_trait, .selects RX2 yX2_trait yX2_trait, .initialized RX2, .code yX2_trait cX2_trait 4 (some .int), .fieldLink RX2 18 "Warren$State" "traits" "[I"] ++ wsX20)
def wsX1_canGo : List Cond := .code yX1_canGo cX1_canGo 4 (some .boolean) :: ([.methodLink RX1 33 yX2_kindAt, .instanceMethod yX2_kindAt, .selects RX2 yX2_kindAt yX2_kindAt, .initialized RX2, .code yX2_kindAt cX2_kindAt 2 (some .int), .fieldLink RX2 9 "Warren$State" "kinds" "[I", .methodLink RX1 36 yX2_whoIsOn, .instanceMethod yX2_whoIsOn, .selects RX2 yX2_whoIsOn yX2_whoIsOn, .code yX2_whoIsOn cX2_whoIsOn 3 (some .int), .fieldLink RX2 39 "Warren$State" "beings" "I", .methodLink RX2 86 yX2_trait, .instanceMethod yX2_trait, .selects RX2 yX2_trait yX2_trait, .code yX2_trait cX2_trait 4 (some .int), .fieldLink RX2 18 "Warren$State" "traits" "[I", .methodLink RX1 39 yX2_isFoe, .instanceMethod yX2_isFoe, .selects RX2 yX2_isFoe yX2_isFoe, .code yX2_isFoe cX2_isFoe 3 (some .boolean)] ++ wsX20)
def wsX1_isPossible_r1 : List Cond := [Cond.methodLink RX1 9 yX2_isAlive, Cond.instanceMethod yX2_isAlive, Cond.selects RX2 yX2_isAlive yX2_isAlive, Cond.initialized RX2, Cond.code yX2_isAlive cX2_isAlive 2 (some .boolean), Cond.methodLink RX2 86 yX2_trait, Cond.instanceMethod yX2_trait, Cond.selects RX2 yX2_trait yX2_trait, Cond.code yX2_trait cX2_trait 4 (some .int), Cond.fieldLink RX2 18 "Warren$State" "traits" "[I", Cond.methodLink RX1 15 yX1_cellTowards, Cond.static yX1_cellTowards, Cond.initialized RX1, Cond.code yX1_cellTowards cX1_cellTowards 5 (some .int), Cond.methodLink RX1 25 yX2_trait, Cond.methodLink RX1 21 yX1_canGo, Cond.static yX1_canGo, Cond.code yX1_canGo cX1_canGo 4 (some .boolean), Cond.methodLink RX1 33 yX2_kindAt, Cond.instanceMethod yX2_kindAt, Cond.selects RX2 yX2_kindAt yX2_kindAt, Cond.code yX2_kindAt cX2_kindAt 2 (some .int), Cond.fieldLink RX2 9 "Warren$State" "kinds" "[I", Cond.methodLink RX1 36 yX2_whoIsOn]
def wsX1_isPossible_r2 : List Cond := [Cond.instanceMethod yX2_whoIsOn, Cond.selects RX2 yX2_whoIsOn yX2_whoIsOn, Cond.code yX2_whoIsOn cX2_whoIsOn 3 (some .int), Cond.fieldLink RX2 39 "Warren$State" "beings" "I", Cond.methodLink RX1 39 yX2_isFoe, Cond.instanceMethod yX2_isFoe, Cond.selects RX2 yX2_isFoe yX2_isFoe, Cond.code yX2_isFoe cX2_isFoe 3 (some .boolean), Cond.methodLink RX1 29 yX2_targetOf, Cond.instanceMethod yX2_targetOf, Cond.selects RX2 yX2_targetOf yX2_targetOf, Cond.code yX2_targetOf cX2_targetOf 7 (some .int), Cond.methodLink RX2 117 yX2_isAlive, Cond.methodLink RX2 120 yX2_isFoe, Cond.methodLink RX2 73 yX2_apart, Cond.static yX2_apart, Cond.code yX2_apart cX2_apart 4 (some .int), Cond.methodLink RX2 61 Lib.Math.abs.name, Cond.static Lib.Math.abs.name, Cond.initialized "java/lang/Math", Cond.code Lib.Math.abs.name Lib.Math.abs.code 1 (some .int), Cond.methodLink RX2 66 Lib.Math.max.name, Cond.static Lib.Math.max.name, Cond.code Lib.Math.max.name Lib.Math.max.code 2 (some .int)]
def wsX1_isPossible_r3 : List Cond := [Cond.methodLink RX2 89 yX2_isSeenFrom, Cond.instanceMethod yX2_isSeenFrom, Cond.selects RX2 yX2_isSeenFrom yX2_isSeenFrom, Cond.code yX2_isSeenFrom cX2_isSeenFrom 8 (some .boolean), Cond.methodLink RX2 76 yX2_nearest, Cond.static yX2_nearest, Cond.code yX2_nearest cX2_nearest 2 (some .int), Cond.methodLink RX2 70 yJ9_floorDiv_7cf53, Cond.static yJ9_floorDiv_7cf53, Cond.initialized RJ9, Cond.code yJ9_floorDiv_7cf53 cJ9_floorDiv_7cf53 3 (some .int), Cond.methodLink RX2 53 yX2_kindAt, Cond.static yX4_stopsSight, Cond.initialized RX4, Cond.code yX4_stopsSight cX4_stopsSight 1 (some .boolean)]
def wsX1_isPossible : List Cond := .code yX1_isPossible cX1_isPossible 3 (some .boolean) :: ((wsX1_isPossible_r1 ++ (wsX1_isPossible_r2 ++ wsX1_isPossible_r3)) ++ wsX20)
def wsX2_stackOf : List Cond := .code yX2_stackOf cX2_stackOf 4 (some .int) :: ([.fieldLink RX2 21 "Warren$State" "stacks" "[I"] ++ wsX20)
def wsX2_isAfraid : List Cond := .code yX2_isAfraid cX2_isAfraid 2 (some .boolean) :: ([.methodLink RX2 86 yX2_trait, .instanceMethod yX2_trait, .selects RX2 yX2_trait yX2_trait, .initialized RX2, .code yX2_trait cX2_trait 4 (some .int), .fieldLink RX2 18 "Warren$State" "traits" "[I"] ++ wsX20)
def wsX2_hasFoeBeside : List Cond := .code yX2_hasFoeBeside cX2_hasFoeBeside 3 (some .boolean) :: ([.methodLink RX2 86 yX2_trait, .instanceMethod yX2_trait, .selects RX2 yX2_trait yX2_trait, .initialized RX2, .code yX2_trait cX2_trait 4 (some .int), .fieldLink RX2 18 "Warren$State" "traits" "[I", .methodLink RX2 126 yX2_whoIsOn, .instanceMethod yX2_whoIsOn, .selects RX2 yX2_whoIsOn yX2_whoIsOn, .code yX2_whoIsOn cX2_whoIsOn 3 (some .int), .fieldLink RX2 39 "Warren$State" "beings" "I", .methodLink RX2 120 yX2_isFoe, .instanceMethod yX2_isFoe, .selects RX2 yX2_isFoe yX2_isFoe, .code yX2_isFoe cX2_isFoe 3 (some .boolean)] ++ wsX20)
def wsX0_worthOfGuard_r1 : List Cond := [Cond.methodLink RX0 70 yX2_isAfraid, Cond.instanceMethod yX2_isAfraid, Cond.selects RX2 yX2_isAfraid yX2_isAfraid, Cond.initialized RX2, Cond.code yX2_isAfraid cX2_isAfraid 2 (some .boolean), Cond.methodLink RX2 86 yX2_trait, Cond.instanceMethod yX2_trait, Cond.selects RX2 yX2_trait yX2_trait, Cond.code yX2_trait cX2_trait 4 (some .int), Cond.fieldLink RX2 18 "Warren$State" "traits" "[I", Cond.methodLink RX0 73 yX2_hasFoeBeside, Cond.instanceMethod yX2_hasFoeBeside, Cond.selects RX2 yX2_hasFoeBeside yX2_hasFoeBeside, Cond.code yX2_hasFoeBeside cX2_hasFoeBeside 3 (some .boolean), Cond.methodLink RX2 126 yX2_whoIsOn, Cond.instanceMethod yX2_whoIsOn, Cond.selects RX2 yX2_whoIsOn yX2_whoIsOn, Cond.code yX2_whoIsOn cX2_whoIsOn 3 (some .int), Cond.fieldLink RX2 39 "Warren$State" "beings" "I", Cond.methodLink RX2 120 yX2_isFoe, Cond.instanceMethod yX2_isFoe, Cond.selects RX2 yX2_isFoe yX2_isFoe, Cond.code yX2_isFoe cX2_isFoe 3 (some .boolean), Cond.methodLink RX0 56 yX2_stackOf]
def wsX0_worthOfGuard_r2 : List Cond := [Cond.instanceMethod yX2_stackOf, Cond.selects RX2 yX2_stackOf yX2_stackOf, Cond.code yX2_stackOf cX2_stackOf 4 (some .int), Cond.fieldLink RX2 21 "Warren$State" "stacks" "[I"]
def wsX0_worthOfGuard : List Cond := .code yX0_worthOfGuard cX0_worthOfGuard 4 (some .int) :: ((wsX0_worthOfGuard_r1 ++ wsX0_worthOfGuard_r2) ++ wsX20)
def wsX2_hitOf : List Cond := .code yX2_hitOf cX2_hitOf 5 (some .int) :: ([.methodLink RX2 66 Lib.Math.max.name, .static Lib.Math.max.name, .initialized "java/lang/Math", .code Lib.Math.max.name Lib.Math.max.code 2 (some .int), .methodLink RX2 117 yX2_isAlive, .instanceMethod yX2_isAlive, .selects RX2 yX2_isAlive yX2_isAlive, .initialized RX2, .code yX2_isAlive cX2_isAlive 2 (some .boolean), .methodLink RX2 86 yX2_trait, .instanceMethod yX2_trait, .selects RX2 yX2_trait yX2_trait, .code yX2_trait cX2_trait 4 (some .int), .fieldLink RX2 18 "Warren$State" "traits" "[I", .methodLink RX2 92 yX2_stackOf, .instanceMethod yX2_stackOf, .selects RX2 yX2_stackOf yX2_stackOf, .code yX2_stackOf cX2_stackOf 4 (some .int), .fieldLink RX2 21 "Warren$State" "stacks" "[I"] ++ wsX20)
def wsX0_worthOfGo_r1 : List Cond := [Cond.fieldLink RX0 12 "Warren$Mind" "ways" "LWarren$Ways;", Cond.methodLink RX0 76 yX2_whoIsOn, Cond.instanceMethod yX2_whoIsOn, Cond.selects RX2 yX2_whoIsOn yX2_whoIsOn, Cond.initialized RX2, Cond.code yX2_whoIsOn cX2_whoIsOn 3 (some .int), Cond.fieldLink RX2 39 "Warren$State" "beings" "I", Cond.methodLink RX2 86 yX2_trait, Cond.instanceMethod yX2_trait, Cond.selects RX2 yX2_trait yX2_trait, Cond.code yX2_trait cX2_trait 4 (some .int), Cond.fieldLink RX2 18 "Warren$State" "traits" "[I", Cond.methodLink RX0 79 yX2_hitOf, Cond.instanceMethod yX2_hitOf, Cond.selects RX2 yX2_hitOf yX2_hitOf, Cond.code yX2_hitOf cX2_hitOf 5 (some .int), Cond.methodLink RX2 66 Lib.Math.max.name, Cond.static Lib.Math.max.name, Cond.initialized "java/lang/Math", Cond.code Lib.Math.max.name Lib.Math.max.code 2 (some .int), Cond.methodLink RX2 117 yX2_isAlive, Cond.instanceMethod yX2_isAlive, Cond.selects RX2 yX2_isAlive yX2_isAlive, Cond.code yX2_isAlive cX2_isAlive 2 (some .boolean)]
def wsX0_worthOfGo_r2 : List Cond := [Cond.methodLink RX2 92 yX2_stackOf, Cond.instanceMethod yX2_stackOf, Cond.selects RX2 yX2_stackOf yX2_stackOf, Cond.code yX2_stackOf cX2_stackOf 4 (some .int), Cond.fieldLink RX2 21 "Warren$State" "stacks" "[I", Cond.methodLink RX0 32 yX2_trait, Cond.methodLink RX0 82 yX2_kindAt, Cond.instanceMethod yX2_kindAt, Cond.selects RX2 yX2_kindAt yX2_kindAt, Cond.code yX2_kindAt cX2_kindAt 2 (some .int), Cond.fieldLink RX2 9 "Warren$State" "kinds" "[I", Cond.methodLink RX0 36 yX3_from, Cond.instanceMethod yX3_from, Cond.selects RX3 yX3_from yX3_from, Cond.initialized RX3, Cond.code yX3_from cX3_from 2 (some .int), Cond.methodLink RX3 56 Lib.Math.max.name, Cond.methodLink RX3 53 yX3_lengthAt, Cond.instanceMethod yX3_lengthAt, Cond.selects RX3 yX3_lengthAt yX3_lengthAt, Cond.code yX3_lengthAt cX3_lengthAt 2 (some .int), Cond.fieldLink RX3 9 "Warren$Ways" "lengths" "[I", Cond.methodLink RX0 70 yX2_isAfraid, Cond.instanceMethod yX2_isAfraid]
def wsX0_worthOfGo_r3 : List Cond := [Cond.selects RX2 yX2_isAfraid yX2_isAfraid, Cond.code yX2_isAfraid cX2_isAfraid 2 (some .boolean)]
def wsX0_worthOfGo : List Cond := .code yX0_worthOfGo cX0_worthOfGo 7 (some .int) :: ((wsX0_worthOfGo_r1 ++ (wsX0_worthOfGo_r2 ++ wsX0_worthOfGo_r3)) ++ wsX00 ++ wsX20 ++ wsX30)
def wsX0_worthIfPossible_r1 : List Cond := [Cond.methodLink RX0 56 yX2_stackOf, Cond.instanceMethod yX2_stackOf, Cond.selects RX2 yX2_stackOf yX2_stackOf, Cond.initialized RX2, Cond.code yX2_stackOf cX2_stackOf 4 (some .int), Cond.fieldLink RX2 21 "Warren$State" "stacks" "[I", Cond.methodLink RX0 59 yX0_worthOfGuard, Cond.instanceMethod yX0_worthOfGuard, Cond.selects RX0 yX0_worthOfGuard yX0_worthOfGuard, Cond.initialized RX0, Cond.code yX0_worthOfGuard cX0_worthOfGuard 4 (some .int), Cond.methodLink RX0 70 yX2_isAfraid, Cond.instanceMethod yX2_isAfraid, Cond.selects RX2 yX2_isAfraid yX2_isAfraid, Cond.code yX2_isAfraid cX2_isAfraid 2 (some .boolean), Cond.methodLink RX2 86 yX2_trait, Cond.instanceMethod yX2_trait, Cond.selects RX2 yX2_trait yX2_trait, Cond.code yX2_trait cX2_trait 4 (some .int), Cond.fieldLink RX2 18 "Warren$State" "traits" "[I", Cond.methodLink RX0 73 yX2_hasFoeBeside, Cond.instanceMethod yX2_hasFoeBeside, Cond.selects RX2 yX2_hasFoeBeside yX2_hasFoeBeside, Cond.code yX2_hasFoeBeside cX2_hasFoeBeside 3 (some .boolean)]
def wsX0_worthIfPossible_r2 : List Cond := [Cond.methodLink RX2 126 yX2_whoIsOn, Cond.instanceMethod yX2_whoIsOn, Cond.selects RX2 yX2_whoIsOn yX2_whoIsOn, Cond.code yX2_whoIsOn cX2_whoIsOn 3 (some .int), Cond.fieldLink RX2 39 "Warren$State" "beings" "I", Cond.methodLink RX2 120 yX2_isFoe, Cond.instanceMethod yX2_isFoe, Cond.selects RX2 yX2_isFoe yX2_isFoe, Cond.code yX2_isFoe cX2_isFoe 3 (some .boolean), Cond.methodLink RX0 32 yX2_trait, Cond.methodLink RX0 63 yX1_cellTowards, Cond.static yX1_cellTowards, Cond.initialized RX1, Cond.code yX1_cellTowards cX1_cellTowards 5 (some .int), Cond.methodLink RX1 25 yX2_trait, Cond.methodLink RX0 67 yX0_worthOfGo, Cond.instanceMethod yX0_worthOfGo, Cond.selects RX0 yX0_worthOfGo yX0_worthOfGo, Cond.code yX0_worthOfGo cX0_worthOfGo 7 (some .int), Cond.fieldLink RX0 12 "Warren$Mind" "ways" "LWarren$Ways;", Cond.methodLink RX0 76 yX2_whoIsOn, Cond.methodLink RX0 79 yX2_hitOf, Cond.instanceMethod yX2_hitOf, Cond.selects RX2 yX2_hitOf yX2_hitOf]
def wsX0_worthIfPossible_r3 : List Cond := [Cond.code yX2_hitOf cX2_hitOf 5 (some .int), Cond.methodLink RX2 66 Lib.Math.max.name, Cond.static Lib.Math.max.name, Cond.initialized "java/lang/Math", Cond.code Lib.Math.max.name Lib.Math.max.code 2 (some .int), Cond.methodLink RX2 117 yX2_isAlive, Cond.instanceMethod yX2_isAlive, Cond.selects RX2 yX2_isAlive yX2_isAlive, Cond.code yX2_isAlive cX2_isAlive 2 (some .boolean), Cond.methodLink RX2 92 yX2_stackOf, Cond.methodLink RX0 82 yX2_kindAt, Cond.instanceMethod yX2_kindAt, Cond.selects RX2 yX2_kindAt yX2_kindAt, Cond.code yX2_kindAt cX2_kindAt 2 (some .int), Cond.fieldLink RX2 9 "Warren$State" "kinds" "[I", Cond.methodLink RX0 36 yX3_from, Cond.instanceMethod yX3_from, Cond.selects RX3 yX3_from yX3_from, Cond.initialized RX3, Cond.code yX3_from cX3_from 2 (some .int), Cond.methodLink RX3 56 Lib.Math.max.name, Cond.methodLink RX3 53 yX3_lengthAt, Cond.instanceMethod yX3_lengthAt, Cond.selects RX3 yX3_lengthAt yX3_lengthAt]
def wsX0_worthIfPossible_r4 : List Cond := [Cond.code yX3_lengthAt cX3_lengthAt 2 (some .int), Cond.fieldLink RX3 9 "Warren$Ways" "lengths" "[I"]
def wsX0_worthIfPossible : List Cond := .code yX0_worthIfPossible cX0_worthIfPossible 5 (some .int) :: ((wsX0_worthIfPossible_r1 ++ (wsX0_worthIfPossible_r2 ++ (wsX0_worthIfPossible_r3 ++ wsX0_worthIfPossible_r4))) ++ wsX20 ++ wsX00 ++ wsX30)
def wsX0_weigh_r1 : List Cond := [Cond.fieldLink RX0 12 "Warren$Mind" "ways" "LWarren$Ways;", Cond.fieldLink RX0 18 "Warren$Mind" "worths" "[I", Cond.methodLink RX0 40 yX2_targetOf, Cond.instanceMethod yX2_targetOf, Cond.selects RX2 yX2_targetOf yX2_targetOf, Cond.initialized RX2, Cond.code yX2_targetOf cX2_targetOf 7 (some .int), Cond.fieldLink RX2 39 "Warren$State" "beings" "I", Cond.methodLink RX2 117 yX2_isAlive, Cond.instanceMethod yX2_isAlive, Cond.selects RX2 yX2_isAlive yX2_isAlive, Cond.code yX2_isAlive cX2_isAlive 2 (some .boolean), Cond.methodLink RX2 86 yX2_trait, Cond.instanceMethod yX2_trait, Cond.selects RX2 yX2_trait yX2_trait, Cond.code yX2_trait cX2_trait 4 (some .int), Cond.fieldLink RX2 18 "Warren$State" "traits" "[I", Cond.methodLink RX2 120 yX2_isFoe, Cond.instanceMethod yX2_isFoe, Cond.selects RX2 yX2_isFoe yX2_isFoe, Cond.code yX2_isFoe cX2_isFoe 3 (some .boolean), Cond.methodLink RX2 73 yX2_apart, Cond.static yX2_apart, Cond.code yX2_apart cX2_apart 4 (some .int)]
def wsX0_weigh_r2 : List Cond := [Cond.methodLink RX2 61 Lib.Math.abs.name, Cond.static Lib.Math.abs.name, Cond.initialized "java/lang/Math", Cond.code Lib.Math.abs.name Lib.Math.abs.code 1 (some .int), Cond.methodLink RX2 66 Lib.Math.max.name, Cond.static Lib.Math.max.name, Cond.code Lib.Math.max.name Lib.Math.max.code 2 (some .int), Cond.methodLink RX2 89 yX2_isSeenFrom, Cond.instanceMethod yX2_isSeenFrom, Cond.selects RX2 yX2_isSeenFrom yX2_isSeenFrom, Cond.code yX2_isSeenFrom cX2_isSeenFrom 8 (some .boolean), Cond.methodLink RX2 76 yX2_nearest, Cond.static yX2_nearest, Cond.code yX2_nearest cX2_nearest 2 (some .int), Cond.methodLink RX2 70 yJ9_floorDiv_7cf53, Cond.static yJ9_floorDiv_7cf53, Cond.initialized RJ9, Cond.code yJ9_floorDiv_7cf53 cJ9_floorDiv_7cf53 3 (some .int), Cond.methodLink RX2 53 yX2_kindAt, Cond.instanceMethod yX2_kindAt, Cond.selects RX2 yX2_kindAt yX2_kindAt, Cond.code yX2_kindAt cX2_kindAt 2 (some .int), Cond.fieldLink RX2 9 "Warren$State" "kinds" "[I", Cond.static yX4_stopsSight]
def wsX0_weigh_r3 : List Cond := [Cond.initialized RX4, Cond.code yX4_stopsSight cX4_stopsSight 1 (some .boolean), Cond.methodLink RX0 43 yX2_firstFoe, Cond.instanceMethod yX2_firstFoe, Cond.selects RX2 yX2_firstFoe yX2_firstFoe, Cond.code yX2_firstFoe cX2_firstFoe 3 (some .int), Cond.methodLink RX0 32 yX2_trait, Cond.methodLink RX0 28 yX3_measure, Cond.instanceMethod yX3_measure, Cond.selects RX3 yX3_measure yX3_measure, Cond.initialized RX3, Cond.code yX3_measure cX3_measure 5 none, Cond.fieldLink RX3 9 "Warren$Ways" "lengths" "[I", Cond.fieldLink RX3 24 "Warren$Ways" "queued" "I", Cond.methodLink RX3 18 yJ7_fill_53178, Cond.static yJ7_fill_53178, Cond.initialized RJ7, Cond.code yJ7_fill_53178 cJ7_fill_53178 4 none, Cond.methodLink RX3 28 yX2_kindAt, Cond.methodLink RX3 37 yX2_trait, Cond.methodLink RX3 41 yX3_putLength, Cond.instanceMethod yX3_putLength, Cond.selects RX3 yX3_putLength yX3_putLength, Cond.code yX3_putLength cX3_putLength 3 none]
def wsX0_weigh_r4 : List Cond := [Cond.methodLink RX3 45 yX3_enqueue, Cond.instanceMethod yX3_enqueue, Cond.selects RX3 yX3_enqueue yX3_enqueue, Cond.code yX3_enqueue cX3_enqueue 2 none, Cond.fieldLink RX3 15 "Warren$Ways" "queue" "[I", Cond.methodLink RX3 49 yX3_spread, Cond.instanceMethod yX3_spread, Cond.selects RX3 yX3_spread yX3_spread, Cond.code yX3_spread cX3_spread 6 none, Cond.methodLink RX3 53 yX3_lengthAt, Cond.instanceMethod yX3_lengthAt, Cond.selects RX3 yX3_lengthAt yX3_lengthAt, Cond.code yX3_lengthAt cX3_lengthAt 2 (some .int), Cond.methodLink RX3 61 yX3_reachAround, Cond.instanceMethod yX3_reachAround, Cond.selects RX3 yX3_reachAround yX3_reachAround, Cond.code yX3_reachAround cX3_reachAround 6 none, Cond.methodLink RX0 46 yX1_isPossible, Cond.static yX1_isPossible, Cond.initialized RX1, Cond.code yX1_isPossible cX1_isPossible 3 (some .boolean), Cond.methodLink RX1 9 yX2_isAlive, Cond.methodLink RX1 15 yX1_cellTowards, Cond.static yX1_cellTowards]
def wsX0_weigh_r5 : List Cond := [Cond.code yX1_cellTowards cX1_cellTowards 5 (some .int), Cond.methodLink RX1 25 yX2_trait, Cond.methodLink RX1 21 yX1_canGo, Cond.static yX1_canGo, Cond.code yX1_canGo cX1_canGo 4 (some .boolean), Cond.methodLink RX1 33 yX2_kindAt, Cond.methodLink RX1 36 yX2_whoIsOn, Cond.instanceMethod yX2_whoIsOn, Cond.selects RX2 yX2_whoIsOn yX2_whoIsOn, Cond.code yX2_whoIsOn cX2_whoIsOn 3 (some .int), Cond.methodLink RX1 39 yX2_isFoe, Cond.methodLink RX1 29 yX2_targetOf, Cond.methodLink RX0 52 yX0_worthIfPossible, Cond.instanceMethod yX0_worthIfPossible, Cond.selects RX0 yX0_worthIfPossible yX0_worthIfPossible, Cond.initialized RX0, Cond.code yX0_worthIfPossible cX0_worthIfPossible 5 (some .int), Cond.methodLink RX0 56 yX2_stackOf, Cond.instanceMethod yX2_stackOf, Cond.selects RX2 yX2_stackOf yX2_stackOf, Cond.code yX2_stackOf cX2_stackOf 4 (some .int), Cond.fieldLink RX2 21 "Warren$State" "stacks" "[I", Cond.methodLink RX0 59 yX0_worthOfGuard, Cond.instanceMethod yX0_worthOfGuard]
def wsX0_weigh_r6 : List Cond := [Cond.selects RX0 yX0_worthOfGuard yX0_worthOfGuard, Cond.code yX0_worthOfGuard cX0_worthOfGuard 4 (some .int), Cond.methodLink RX0 70 yX2_isAfraid, Cond.instanceMethod yX2_isAfraid, Cond.selects RX2 yX2_isAfraid yX2_isAfraid, Cond.code yX2_isAfraid cX2_isAfraid 2 (some .boolean), Cond.methodLink RX0 73 yX2_hasFoeBeside, Cond.instanceMethod yX2_hasFoeBeside, Cond.selects RX2 yX2_hasFoeBeside yX2_hasFoeBeside, Cond.code yX2_hasFoeBeside cX2_hasFoeBeside 3 (some .boolean), Cond.methodLink RX2 126 yX2_whoIsOn, Cond.methodLink RX0 63 yX1_cellTowards, Cond.methodLink RX0 67 yX0_worthOfGo, Cond.instanceMethod yX0_worthOfGo, Cond.selects RX0 yX0_worthOfGo yX0_worthOfGo, Cond.code yX0_worthOfGo cX0_worthOfGo 7 (some .int), Cond.methodLink RX0 76 yX2_whoIsOn, Cond.methodLink RX0 79 yX2_hitOf, Cond.instanceMethod yX2_hitOf, Cond.selects RX2 yX2_hitOf yX2_hitOf, Cond.code yX2_hitOf cX2_hitOf 5 (some .int), Cond.methodLink RX2 92 yX2_stackOf, Cond.methodLink RX0 82 yX2_kindAt, Cond.methodLink RX0 36 yX3_from]
def wsX0_weigh_r7 : List Cond := [Cond.instanceMethod yX3_from, Cond.selects RX3 yX3_from yX3_from, Cond.code yX3_from cX3_from 2 (some .int), Cond.methodLink RX3 56 Lib.Math.max.name]
def wsX0_weigh : List Cond := .code yX0_weigh cX0_weigh 7 none :: ((wsX0_weigh_r1 ++ (wsX0_weigh_r2 ++ (wsX0_weigh_r3 ++ (wsX0_weigh_r4 ++ (wsX0_weigh_r5 ++ (wsX0_weigh_r6 ++ wsX0_weigh_r7)))))) ++ wsX00 ++ wsX20 ++ wsX30)
def wsX0_worthOf : List Cond := .code yX0_worthOf cX0_worthOf 2 (some .int) :: ([.fieldLink RX0 18 "Warren$Mind" "worths" "[I"] ++ wsX00)
def wsX0_best : List Cond := .code yX0_best cX0_best 4 (some .int) :: ([.fieldLink RX0 18 "Warren$Mind" "worths" "[I"] ++ wsX00)
def wsX2_putTrait : List Cond := .code yX2_putTrait cX2_putTrait 5 none :: ([.fieldLink RX2 18 "Warren$State" "traits" "[I"] ++ wsX20)
def wsX2_takeLife : List Cond := .code yX2_takeLife cX2_takeLife 5 (some .int) :: ([.methodLink RX2 95 Lib.Math.min.name, .static Lib.Math.min.name, .initialized "java/lang/Math", .code Lib.Math.min.name Lib.Math.min.code 2 (some .int), .methodLink RX2 86 yX2_trait, .instanceMethod yX2_trait, .selects RX2 yX2_trait yX2_trait, .initialized RX2, .code yX2_trait cX2_trait 4 (some .int), .fieldLink RX2 18 "Warren$State" "traits" "[I", .methodLink RX2 109 yX2_putTrait, .instanceMethod yX2_putTrait, .selects RX2 yX2_putTrait yX2_putTrait, .code yX2_putTrait cX2_putTrait 5 none] ++ wsX20)
def wsX2_putKind : List Cond := .code yX2_putKind cX2_putKind 3 none :: ([.fieldLink RX2 9 "Warren$State" "kinds" "[I"] ++ wsX20)
def wsX1_go_r1 : List Cond := [Cond.methodLink RX1 36 yX2_whoIsOn, Cond.instanceMethod yX2_whoIsOn, Cond.selects RX2 yX2_whoIsOn yX2_whoIsOn, Cond.initialized RX2, Cond.code yX2_whoIsOn cX2_whoIsOn 3 (some .int), Cond.fieldLink RX2 39 "Warren$State" "beings" "I", Cond.methodLink RX2 86 yX2_trait, Cond.instanceMethod yX2_trait, Cond.selects RX2 yX2_trait yX2_trait, Cond.code yX2_trait cX2_trait 4 (some .int), Cond.fieldLink RX2 18 "Warren$State" "traits" "[I", Cond.methodLink RX1 85 yX2_hitOf, Cond.instanceMethod yX2_hitOf, Cond.selects RX2 yX2_hitOf yX2_hitOf, Cond.code yX2_hitOf cX2_hitOf 5 (some .int), Cond.methodLink RX2 66 Lib.Math.max.name, Cond.static Lib.Math.max.name, Cond.initialized "java/lang/Math", Cond.code Lib.Math.max.name Lib.Math.max.code 2 (some .int), Cond.methodLink RX2 117 yX2_isAlive, Cond.instanceMethod yX2_isAlive, Cond.selects RX2 yX2_isAlive yX2_isAlive, Cond.code yX2_isAlive cX2_isAlive 2 (some .boolean), Cond.methodLink RX2 92 yX2_stackOf]
def wsX1_go_r2 : List Cond := [Cond.instanceMethod yX2_stackOf, Cond.selects RX2 yX2_stackOf yX2_stackOf, Cond.code yX2_stackOf cX2_stackOf 4 (some .int), Cond.fieldLink RX2 21 "Warren$State" "stacks" "[I", Cond.methodLink RX1 88 yX2_takeLife, Cond.instanceMethod yX2_takeLife, Cond.selects RX2 yX2_takeLife yX2_takeLife, Cond.code yX2_takeLife cX2_takeLife 5 (some .int), Cond.methodLink RX2 95 Lib.Math.min.name, Cond.static Lib.Math.min.name, Cond.code Lib.Math.min.name Lib.Math.min.code 2 (some .int), Cond.methodLink RX2 109 yX2_putTrait, Cond.instanceMethod yX2_putTrait, Cond.selects RX2 yX2_putTrait yX2_putTrait, Cond.code yX2_putTrait cX2_putTrait 5 none, Cond.methodLink RX1 33 yX2_kindAt, Cond.instanceMethod yX2_kindAt, Cond.selects RX2 yX2_kindAt yX2_kindAt, Cond.code yX2_kindAt cX2_kindAt 2 (some .int), Cond.fieldLink RX2 9 "Warren$State" "kinds" "[I", Cond.methodLink RX1 91 yX2_putKind, Cond.instanceMethod yX2_putKind, Cond.selects RX2 yX2_putKind yX2_putKind, Cond.code yX2_putKind cX2_putKind 3 none]
def wsX1_go_r3 : List Cond := [Cond.methodLink RX1 55 yX2_putTrait]
def wsX1_go : List Cond := .code yX1_go cX1_go 4 (some .int) :: ((wsX1_go_r1 ++ (wsX1_go_r2 ++ wsX1_go_r3)) ++ wsX20)
def wsX2_turnsOf : List Cond := .code yX2_turnsOf cX2_turnsOf 4 (some .int) :: ([.fieldLink RX2 24 "Warren$State" "turns" "[I"] ++ wsX20)
def wsX2_putEffect : List Cond := .code yX2_putEffect cX2_putEffect 6 none :: ([.fieldLink RX2 21 "Warren$State" "stacks" "[I", .fieldLink RX2 24 "Warren$State" "turns" "[I"] ++ wsX20)
def wsX2_addEffect : List Cond := .code yX2_addEffect cX2_addEffect 5 none :: ([.methodLink RX2 95 Lib.Math.min.name, .static Lib.Math.min.name, .initialized "java/lang/Math", .code Lib.Math.min.name Lib.Math.min.code 2 (some .int), .methodLink RX2 66 Lib.Math.max.name, .static Lib.Math.max.name, .code Lib.Math.max.name Lib.Math.max.code 2 (some .int), .methodLink RX2 92 yX2_stackOf, .instanceMethod yX2_stackOf, .selects RX2 yX2_stackOf yX2_stackOf, .initialized RX2, .code yX2_stackOf cX2_stackOf 4 (some .int), .fieldLink RX2 21 "Warren$State" "stacks" "[I", .methodLink RX2 98 yX2_turnsOf, .instanceMethod yX2_turnsOf, .selects RX2 yX2_turnsOf yX2_turnsOf, .code yX2_turnsOf cX2_turnsOf 4 (some .int), .fieldLink RX2 24 "Warren$State" "turns" "[I", .methodLink RX2 101 yX2_putEffect, .instanceMethod yX2_putEffect, .selects RX2 yX2_putEffect yX2_putEffect, .code yX2_putEffect cX2_putEffect 6 none] ++ wsX20)
def wsX1_conjure_r1 : List Cond := [Cond.methodLink RX1 25 yX2_trait, Cond.instanceMethod yX2_trait, Cond.selects RX2 yX2_trait yX2_trait, Cond.initialized RX2, Cond.code yX2_trait cX2_trait 4 (some .int), Cond.fieldLink RX2 18 "Warren$State" "traits" "[I", Cond.methodLink RX1 55 yX2_putTrait, Cond.instanceMethod yX2_putTrait, Cond.selects RX2 yX2_putTrait yX2_putTrait, Cond.code yX2_putTrait cX2_putTrait 5 none, Cond.methodLink RX1 29 yX2_targetOf, Cond.instanceMethod yX2_targetOf, Cond.selects RX2 yX2_targetOf yX2_targetOf, Cond.code yX2_targetOf cX2_targetOf 7 (some .int), Cond.fieldLink RX2 39 "Warren$State" "beings" "I", Cond.methodLink RX2 117 yX2_isAlive, Cond.instanceMethod yX2_isAlive, Cond.selects RX2 yX2_isAlive yX2_isAlive, Cond.code yX2_isAlive cX2_isAlive 2 (some .boolean), Cond.methodLink RX2 86 yX2_trait, Cond.methodLink RX2 120 yX2_isFoe, Cond.instanceMethod yX2_isFoe, Cond.selects RX2 yX2_isFoe yX2_isFoe, Cond.code yX2_isFoe cX2_isFoe 3 (some .boolean)]
def wsX1_conjure_r2 : List Cond := [Cond.methodLink RX2 73 yX2_apart, Cond.static yX2_apart, Cond.code yX2_apart cX2_apart 4 (some .int), Cond.methodLink RX2 61 Lib.Math.abs.name, Cond.static Lib.Math.abs.name, Cond.initialized "java/lang/Math", Cond.code Lib.Math.abs.name Lib.Math.abs.code 1 (some .int), Cond.methodLink RX2 66 Lib.Math.max.name, Cond.static Lib.Math.max.name, Cond.code Lib.Math.max.name Lib.Math.max.code 2 (some .int), Cond.methodLink RX2 89 yX2_isSeenFrom, Cond.instanceMethod yX2_isSeenFrom, Cond.selects RX2 yX2_isSeenFrom yX2_isSeenFrom, Cond.code yX2_isSeenFrom cX2_isSeenFrom 8 (some .boolean), Cond.methodLink RX2 76 yX2_nearest, Cond.static yX2_nearest, Cond.code yX2_nearest cX2_nearest 2 (some .int), Cond.methodLink RX2 70 yJ9_floorDiv_7cf53, Cond.static yJ9_floorDiv_7cf53, Cond.initialized RJ9, Cond.code yJ9_floorDiv_7cf53 cJ9_floorDiv_7cf53 3 (some .int), Cond.methodLink RX2 53 yX2_kindAt, Cond.instanceMethod yX2_kindAt, Cond.selects RX2 yX2_kindAt yX2_kindAt]
def wsX1_conjure_r3 : List Cond := [Cond.code yX2_kindAt cX2_kindAt 2 (some .int), Cond.fieldLink RX2 9 "Warren$State" "kinds" "[I", Cond.static yX4_stopsSight, Cond.initialized RX4, Cond.code yX4_stopsSight cX4_stopsSight 1 (some .boolean), Cond.methodLink RX1 95 yX2_addEffect, Cond.instanceMethod yX2_addEffect, Cond.selects RX2 yX2_addEffect yX2_addEffect, Cond.code yX2_addEffect cX2_addEffect 5 none, Cond.methodLink RX2 95 Lib.Math.min.name, Cond.static Lib.Math.min.name, Cond.code Lib.Math.min.name Lib.Math.min.code 2 (some .int), Cond.methodLink RX2 92 yX2_stackOf, Cond.instanceMethod yX2_stackOf, Cond.selects RX2 yX2_stackOf yX2_stackOf, Cond.code yX2_stackOf cX2_stackOf 4 (some .int), Cond.fieldLink RX2 21 "Warren$State" "stacks" "[I", Cond.methodLink RX2 98 yX2_turnsOf, Cond.instanceMethod yX2_turnsOf, Cond.selects RX2 yX2_turnsOf yX2_turnsOf, Cond.code yX2_turnsOf cX2_turnsOf 4 (some .int), Cond.fieldLink RX2 24 "Warren$State" "turns" "[I", Cond.methodLink RX2 101 yX2_putEffect, Cond.instanceMethod yX2_putEffect]
def wsX1_conjure_r4 : List Cond := [Cond.selects RX2 yX2_putEffect yX2_putEffect, Cond.code yX2_putEffect cX2_putEffect 6 none]
def wsX1_conjure : List Cond := .code yX1_conjure cX1_conjure 3 none :: ((wsX1_conjure_r1 ++ (wsX1_conjure_r2 ++ (wsX1_conjure_r3 ++ wsX1_conjure_r4))) ++ wsX20)
def wsX1_wearOff_r1 : List Cond := [Cond.methodLink RX1 50 Lib.Math.min.name, Cond.static Lib.Math.min.name, Cond.initialized "java/lang/Math", Cond.code Lib.Math.min.name Lib.Math.min.code 2 (some .int), Cond.methodLink RX1 102 Lib.Math.max.name, Cond.static Lib.Math.max.name, Cond.code Lib.Math.max.name Lib.Math.max.code 2 (some .int), Cond.methodLink RX1 47 yX2_stackOf, Cond.instanceMethod yX2_stackOf, Cond.selects RX2 yX2_stackOf yX2_stackOf, Cond.initialized RX2, Cond.code yX2_stackOf cX2_stackOf 4 (some .int), Cond.fieldLink RX2 21 "Warren$State" "stacks" "[I", Cond.methodLink RX1 88 yX2_takeLife, Cond.instanceMethod yX2_takeLife, Cond.selects RX2 yX2_takeLife yX2_takeLife, Cond.code yX2_takeLife cX2_takeLife 5 (some .int), Cond.methodLink RX2 95 Lib.Math.min.name, Cond.methodLink RX2 86 yX2_trait, Cond.instanceMethod yX2_trait, Cond.selects RX2 yX2_trait yX2_trait, Cond.code yX2_trait cX2_trait 4 (some .int), Cond.fieldLink RX2 18 "Warren$State" "traits" "[I", Cond.methodLink RX2 109 yX2_putTrait]
def wsX1_wearOff_r2 : List Cond := [Cond.instanceMethod yX2_putTrait, Cond.selects RX2 yX2_putTrait yX2_putTrait, Cond.code yX2_putTrait cX2_putTrait 5 none, Cond.methodLink RX1 9 yX2_isAlive, Cond.instanceMethod yX2_isAlive, Cond.selects RX2 yX2_isAlive yX2_isAlive, Cond.code yX2_isAlive cX2_isAlive 2 (some .boolean), Cond.methodLink RX1 25 yX2_trait, Cond.methodLink RX1 55 yX2_putTrait, Cond.methodLink RX1 99 yX2_turnsOf, Cond.instanceMethod yX2_turnsOf, Cond.selects RX2 yX2_turnsOf yX2_turnsOf, Cond.code yX2_turnsOf cX2_turnsOf 4 (some .int), Cond.fieldLink RX2 24 "Warren$State" "turns" "[I", Cond.methodLink RX1 105 yX2_putEffect, Cond.instanceMethod yX2_putEffect, Cond.selects RX2 yX2_putEffect yX2_putEffect, Cond.code yX2_putEffect cX2_putEffect 6 none]
def wsX1_wearOff : List Cond := .code yX1_wearOff cX1_wearOff 4 none :: ((wsX1_wearOff_r1 ++ wsX1_wearOff_r2) ++ wsX20)
def wsX1_passTime : List Cond := .code yX1_passTime cX1_passTime 5 none :: ([.methodLink RX1 25 yX2_trait, .instanceMethod yX2_trait, .selects RX2 yX2_trait yX2_trait, .initialized RX2, .code yX2_trait cX2_trait 4 (some .int), .fieldLink RX2 18 "Warren$State" "traits" "[I", .methodLink RX1 55 yX2_putTrait, .instanceMethod yX2_putTrait, .selects RX2 yX2_putTrait yX2_putTrait, .code yX2_putTrait cX2_putTrait 5 none] ++ wsX20)
def wsX2_isKnown : List Cond := .code yX2_isKnown cX2_isKnown 3 (some .boolean) :: ([.fieldLink RX2 15 "Warren$State" "known" "[I"] ++ wsX20)
def wsX2_look_r1 : List Cond := [Cond.fieldLink RX2 15 "Warren$State" "known" "[I", Cond.methodLink RX2 86 yX2_trait, Cond.instanceMethod yX2_trait, Cond.selects RX2 yX2_trait yX2_trait, Cond.initialized RX2, Cond.code yX2_trait cX2_trait 4 (some .int), Cond.fieldLink RX2 18 "Warren$State" "traits" "[I", Cond.methodLink RX2 82 yX2_isKnown, Cond.instanceMethod yX2_isKnown, Cond.selects RX2 yX2_isKnown yX2_isKnown, Cond.code yX2_isKnown cX2_isKnown 3 (some .boolean), Cond.methodLink RX2 89 yX2_isSeenFrom, Cond.instanceMethod yX2_isSeenFrom, Cond.selects RX2 yX2_isSeenFrom yX2_isSeenFrom, Cond.code yX2_isSeenFrom cX2_isSeenFrom 8 (some .boolean), Cond.methodLink RX2 73 yX2_apart, Cond.static yX2_apart, Cond.code yX2_apart cX2_apart 4 (some .int), Cond.methodLink RX2 61 Lib.Math.abs.name, Cond.static Lib.Math.abs.name, Cond.initialized "java/lang/Math", Cond.code Lib.Math.abs.name Lib.Math.abs.code 1 (some .int), Cond.methodLink RX2 66 Lib.Math.max.name, Cond.static Lib.Math.max.name]
def wsX2_look_r2 : List Cond := [Cond.code Lib.Math.max.name Lib.Math.max.code 2 (some .int), Cond.methodLink RX2 76 yX2_nearest, Cond.static yX2_nearest, Cond.code yX2_nearest cX2_nearest 2 (some .int), Cond.methodLink RX2 70 yJ9_floorDiv_7cf53, Cond.static yJ9_floorDiv_7cf53, Cond.initialized RJ9, Cond.code yJ9_floorDiv_7cf53 cJ9_floorDiv_7cf53 3 (some .int), Cond.methodLink RX2 53 yX2_kindAt, Cond.instanceMethod yX2_kindAt, Cond.selects RX2 yX2_kindAt yX2_kindAt, Cond.code yX2_kindAt cX2_kindAt 2 (some .int), Cond.fieldLink RX2 9 "Warren$State" "kinds" "[I", Cond.static yX4_stopsSight, Cond.initialized RX4, Cond.code yX4_stopsSight cX4_stopsSight 1 (some .boolean)]
def wsX2_look : List Cond := .code yX2_look cX2_look 5 none :: ((wsX2_look_r1 ++ wsX2_look_r2) ++ wsX20)
def wsX1_perform_r1 : List Cond := [Cond.methodLink RX1 50 Lib.Math.min.name, Cond.static Lib.Math.min.name, Cond.initialized "java/lang/Math", Cond.code Lib.Math.min.name Lib.Math.min.code 2 (some .int), Cond.methodLink RX1 47 yX2_stackOf, Cond.instanceMethod yX2_stackOf, Cond.selects RX2 yX2_stackOf yX2_stackOf, Cond.initialized RX2, Cond.code yX2_stackOf cX2_stackOf 4 (some .int), Cond.fieldLink RX2 21 "Warren$State" "stacks" "[I", Cond.methodLink RX1 25 yX2_trait, Cond.instanceMethod yX2_trait, Cond.selects RX2 yX2_trait yX2_trait, Cond.code yX2_trait cX2_trait 4 (some .int), Cond.fieldLink RX2 18 "Warren$State" "traits" "[I", Cond.methodLink RX1 55 yX2_putTrait, Cond.instanceMethod yX2_putTrait, Cond.selects RX2 yX2_putTrait yX2_putTrait, Cond.code yX2_putTrait cX2_putTrait 5 none, Cond.methodLink RX1 15 yX1_cellTowards, Cond.static yX1_cellTowards, Cond.initialized RX1, Cond.code yX1_cellTowards cX1_cellTowards 5 (some .int), Cond.methodLink RX1 59 yX1_go]
def wsX1_perform_r2 : List Cond := [Cond.static yX1_go, Cond.code yX1_go cX1_go 4 (some .int), Cond.methodLink RX1 36 yX2_whoIsOn, Cond.instanceMethod yX2_whoIsOn, Cond.selects RX2 yX2_whoIsOn yX2_whoIsOn, Cond.code yX2_whoIsOn cX2_whoIsOn 3 (some .int), Cond.fieldLink RX2 39 "Warren$State" "beings" "I", Cond.methodLink RX2 86 yX2_trait, Cond.methodLink RX1 85 yX2_hitOf, Cond.instanceMethod yX2_hitOf, Cond.selects RX2 yX2_hitOf yX2_hitOf, Cond.code yX2_hitOf cX2_hitOf 5 (some .int), Cond.methodLink RX2 66 Lib.Math.max.name, Cond.static Lib.Math.max.name, Cond.code Lib.Math.max.name Lib.Math.max.code 2 (some .int), Cond.methodLink RX2 117 yX2_isAlive, Cond.instanceMethod yX2_isAlive, Cond.selects RX2 yX2_isAlive yX2_isAlive, Cond.code yX2_isAlive cX2_isAlive 2 (some .boolean), Cond.methodLink RX2 92 yX2_stackOf, Cond.methodLink RX1 88 yX2_takeLife, Cond.instanceMethod yX2_takeLife, Cond.selects RX2 yX2_takeLife yX2_takeLife, Cond.code yX2_takeLife cX2_takeLife 5 (some .int)]
def wsX1_perform_r3 : List Cond := [Cond.methodLink RX2 95 Lib.Math.min.name, Cond.methodLink RX2 109 yX2_putTrait, Cond.methodLink RX1 33 yX2_kindAt, Cond.instanceMethod yX2_kindAt, Cond.selects RX2 yX2_kindAt yX2_kindAt, Cond.code yX2_kindAt cX2_kindAt 2 (some .int), Cond.fieldLink RX2 9 "Warren$State" "kinds" "[I", Cond.methodLink RX1 91 yX2_putKind, Cond.instanceMethod yX2_putKind, Cond.selects RX2 yX2_putKind yX2_putKind, Cond.code yX2_putKind cX2_putKind 3 none, Cond.methodLink RX1 62 yX1_conjure, Cond.static yX1_conjure, Cond.code yX1_conjure cX1_conjure 3 none, Cond.methodLink RX1 29 yX2_targetOf, Cond.instanceMethod yX2_targetOf, Cond.selects RX2 yX2_targetOf yX2_targetOf, Cond.code yX2_targetOf cX2_targetOf 7 (some .int), Cond.methodLink RX2 120 yX2_isFoe, Cond.instanceMethod yX2_isFoe, Cond.selects RX2 yX2_isFoe yX2_isFoe, Cond.code yX2_isFoe cX2_isFoe 3 (some .boolean), Cond.methodLink RX2 73 yX2_apart, Cond.static yX2_apart]
def wsX1_perform_r4 : List Cond := [Cond.code yX2_apart cX2_apart 4 (some .int), Cond.methodLink RX2 61 Lib.Math.abs.name, Cond.static Lib.Math.abs.name, Cond.code Lib.Math.abs.name Lib.Math.abs.code 1 (some .int), Cond.methodLink RX2 89 yX2_isSeenFrom, Cond.instanceMethod yX2_isSeenFrom, Cond.selects RX2 yX2_isSeenFrom yX2_isSeenFrom, Cond.code yX2_isSeenFrom cX2_isSeenFrom 8 (some .boolean), Cond.methodLink RX2 76 yX2_nearest, Cond.static yX2_nearest, Cond.code yX2_nearest cX2_nearest 2 (some .int), Cond.methodLink RX2 70 yJ9_floorDiv_7cf53, Cond.static yJ9_floorDiv_7cf53, Cond.initialized RJ9, Cond.code yJ9_floorDiv_7cf53 cJ9_floorDiv_7cf53 3 (some .int), Cond.methodLink RX2 53 yX2_kindAt, Cond.static yX4_stopsSight, Cond.initialized RX4, Cond.code yX4_stopsSight cX4_stopsSight 1 (some .boolean), Cond.methodLink RX1 95 yX2_addEffect, Cond.instanceMethod yX2_addEffect, Cond.selects RX2 yX2_addEffect yX2_addEffect, Cond.code yX2_addEffect cX2_addEffect 5 none, Cond.methodLink RX2 98 yX2_turnsOf]
def wsX1_perform_r5 : List Cond := [Cond.instanceMethod yX2_turnsOf, Cond.selects RX2 yX2_turnsOf yX2_turnsOf, Cond.code yX2_turnsOf cX2_turnsOf 4 (some .int), Cond.fieldLink RX2 24 "Warren$State" "turns" "[I", Cond.methodLink RX2 101 yX2_putEffect, Cond.instanceMethod yX2_putEffect, Cond.selects RX2 yX2_putEffect yX2_putEffect, Cond.code yX2_putEffect cX2_putEffect 6 none, Cond.methodLink RX1 70 yX1_wearOff, Cond.static yX1_wearOff, Cond.code yX1_wearOff cX1_wearOff 4 none, Cond.methodLink RX1 102 Lib.Math.max.name, Cond.methodLink RX1 9 yX2_isAlive, Cond.methodLink RX1 99 yX2_turnsOf, Cond.methodLink RX1 105 yX2_putEffect, Cond.methodLink RX1 74 yX1_passTime, Cond.static yX1_passTime, Cond.code yX1_passTime cX1_passTime 5 none, Cond.methodLink RX1 78 yX2_look, Cond.instanceMethod yX2_look, Cond.selects RX2 yX2_look yX2_look, Cond.code yX2_look cX2_look 5 none, Cond.fieldLink RX2 15 "Warren$State" "known" "[I", Cond.methodLink RX2 82 yX2_isKnown]
def wsX1_perform_r6 : List Cond := [Cond.instanceMethod yX2_isKnown, Cond.selects RX2 yX2_isKnown yX2_isKnown, Cond.code yX2_isKnown cX2_isKnown 3 (some .boolean)]
def wsX1_perform : List Cond := .code yX1_perform cX1_perform 5 (some .int) :: ((wsX1_perform_r1 ++ (wsX1_perform_r2 ++ (wsX1_perform_r3 ++ (wsX1_perform_r4 ++ (wsX1_perform_r5 ++ wsX1_perform_r6))))) ++ wsX20)
def wsX2_init : List Cond := .code yX2_init cX2_init 1 none :: ([.methodLink RX2 3 objectInit, .instanceMethod objectInit, .code objectInit ⟨#[0xb1]⟩ 1 none, .arrayClass .int, .fieldLink RX2 9 "Warren$State" "kinds" "[I", .fieldLink RX2 15 "Warren$State" "known" "[I", .fieldLink RX2 18 "Warren$State" "traits" "[I", .fieldLink RX2 21 "Warren$State" "stacks" "[I", .fieldLink RX2 24 "Warren$State" "turns" "[I", .methodLink RX2 27 yJ7_fill_53178, .static yJ7_fill_53178, .initialized RJ7, .code yJ7_fill_53178 cJ7_fill_53178 4 none] ++ wsX20)
def wsX2_copyFrom : List Cond := .code yX2_copyFrom cX2_copyFrom 2 none :: ([.fieldLink RX2 9 "Warren$State" "kinds" "[I", .methodLink RX2 33 arraycopyName, .native arraycopyName, .static arraycopyName, .initialized "java/lang/System", .fieldLink RX2 15 "Warren$State" "known" "[I", .fieldLink RX2 18 "Warren$State" "traits" "[I", .fieldLink RX2 21 "Warren$State" "stacks" "[I", .fieldLink RX2 24 "Warren$State" "turns" "[I", .fieldLink RX2 39 "Warren$State" "beings" "I", .fieldLink RX2 43 "Warren$State" "actions" "I", .fieldLink RX2 46 "Warren$State" "hits" "I"] ++ wsX20)
def wsX4_isEdge : List Cond := .code yX4_isEdge cX4_isEdge 3 (some .boolean) :: ([])
def wsX2_digRoom : List Cond := .code yX2_digRoom cX2_digRoom 9 (some .int) :: ([.static yX4_isEdge, .initialized RX4, .code yX4_isEdge cX4_isEdge 3 (some .boolean), .methodLink RX2 53 yX2_kindAt, .instanceMethod yX2_kindAt, .selects RX2 yX2_kindAt yX2_kindAt, .initialized RX2, .code yX2_kindAt cX2_kindAt 2 (some .int), .fieldLink RX2 9 "Warren$State" "kinds" "[I", .methodLink RX2 57 yX2_putKind, .instanceMethod yX2_putKind, .selects RX2 yX2_putKind yX2_putKind, .code yX2_putKind cX2_putKind 3 none] ++ wsX20)
def wsX2_knownCells : List Cond := .code yX2_knownCells cX2_knownCells 4 (some .int) :: ([.fieldLink RX2 15 "Warren$State" "known" "[I", .methodLink RX2 82 yX2_isKnown, .instanceMethod yX2_isKnown, .selects RX2 yX2_isKnown yX2_isKnown, .initialized RX2, .code yX2_isKnown cX2_isKnown 3 (some .boolean)] ++ wsX20)
def wsX2_isBeing : List Cond := .code yX2_isBeing cX2_isBeing 2 (some .boolean) :: ([.fieldLink RX2 39 "Warren$State" "beings" "I"] ++ wsX20)
def wsX2_hasRoom : List Cond := .code yX2_hasRoom cX2_hasRoom 1 (some .boolean) :: ([.fieldLink RX2 39 "Warren$State" "beings" "I"] ++ wsX20)
def wsX2_whoseTurn : List Cond := .code yX2_whoseTurn cX2_whoseTurn 3 (some .int) :: ([.fieldLink RX2 39 "Warren$State" "beings" "I", .methodLink RX2 117 yX2_isAlive, .instanceMethod yX2_isAlive, .selects RX2 yX2_isAlive yX2_isAlive, .initialized RX2, .code yX2_isAlive cX2_isAlive 2 (some .boolean), .methodLink RX2 86 yX2_trait, .instanceMethod yX2_trait, .selects RX2 yX2_trait yX2_trait, .code yX2_trait cX2_trait 4 (some .int), .fieldLink RX2 18 "Warren$State" "traits" "[I"] ++ wsX20)
def wsX2_addBeing_r1 : List Cond := [Cond.fieldLink RX2 39 "Warren$State" "beings" "I", Cond.methodLink RX2 105 yX2_whoseTurn, Cond.instanceMethod yX2_whoseTurn, Cond.selects RX2 yX2_whoseTurn yX2_whoseTurn, Cond.initialized RX2, Cond.code yX2_whoseTurn cX2_whoseTurn 3 (some .int), Cond.methodLink RX2 117 yX2_isAlive, Cond.instanceMethod yX2_isAlive, Cond.selects RX2 yX2_isAlive yX2_isAlive, Cond.code yX2_isAlive cX2_isAlive 2 (some .boolean), Cond.methodLink RX2 86 yX2_trait, Cond.instanceMethod yX2_trait, Cond.selects RX2 yX2_trait yX2_trait, Cond.code yX2_trait cX2_trait 4 (some .int), Cond.fieldLink RX2 18 "Warren$State" "traits" "[I", Cond.methodLink RX2 109 yX2_putTrait, Cond.instanceMethod yX2_putTrait, Cond.selects RX2 yX2_putTrait yX2_putTrait, Cond.code yX2_putTrait cX2_putTrait 5 none, Cond.methodLink RX2 101 yX2_putEffect, Cond.instanceMethod yX2_putEffect, Cond.selects RX2 yX2_putEffect yX2_putEffect, Cond.code yX2_putEffect cX2_putEffect 6 none, Cond.fieldLink RX2 21 "Warren$State" "stacks" "[I"]
def wsX2_addBeing_r2 : List Cond := [Cond.fieldLink RX2 24 "Warren$State" "turns" "[I", Cond.methodLink RX2 113 yX2_look, Cond.instanceMethod yX2_look, Cond.selects RX2 yX2_look yX2_look, Cond.code yX2_look cX2_look 5 none, Cond.fieldLink RX2 15 "Warren$State" "known" "[I", Cond.methodLink RX2 82 yX2_isKnown, Cond.instanceMethod yX2_isKnown, Cond.selects RX2 yX2_isKnown yX2_isKnown, Cond.code yX2_isKnown cX2_isKnown 3 (some .boolean), Cond.methodLink RX2 89 yX2_isSeenFrom, Cond.instanceMethod yX2_isSeenFrom, Cond.selects RX2 yX2_isSeenFrom yX2_isSeenFrom, Cond.code yX2_isSeenFrom cX2_isSeenFrom 8 (some .boolean), Cond.methodLink RX2 73 yX2_apart, Cond.static yX2_apart, Cond.code yX2_apart cX2_apart 4 (some .int), Cond.methodLink RX2 61 Lib.Math.abs.name, Cond.static Lib.Math.abs.name, Cond.initialized "java/lang/Math", Cond.code Lib.Math.abs.name Lib.Math.abs.code 1 (some .int), Cond.methodLink RX2 66 Lib.Math.max.name, Cond.static Lib.Math.max.name, Cond.code Lib.Math.max.name Lib.Math.max.code 2 (some .int)]
def wsX2_addBeing_r3 : List Cond := [Cond.methodLink RX2 76 yX2_nearest, Cond.static yX2_nearest, Cond.code yX2_nearest cX2_nearest 2 (some .int), Cond.methodLink RX2 70 yJ9_floorDiv_7cf53, Cond.static yJ9_floorDiv_7cf53, Cond.initialized RJ9, Cond.code yJ9_floorDiv_7cf53 cJ9_floorDiv_7cf53 3 (some .int), Cond.methodLink RX2 53 yX2_kindAt, Cond.instanceMethod yX2_kindAt, Cond.selects RX2 yX2_kindAt yX2_kindAt, Cond.code yX2_kindAt cX2_kindAt 2 (some .int), Cond.fieldLink RX2 9 "Warren$State" "kinds" "[I", Cond.static yX4_stopsSight, Cond.initialized RX4, Cond.code yX4_stopsSight cX4_stopsSight 1 (some .boolean)]
def wsX2_addBeing : List Cond := .code yX2_addBeing cX2_addBeing 7 (some .int) :: ((wsX2_addBeing_r1 ++ (wsX2_addBeing_r2 ++ wsX2_addBeing_r3)) ++ wsX20)
def wsX2_living : List Cond := .code yX2_living cX2_living 4 (some .int) :: ([.fieldLink RX2 39 "Warren$State" "beings" "I", .methodLink RX2 86 yX2_trait, .instanceMethod yX2_trait, .selects RX2 yX2_trait yX2_trait, .initialized RX2, .code yX2_trait cX2_trait 4 (some .int), .fieldLink RX2 18 "Warren$State" "traits" "[I", .methodLink RX2 117 yX2_isAlive, .instanceMethod yX2_isAlive, .selects RX2 yX2_isAlive yX2_isAlive, .code yX2_isAlive cX2_isAlive 2 (some .boolean)] ++ wsX20)
def wsX2_lifeOf : List Cond := .code yX2_lifeOf cX2_lifeOf 4 (some .int) :: ([.fieldLink RX2 39 "Warren$State" "beings" "I", .methodLink RX2 86 yX2_trait, .instanceMethod yX2_trait, .selects RX2 yX2_trait yX2_trait, .initialized RX2, .code yX2_trait cX2_trait 4 (some .int), .fieldLink RX2 18 "Warren$State" "traits" "[I"] ++ wsX20)
def wsX2_watchersOf_r1 : List Cond := [Cond.fieldLink RX2 39 "Warren$State" "beings" "I", Cond.methodLink RX2 117 yX2_isAlive, Cond.instanceMethod yX2_isAlive, Cond.selects RX2 yX2_isAlive yX2_isAlive, Cond.initialized RX2, Cond.code yX2_isAlive cX2_isAlive 2 (some .boolean), Cond.methodLink RX2 86 yX2_trait, Cond.instanceMethod yX2_trait, Cond.selects RX2 yX2_trait yX2_trait, Cond.code yX2_trait cX2_trait 4 (some .int), Cond.fieldLink RX2 18 "Warren$State" "traits" "[I", Cond.methodLink RX2 89 yX2_isSeenFrom, Cond.instanceMethod yX2_isSeenFrom, Cond.selects RX2 yX2_isSeenFrom yX2_isSeenFrom, Cond.code yX2_isSeenFrom cX2_isSeenFrom 8 (some .boolean), Cond.methodLink RX2 73 yX2_apart, Cond.static yX2_apart, Cond.code yX2_apart cX2_apart 4 (some .int), Cond.methodLink RX2 61 Lib.Math.abs.name, Cond.static Lib.Math.abs.name, Cond.initialized "java/lang/Math", Cond.code Lib.Math.abs.name Lib.Math.abs.code 1 (some .int), Cond.methodLink RX2 66 Lib.Math.max.name, Cond.static Lib.Math.max.name]
def wsX2_watchersOf_r2 : List Cond := [Cond.code Lib.Math.max.name Lib.Math.max.code 2 (some .int), Cond.methodLink RX2 76 yX2_nearest, Cond.static yX2_nearest, Cond.code yX2_nearest cX2_nearest 2 (some .int), Cond.methodLink RX2 70 yJ9_floorDiv_7cf53, Cond.static yJ9_floorDiv_7cf53, Cond.initialized RJ9, Cond.code yJ9_floorDiv_7cf53 cJ9_floorDiv_7cf53 3 (some .int), Cond.methodLink RX2 53 yX2_kindAt, Cond.instanceMethod yX2_kindAt, Cond.selects RX2 yX2_kindAt yX2_kindAt, Cond.code yX2_kindAt cX2_kindAt 2 (some .int), Cond.fieldLink RX2 9 "Warren$State" "kinds" "[I", Cond.static yX4_stopsSight, Cond.initialized RX4, Cond.code yX4_stopsSight cX4_stopsSight 1 (some .boolean)]
def wsX2_watchersOf : List Cond := .code yX2_watchersOf cX2_watchersOf 5 (some .int) :: ((wsX2_watchersOf_r1 ++ wsX2_watchersOf_r2) ++ wsX20)
def wsJxa1e45_init_da8c8 : List Cond := .code yJxa1e45_init_da8c8 cJxa1e45_init_da8c8 1 none :: ([.methodLink RJxa1e45 1 objectInit, .instanceMethod objectInit, .code objectInit ⟨#[0xb1]⟩ 1 none])
def wsJxc12de_init_da8c8 : List Cond := .code yJxc12de_init_da8c8 cJxc12de_init_da8c8 1 none :: ([.fieldLink RJxc12de 7 "java/util/AbstractList" "modCount" "I", .methodLink RJxc12de 1 yJxa1e45_init_da8c8, .instanceMethod yJxa1e45_init_da8c8, .initialized RJxa1e45, .code yJxa1e45_init_da8c8 cJxa1e45_init_da8c8 1 none, .methodLink RJxa1e45 1 objectInit, .instanceMethod objectInit, .code objectInit ⟨#[0xb1]⟩ 1 none] ++ wsJx4a65c0)
def wsJx4a65c_init_da8c8 : List Cond := .code yJx4a65c_init_da8c8 cJx4a65c_init_da8c8 1 none :: ([.fieldLink RJx4a65c 39 "java/util/ArrayList" "DEFAULTCAPACITY_EMPTY_ELEMENTDATA" "[Ljava/lang/Object;", .fieldLink RJx4a65c 9 "java/util/ArrayList" "elementData" "[Ljava/lang/Object;", .methodLink RJx4a65c 1 yJxc12de_init_da8c8, .instanceMethod yJxc12de_init_da8c8, .initialized RJxc12de, .code yJxc12de_init_da8c8 cJxc12de_init_da8c8 1 none, .fieldLink RJxc12de 7 "java/util/AbstractList" "modCount" "I", .methodLink RJxc12de 1 yJxa1e45_init_da8c8, .instanceMethod yJxa1e45_init_da8c8, .initialized RJxa1e45, .code yJxa1e45_init_da8c8 cJxa1e45_init_da8c8 1 none, .methodLink RJxa1e45 1 objectInit, .instanceMethod objectInit, .code objectInit ⟨#[0xb1]⟩ 1 none] ++ wsJx4a65c0)
def wsX4_init_r1 : List Cond := [Cond.methodLink RX4 3 objectInit, Cond.instanceMethod objectInit, Cond.code objectInit ⟨#[0xb1]⟩ 1 none, Cond.classLink RX4 9 RX2, Cond.instantiable RX2 8, Cond.initialized RX2, Cond.fieldLink RX4 12 "Warren" "state" "LWarren$State;", Cond.fieldLink RX4 16 "Warren" "trial" "LWarren$State;", Cond.classLink RX4 19 RJx4a65c, Cond.instantiable RJx4a65c 3, Cond.initialized RJx4a65c, Cond.fieldLink RX4 22 "Warren" "saved" "Ljava/util/List;", Cond.classLink RX4 26 RX0, Cond.instantiable RX0 2, Cond.initialized RX0, Cond.fieldLink RX4 29 "Warren" "mind" "LWarren$Mind;", Cond.methodLink RX4 11 yX2_init, Cond.instanceMethod yX2_init, Cond.code yX2_init cX2_init 1 none, Cond.methodLink RX2 3 objectInit, Cond.arrayClass .int, Cond.fieldLink RX2 9 "Warren$State" "kinds" "[I", Cond.fieldLink RX2 15 "Warren$State" "known" "[I", Cond.fieldLink RX2 18 "Warren$State" "traits" "[I"]
def wsX4_init_r2 : List Cond := [Cond.fieldLink RX2 21 "Warren$State" "stacks" "[I", Cond.fieldLink RX2 24 "Warren$State" "turns" "[I", Cond.methodLink RX2 27 yJ7_fill_53178, Cond.static yJ7_fill_53178, Cond.initialized RJ7, Cond.code yJ7_fill_53178 cJ7_fill_53178 4 none, Cond.methodLink RX4 21 yJx4a65c_init_da8c8, Cond.instanceMethod yJx4a65c_init_da8c8, Cond.code yJx4a65c_init_da8c8 cJx4a65c_init_da8c8 1 none, Cond.fieldLink RJx4a65c 39 "java/util/ArrayList" "DEFAULTCAPACITY_EMPTY_ELEMENTDATA" "[Ljava/lang/Object;", Cond.fieldLink RJx4a65c 9 "java/util/ArrayList" "elementData" "[Ljava/lang/Object;", Cond.methodLink RJx4a65c 1 yJxc12de_init_da8c8, Cond.instanceMethod yJxc12de_init_da8c8, Cond.initialized RJxc12de, Cond.code yJxc12de_init_da8c8 cJxc12de_init_da8c8 1 none, Cond.fieldLink RJxc12de 7 "java/util/AbstractList" "modCount" "I", Cond.methodLink RJxc12de 1 yJxa1e45_init_da8c8, Cond.instanceMethod yJxa1e45_init_da8c8, Cond.initialized RJxa1e45, Cond.code yJxa1e45_init_da8c8 cJxa1e45_init_da8c8 1 none, Cond.methodLink RJxa1e45 1 objectInit, Cond.instanceMethod yX0_init, Cond.code yX0_init cX0_init 1 none, Cond.methodLink RX0 3 objectInit]
def wsX4_init_r3 : List Cond := [Cond.classLink RX0 9 RX3, Cond.instantiable RX3 3, Cond.initialized RX3, Cond.fieldLink RX0 12 "Warren$Mind" "ways" "LWarren$Ways;", Cond.fieldLink RX0 18 "Warren$Mind" "worths" "[I", Cond.instanceMethod yX3_init, Cond.code yX3_init cX3_init 1 none, Cond.methodLink RX3 3 objectInit, Cond.fieldLink RX3 9 "Warren$Ways" "lengths" "[I", Cond.fieldLink RX3 15 "Warren$Ways" "queue" "[I"]
def wsX4_init : List Cond := .code yX4_init cX4_init 1 none :: ((wsX4_init_r1 ++ (wsX4_init_r2 ++ wsX4_init_r3)) ++ wsX20 ++ wsX40 ++ wsJx4a65c0 ++ wsX00 ++ wsX30)
def wsX4_isWithin : List Cond := .code yX4_isWithin cX4_isWithin 3 (some .boolean) :: ([])
def wsX4_dig : List Cond := .code yX4_dig cX4_dig 5 (some .int) :: ([.classLink RX4 37 "java/lang/IllegalArgumentException", .initialized "java/lang/IllegalArgumentException", .fieldLink RX4 12 "Warren" "state" "LWarren$State;", .methodLink RX4 33 yX4_isWithin, .static yX4_isWithin, .initialized RX4, .code yX4_isWithin cX4_isWithin 3 (some .boolean), .methodLink RX4 44 yX2_digRoom, .instanceMethod yX2_digRoom, .selects RX2 yX2_digRoom yX2_digRoom, .initialized RX2, .code yX2_digRoom cX2_digRoom 9 (some .int), .static yX4_isEdge, .code yX4_isEdge cX4_isEdge 3 (some .boolean), .methodLink RX2 53 yX2_kindAt, .instanceMethod yX2_kindAt, .selects RX2 yX2_kindAt yX2_kindAt, .code yX2_kindAt cX2_kindAt 2 (some .int), .fieldLink RX2 9 "Warren$State" "kinds" "[I", .methodLink RX2 57 yX2_putKind, .instanceMethod yX2_putKind, .selects RX2 yX2_putKind yX2_putKind, .code yX2_putKind cX2_putKind 3 none] ++ wsX40 ++ wsX20 ++ (vx_atS RX4 41 "java/lang/IllegalArgumentException" ["java/lang/RuntimeException", "java/lang/Exception"]).filter goodWord)
def wsX4_isCell : List Cond := .code yX4_isCell cX4_isCell 1 (some .boolean) :: ([])
def wsX4_set_r1 : List Cond := [Cond.classLink RX4 52 "java/lang/IndexOutOfBoundsException", Cond.initialized "java/lang/IndexOutOfBoundsException", Cond.classLink RX4 37 "java/lang/IllegalArgumentException", Cond.initialized "java/lang/IllegalArgumentException", Cond.classLink RX4 69 "java/lang/IllegalStateException", Cond.initialized "java/lang/IllegalStateException", Cond.fieldLink RX4 12 "Warren" "state" "LWarren$State;", Cond.methodLink RX4 48 yX4_isCell, Cond.static yX4_isCell, Cond.initialized RX4, Cond.code yX4_isCell cX4_isCell 1 (some .boolean), Cond.methodLink RX4 33 yX4_isWithin, Cond.static yX4_isWithin, Cond.code yX4_isWithin cX4_isWithin 3 (some .boolean), Cond.methodLink RX4 57 yX4_isEdge, Cond.static yX4_isEdge, Cond.code yX4_isEdge cX4_isEdge 3 (some .boolean), Cond.methodLink RX4 62 yX4_stopsSight, Cond.static yX4_stopsSight, Cond.code yX4_stopsSight cX4_stopsSight 1 (some .boolean), Cond.methodLink RX4 65 yX2_whoIsOn, Cond.instanceMethod yX2_whoIsOn, Cond.selects RX2 yX2_whoIsOn yX2_whoIsOn, Cond.initialized RX2]
def wsX4_set_r2 : List Cond := [Cond.code yX2_whoIsOn cX2_whoIsOn 3 (some .int), Cond.fieldLink RX2 39 "Warren$State" "beings" "I", Cond.methodLink RX2 86 yX2_trait, Cond.instanceMethod yX2_trait, Cond.selects RX2 yX2_trait yX2_trait, Cond.code yX2_trait cX2_trait 4 (some .int), Cond.fieldLink RX2 18 "Warren$State" "traits" "[I", Cond.methodLink RX4 74 yX2_kindAt, Cond.instanceMethod yX2_kindAt, Cond.selects RX2 yX2_kindAt yX2_kindAt, Cond.code yX2_kindAt cX2_kindAt 2 (some .int), Cond.fieldLink RX2 9 "Warren$State" "kinds" "[I", Cond.methodLink RX4 77 yX2_putKind, Cond.instanceMethod yX2_putKind, Cond.selects RX2 yX2_putKind yX2_putKind, Cond.code yX2_putKind cX2_putKind 3 none]
def wsX4_set : List Cond := .code yX4_set cX4_set 4 (some .int) :: ((wsX4_set_r1 ++ wsX4_set_r2) ++ wsX40 ++ wsX20 ++ (vx_atS RX4 56 "java/lang/IndexOutOfBoundsException" ["java/lang/RuntimeException", "java/lang/Exception"]).filter goodWord ++ (vx_atS RX4 41 "java/lang/IllegalArgumentException" ["java/lang/RuntimeException", "java/lang/Exception"]).filter goodWord ++ (vx_atS RX4 73 "java/lang/IllegalStateException" ["java/lang/RuntimeException", "java/lang/Exception"]).filter goodWord)
def wsX4_cell : List Cond := .code yX4_cell cX4_cell 2 (some .int) :: ([.classLink RX4 52 "java/lang/IndexOutOfBoundsException", .initialized "java/lang/IndexOutOfBoundsException", .fieldLink RX4 12 "Warren" "state" "LWarren$State;", .methodLink RX4 48 yX4_isCell, .static yX4_isCell, .initialized RX4, .code yX4_isCell cX4_isCell 1 (some .boolean), .methodLink RX4 74 yX2_kindAt, .instanceMethod yX2_kindAt, .selects RX2 yX2_kindAt yX2_kindAt, .initialized RX2, .code yX2_kindAt cX2_kindAt 2 (some .int), .fieldLink RX2 9 "Warren$State" "kinds" "[I"] ++ wsX40 ++ wsX20 ++ (vx_atS RX4 56 "java/lang/IndexOutOfBoundsException" ["java/lang/RuntimeException", "java/lang/Exception"]).filter goodWord)
def wsX4_on : List Cond := .code yX4_on cX4_on 2 (some .int) :: ([.classLink RX4 52 "java/lang/IndexOutOfBoundsException", .initialized "java/lang/IndexOutOfBoundsException", .fieldLink RX4 12 "Warren" "state" "LWarren$State;", .methodLink RX4 48 yX4_isCell, .static yX4_isCell, .initialized RX4, .code yX4_isCell cX4_isCell 1 (some .boolean), .methodLink RX4 65 yX2_whoIsOn, .instanceMethod yX2_whoIsOn, .selects RX2 yX2_whoIsOn yX2_whoIsOn, .initialized RX2, .code yX2_whoIsOn cX2_whoIsOn 3 (some .int), .fieldLink RX2 39 "Warren$State" "beings" "I", .methodLink RX2 86 yX2_trait, .instanceMethod yX2_trait, .selects RX2 yX2_trait yX2_trait, .code yX2_trait cX2_trait 4 (some .int), .fieldLink RX2 18 "Warren$State" "traits" "[I"] ++ wsX40 ++ wsX20 ++ (vx_atS RX4 56 "java/lang/IndexOutOfBoundsException" ["java/lang/RuntimeException", "java/lang/Exception"]).filter goodWord)
def wsX4_sees_r1 : List Cond := [Cond.classLink RX4 52 "java/lang/IndexOutOfBoundsException", Cond.initialized "java/lang/IndexOutOfBoundsException", Cond.fieldLink RX4 12 "Warren" "state" "LWarren$State;", Cond.methodLink RX4 48 yX4_isCell, Cond.static yX4_isCell, Cond.initialized RX4, Cond.code yX4_isCell cX4_isCell 1 (some .boolean), Cond.methodLink RX4 81 yX2_isSeenFrom, Cond.instanceMethod yX2_isSeenFrom, Cond.selects RX2 yX2_isSeenFrom yX2_isSeenFrom, Cond.initialized RX2, Cond.code yX2_isSeenFrom cX2_isSeenFrom 8 (some .boolean), Cond.methodLink RX2 73 yX2_apart, Cond.static yX2_apart, Cond.code yX2_apart cX2_apart 4 (some .int), Cond.methodLink RX2 61 Lib.Math.abs.name, Cond.static Lib.Math.abs.name, Cond.initialized "java/lang/Math", Cond.code Lib.Math.abs.name Lib.Math.abs.code 1 (some .int), Cond.methodLink RX2 66 Lib.Math.max.name, Cond.static Lib.Math.max.name, Cond.code Lib.Math.max.name Lib.Math.max.code 2 (some .int), Cond.methodLink RX2 76 yX2_nearest, Cond.static yX2_nearest]
def wsX4_sees_r2 : List Cond := [Cond.code yX2_nearest cX2_nearest 2 (some .int), Cond.methodLink RX2 70 yJ9_floorDiv_7cf53, Cond.static yJ9_floorDiv_7cf53, Cond.initialized RJ9, Cond.code yJ9_floorDiv_7cf53 cJ9_floorDiv_7cf53 3 (some .int), Cond.methodLink RX2 53 yX2_kindAt, Cond.instanceMethod yX2_kindAt, Cond.selects RX2 yX2_kindAt yX2_kindAt, Cond.code yX2_kindAt cX2_kindAt 2 (some .int), Cond.fieldLink RX2 9 "Warren$State" "kinds" "[I", Cond.static yX4_stopsSight, Cond.code yX4_stopsSight cX4_stopsSight 1 (some .boolean)]
def wsX4_sees : List Cond := .code yX4_sees cX4_sees 3 (some .boolean) :: ((wsX4_sees_r1 ++ wsX4_sees_r2) ++ wsX40 ++ wsX20 ++ (vx_atS RX4 56 "java/lang/IndexOutOfBoundsException" ["java/lang/RuntimeException", "java/lang/Exception"]).filter goodWord)
def wsX4_isSide : List Cond := .code yX4_isSide cX4_isSide 1 (some .boolean) :: ([])
def wsX4_knows : List Cond := .code yX4_knows cX4_knows 3 (some .boolean) :: ([.classLink RX4 37 "java/lang/IllegalArgumentException", .initialized "java/lang/IllegalArgumentException", .classLink RX4 52 "java/lang/IndexOutOfBoundsException", .initialized "java/lang/IndexOutOfBoundsException", .fieldLink RX4 12 "Warren" "state" "LWarren$State;", .methodLink RX4 85 yX4_isSide, .static yX4_isSide, .initialized RX4, .code yX4_isSide cX4_isSide 1 (some .boolean), .methodLink RX4 48 yX4_isCell, .static yX4_isCell, .code yX4_isCell cX4_isCell 1 (some .boolean), .methodLink RX4 90 yX2_isKnown, .instanceMethod yX2_isKnown, .selects RX2 yX2_isKnown yX2_isKnown, .initialized RX2, .code yX2_isKnown cX2_isKnown 3 (some .boolean), .fieldLink RX2 15 "Warren$State" "known" "[I"] ++ wsX40 ++ wsX20 ++ (vx_atS RX4 41 "java/lang/IllegalArgumentException" ["java/lang/RuntimeException", "java/lang/Exception"]).filter goodWord ++ (vx_atS RX4 56 "java/lang/IndexOutOfBoundsException" ["java/lang/RuntimeException", "java/lang/Exception"]).filter goodWord)
def wsX4_come_r1 : List Cond := [Cond.classLink RX4 52 "java/lang/IndexOutOfBoundsException", Cond.initialized "java/lang/IndexOutOfBoundsException", Cond.classLink RX4 37 "java/lang/IllegalArgumentException", Cond.initialized "java/lang/IllegalArgumentException", Cond.classLink RX4 69 "java/lang/IllegalStateException", Cond.initialized "java/lang/IllegalStateException", Cond.fieldLink RX4 12 "Warren" "state" "LWarren$State;", Cond.methodLink RX4 48 yX4_isCell, Cond.static yX4_isCell, Cond.initialized RX4, Cond.code yX4_isCell cX4_isCell 1 (some .boolean), Cond.methodLink RX4 85 yX4_isSide, Cond.static yX4_isSide, Cond.code yX4_isSide cX4_isSide 1 (some .boolean), Cond.methodLink RX4 33 yX4_isWithin, Cond.static yX4_isWithin, Cond.code yX4_isWithin cX4_isWithin 3 (some .boolean), Cond.methodLink RX4 74 yX2_kindAt, Cond.instanceMethod yX2_kindAt, Cond.selects RX2 yX2_kindAt yX2_kindAt, Cond.initialized RX2, Cond.code yX2_kindAt cX2_kindAt 2 (some .int), Cond.fieldLink RX2 9 "Warren$State" "kinds" "[I", Cond.methodLink RX4 62 yX4_stopsSight]
def wsX4_come_r2 : List Cond := [Cond.static yX4_stopsSight, Cond.code yX4_stopsSight cX4_stopsSight 1 (some .boolean), Cond.methodLink RX4 65 yX2_whoIsOn, Cond.instanceMethod yX2_whoIsOn, Cond.selects RX2 yX2_whoIsOn yX2_whoIsOn, Cond.code yX2_whoIsOn cX2_whoIsOn 3 (some .int), Cond.fieldLink RX2 39 "Warren$State" "beings" "I", Cond.methodLink RX2 86 yX2_trait, Cond.instanceMethod yX2_trait, Cond.selects RX2 yX2_trait yX2_trait, Cond.code yX2_trait cX2_trait 4 (some .int), Cond.fieldLink RX2 18 "Warren$State" "traits" "[I", Cond.methodLink RX4 95 yX2_hasRoom, Cond.instanceMethod yX2_hasRoom, Cond.selects RX2 yX2_hasRoom yX2_hasRoom, Cond.code yX2_hasRoom cX2_hasRoom 1 (some .boolean), Cond.methodLink RX4 101 yX2_addBeing, Cond.instanceMethod yX2_addBeing, Cond.selects RX2 yX2_addBeing yX2_addBeing, Cond.code yX2_addBeing cX2_addBeing 7 (some .int), Cond.methodLink RX2 105 yX2_whoseTurn, Cond.instanceMethod yX2_whoseTurn, Cond.selects RX2 yX2_whoseTurn yX2_whoseTurn, Cond.code yX2_whoseTurn cX2_whoseTurn 3 (some .int)]
def wsX4_come_r3 : List Cond := [Cond.methodLink RX2 117 yX2_isAlive, Cond.instanceMethod yX2_isAlive, Cond.selects RX2 yX2_isAlive yX2_isAlive, Cond.code yX2_isAlive cX2_isAlive 2 (some .boolean), Cond.methodLink RX2 109 yX2_putTrait, Cond.instanceMethod yX2_putTrait, Cond.selects RX2 yX2_putTrait yX2_putTrait, Cond.code yX2_putTrait cX2_putTrait 5 none, Cond.methodLink RX2 101 yX2_putEffect, Cond.instanceMethod yX2_putEffect, Cond.selects RX2 yX2_putEffect yX2_putEffect, Cond.code yX2_putEffect cX2_putEffect 6 none, Cond.fieldLink RX2 21 "Warren$State" "stacks" "[I", Cond.fieldLink RX2 24 "Warren$State" "turns" "[I", Cond.methodLink RX2 113 yX2_look, Cond.instanceMethod yX2_look, Cond.selects RX2 yX2_look yX2_look, Cond.code yX2_look cX2_look 5 none, Cond.fieldLink RX2 15 "Warren$State" "known" "[I", Cond.methodLink RX2 82 yX2_isKnown, Cond.instanceMethod yX2_isKnown, Cond.selects RX2 yX2_isKnown yX2_isKnown, Cond.code yX2_isKnown cX2_isKnown 3 (some .boolean), Cond.methodLink RX2 89 yX2_isSeenFrom]
def wsX4_come_r4 : List Cond := [Cond.instanceMethod yX2_isSeenFrom, Cond.selects RX2 yX2_isSeenFrom yX2_isSeenFrom, Cond.code yX2_isSeenFrom cX2_isSeenFrom 8 (some .boolean), Cond.methodLink RX2 73 yX2_apart, Cond.static yX2_apart, Cond.code yX2_apart cX2_apart 4 (some .int), Cond.methodLink RX2 61 Lib.Math.abs.name, Cond.static Lib.Math.abs.name, Cond.initialized "java/lang/Math", Cond.code Lib.Math.abs.name Lib.Math.abs.code 1 (some .int), Cond.methodLink RX2 66 Lib.Math.max.name, Cond.static Lib.Math.max.name, Cond.code Lib.Math.max.name Lib.Math.max.code 2 (some .int), Cond.methodLink RX2 76 yX2_nearest, Cond.static yX2_nearest, Cond.code yX2_nearest cX2_nearest 2 (some .int), Cond.methodLink RX2 70 yJ9_floorDiv_7cf53, Cond.static yJ9_floorDiv_7cf53, Cond.initialized RJ9, Cond.code yJ9_floorDiv_7cf53 cJ9_floorDiv_7cf53 3 (some .int), Cond.methodLink RX2 53 yX2_kindAt]
def wsX4_come : List Cond := .code yX4_come cX4_come 4 (some .int) :: ((wsX4_come_r1 ++ (wsX4_come_r2 ++ (wsX4_come_r3 ++ wsX4_come_r4))) ++ wsX40 ++ wsX20 ++ (vx_atS RX4 56 "java/lang/IndexOutOfBoundsException" ["java/lang/RuntimeException", "java/lang/Exception"]).filter goodWord ++ (vx_atS RX4 41 "java/lang/IllegalArgumentException" ["java/lang/RuntimeException", "java/lang/Exception"]).filter goodWord ++ (vx_atS RX4 73 "java/lang/IllegalStateException" ["java/lang/RuntimeException", "java/lang/Exception"]).filter goodWord)
def wsX4_become : List Cond := .code yX4_become cX4_become 6 (some .int) :: ([.classLink RX4 52 "java/lang/IndexOutOfBoundsException", .initialized "java/lang/IndexOutOfBoundsException", .classLink RX4 37 "java/lang/IllegalArgumentException", .initialized "java/lang/IllegalArgumentException", .fieldLink RX4 12 "Warren" "state" "LWarren$State;", .methodLink RX4 105 yX2_isBeing, .instanceMethod yX2_isBeing, .selects RX2 yX2_isBeing yX2_isBeing, .initialized RX2, .code yX2_isBeing cX2_isBeing 2 (some .boolean), .fieldLink RX2 39 "Warren$State" "beings" "I", .methodLink RX4 33 yX4_isWithin, .static yX4_isWithin, .initialized RX4, .code yX4_isWithin cX4_isWithin 3 (some .boolean), .methodLink RX4 112 yX2_trait, .instanceMethod yX2_trait, .selects RX2 yX2_trait yX2_trait, .code yX2_trait cX2_trait 4 (some .int), .fieldLink RX2 18 "Warren$State" "traits" "[I", .methodLink RX4 116 yX2_putTrait, .instanceMethod yX2_putTrait, .selects RX2 yX2_putTrait yX2_putTrait, .code yX2_putTrait cX2_putTrait 5 none] ++ wsX40 ++ wsX20 ++ (vx_atS RX4 56 "java/lang/IndexOutOfBoundsException" ["java/lang/RuntimeException", "java/lang/Exception"]).filter goodWord ++ (vx_atS RX4 41 "java/lang/IllegalArgumentException" ["java/lang/RuntimeException", "java/lang/Exception"]).filter goodWord)
def wsX4_lay_r1 : List Cond := [Cond.classLink RX4 52 "java/lang/IndexOutOfBoundsException", Cond.initialized "java/lang/IndexOutOfBoundsException", Cond.classLink RX4 37 "java/lang/IllegalArgumentException", Cond.initialized "java/lang/IllegalArgumentException", Cond.classLink RX4 69 "java/lang/IllegalStateException", Cond.initialized "java/lang/IllegalStateException", Cond.fieldLink RX4 12 "Warren" "state" "LWarren$State;", Cond.methodLink RX4 105 yX2_isBeing, Cond.instanceMethod yX2_isBeing, Cond.selects RX2 yX2_isBeing yX2_isBeing, Cond.initialized RX2, Cond.code yX2_isBeing cX2_isBeing 2 (some .boolean), Cond.fieldLink RX2 39 "Warren$State" "beings" "I", Cond.methodLink RX4 33 yX4_isWithin, Cond.static yX4_isWithin, Cond.initialized RX4, Cond.code yX4_isWithin cX4_isWithin 3 (some .boolean), Cond.methodLink RX4 122 yX2_isAlive, Cond.instanceMethod yX2_isAlive, Cond.selects RX2 yX2_isAlive yX2_isAlive, Cond.code yX2_isAlive cX2_isAlive 2 (some .boolean), Cond.methodLink RX2 86 yX2_trait, Cond.instanceMethod yX2_trait, Cond.selects RX2 yX2_trait yX2_trait]
def wsX4_lay_r2 : List Cond := [Cond.code yX2_trait cX2_trait 4 (some .int), Cond.fieldLink RX2 18 "Warren$State" "traits" "[I", Cond.methodLink RX4 127 yX2_addEffect, Cond.instanceMethod yX2_addEffect, Cond.selects RX2 yX2_addEffect yX2_addEffect, Cond.code yX2_addEffect cX2_addEffect 5 none, Cond.methodLink RX2 95 Lib.Math.min.name, Cond.static Lib.Math.min.name, Cond.initialized "java/lang/Math", Cond.code Lib.Math.min.name Lib.Math.min.code 2 (some .int), Cond.methodLink RX2 66 Lib.Math.max.name, Cond.static Lib.Math.max.name, Cond.code Lib.Math.max.name Lib.Math.max.code 2 (some .int), Cond.methodLink RX2 92 yX2_stackOf, Cond.instanceMethod yX2_stackOf, Cond.selects RX2 yX2_stackOf yX2_stackOf, Cond.code yX2_stackOf cX2_stackOf 4 (some .int), Cond.fieldLink RX2 21 "Warren$State" "stacks" "[I", Cond.methodLink RX2 98 yX2_turnsOf, Cond.instanceMethod yX2_turnsOf, Cond.selects RX2 yX2_turnsOf yX2_turnsOf, Cond.code yX2_turnsOf cX2_turnsOf 4 (some .int), Cond.fieldLink RX2 24 "Warren$State" "turns" "[I", Cond.methodLink RX2 101 yX2_putEffect]
def wsX4_lay_r3 : List Cond := [Cond.instanceMethod yX2_putEffect, Cond.selects RX2 yX2_putEffect yX2_putEffect, Cond.code yX2_putEffect cX2_putEffect 6 none, Cond.methodLink RX4 131 yX2_stackOf]
def wsX4_lay : List Cond := .code yX4_lay cX4_lay 5 (some .int) :: ((wsX4_lay_r1 ++ (wsX4_lay_r2 ++ wsX4_lay_r3)) ++ wsX40 ++ wsX20 ++ (vx_atS RX4 56 "java/lang/IndexOutOfBoundsException" ["java/lang/RuntimeException", "java/lang/Exception"]).filter goodWord ++ (vx_atS RX4 41 "java/lang/IllegalArgumentException" ["java/lang/RuntimeException", "java/lang/Exception"]).filter goodWord ++ (vx_atS RX4 73 "java/lang/IllegalStateException" ["java/lang/RuntimeException", "java/lang/Exception"]).filter goodWord)
def wsX4_answerOf : List Cond := .code yX4_answerOf cX4_answerOf 3 (some .int) :: ([.fieldLink RX4 12 "Warren" "state" "LWarren$State;", .methodLink RX4 231 yX2_isAfraid, .instanceMethod yX2_isAfraid, .selects RX2 yX2_isAfraid yX2_isAfraid, .initialized RX2, .code yX2_isAfraid cX2_isAfraid 2 (some .boolean), .methodLink RX2 86 yX2_trait, .instanceMethod yX2_trait, .selects RX2 yX2_trait yX2_trait, .code yX2_trait cX2_trait 4 (some .int), .fieldLink RX2 18 "Warren$State" "traits" "[I", .methodLink RX4 112 yX2_trait] ++ wsX40 ++ wsX20)
def wsX4_of_r1 : List Cond := [Cond.classLink RX4 52 "java/lang/IndexOutOfBoundsException", Cond.initialized "java/lang/IndexOutOfBoundsException", Cond.classLink RX4 37 "java/lang/IllegalArgumentException", Cond.initialized "java/lang/IllegalArgumentException", Cond.fieldLink RX4 12 "Warren" "state" "LWarren$State;", Cond.methodLink RX4 105 yX2_isBeing, Cond.instanceMethod yX2_isBeing, Cond.selects RX2 yX2_isBeing yX2_isBeing, Cond.initialized RX2, Cond.code yX2_isBeing cX2_isBeing 2 (some .boolean), Cond.fieldLink RX2 39 "Warren$State" "beings" "I", Cond.methodLink RX4 33 yX4_isWithin, Cond.static yX4_isWithin, Cond.initialized RX4, Cond.code yX4_isWithin cX4_isWithin 3 (some .boolean), Cond.methodLink RX4 136 yX4_answerOf, Cond.instanceMethod yX4_answerOf, Cond.selects RX4 yX4_answerOf yX4_answerOf, Cond.code yX4_answerOf cX4_answerOf 3 (some .int), Cond.methodLink RX4 231 yX2_isAfraid, Cond.instanceMethod yX2_isAfraid, Cond.selects RX2 yX2_isAfraid yX2_isAfraid, Cond.code yX2_isAfraid cX2_isAfraid 2 (some .boolean), Cond.methodLink RX2 86 yX2_trait]
def wsX4_of_r2 : List Cond := [Cond.instanceMethod yX2_trait, Cond.selects RX2 yX2_trait yX2_trait, Cond.code yX2_trait cX2_trait 4 (some .int), Cond.fieldLink RX2 18 "Warren$State" "traits" "[I", Cond.methodLink RX4 112 yX2_trait]
def wsX4_of : List Cond := .code yX4_of cX4_of 3 (some .int) :: ((wsX4_of_r1 ++ wsX4_of_r2) ++ wsX40 ++ wsX20 ++ (vx_atS RX4 56 "java/lang/IndexOutOfBoundsException" ["java/lang/RuntimeException", "java/lang/Exception"]).filter goodWord ++ (vx_atS RX4 41 "java/lang/IllegalArgumentException" ["java/lang/RuntimeException", "java/lang/Exception"]).filter goodWord)
def wsX4_effect_r1 : List Cond := [Cond.classLink RX4 52 "java/lang/IndexOutOfBoundsException", Cond.initialized "java/lang/IndexOutOfBoundsException", Cond.classLink RX4 37 "java/lang/IllegalArgumentException", Cond.initialized "java/lang/IllegalArgumentException", Cond.fieldLink RX4 12 "Warren" "state" "LWarren$State;", Cond.methodLink RX4 105 yX2_isBeing, Cond.instanceMethod yX2_isBeing, Cond.selects RX2 yX2_isBeing yX2_isBeing, Cond.initialized RX2, Cond.code yX2_isBeing cX2_isBeing 2 (some .boolean), Cond.fieldLink RX2 39 "Warren$State" "beings" "I", Cond.methodLink RX4 33 yX4_isWithin, Cond.static yX4_isWithin, Cond.initialized RX4, Cond.code yX4_isWithin cX4_isWithin 3 (some .boolean), Cond.methodLink RX4 141 yX2_turnsOf, Cond.instanceMethod yX2_turnsOf, Cond.selects RX2 yX2_turnsOf yX2_turnsOf, Cond.code yX2_turnsOf cX2_turnsOf 4 (some .int), Cond.fieldLink RX2 24 "Warren$State" "turns" "[I", Cond.methodLink RX4 131 yX2_stackOf, Cond.instanceMethod yX2_stackOf, Cond.selects RX2 yX2_stackOf yX2_stackOf, Cond.code yX2_stackOf cX2_stackOf 4 (some .int)]
def wsX4_effect_r2 : List Cond := [Cond.fieldLink RX2 21 "Warren$State" "stacks" "[I"]
def wsX4_effect : List Cond := .code yX4_effect cX4_effect 4 (some .int) :: ((wsX4_effect_r1 ++ wsX4_effect_r2) ++ wsX40 ++ wsX20 ++ (vx_atS RX4 56 "java/lang/IndexOutOfBoundsException" ["java/lang/RuntimeException", "java/lang/Exception"]).filter goodWord ++ (vx_atS RX4 41 "java/lang/IllegalArgumentException" ["java/lang/RuntimeException", "java/lang/Exception"]).filter goodWord)
def wsJx4a65c_size_8abf5 : List Cond := .code yJx4a65c_size_8abf5 cJx4a65c_size_8abf5 1 (some .int) :: ([.fieldLink RJx4a65c 48 "java/util/ArrayList" "size" "I"] ++ wsJx4a65c0)
def wsX4_countOf_r1 : List Cond := [Cond.fieldLink RX4 12 "Warren" "state" "LWarren$State;", Cond.fieldLink RX4 22 "Warren" "saved" "Ljava/util/List;", Cond.methodLink RX4 211 yX2_living, Cond.instanceMethod yX2_living, Cond.selects RX2 yX2_living yX2_living, Cond.initialized RX2, Cond.code yX2_living cX2_living 4 (some .int), Cond.fieldLink RX2 39 "Warren$State" "beings" "I", Cond.methodLink RX2 86 yX2_trait, Cond.instanceMethod yX2_trait, Cond.selects RX2 yX2_trait yX2_trait, Cond.code yX2_trait cX2_trait 4 (some .int), Cond.fieldLink RX2 18 "Warren$State" "traits" "[I", Cond.methodLink RX2 117 yX2_isAlive, Cond.instanceMethod yX2_isAlive, Cond.selects RX2 yX2_isAlive yX2_isAlive, Cond.code yX2_isAlive cX2_isAlive 2 (some .boolean), Cond.methodLink RX4 151 yX2_whoseTurn, Cond.instanceMethod yX2_whoseTurn, Cond.selects RX2 yX2_whoseTurn yX2_whoseTurn, Cond.code yX2_whoseTurn cX2_whoseTurn 3 (some .int), Cond.methodLink RX4 244 yX2_knownCells, Cond.instanceMethod yX2_knownCells, Cond.selects RX2 yX2_knownCells yX2_knownCells]
def wsX4_countOf_r2 : List Cond := [Cond.code yX2_knownCells cX2_knownCells 4 (some .int), Cond.fieldLink RX2 15 "Warren$State" "known" "[I", Cond.methodLink RX2 82 yX2_isKnown, Cond.instanceMethod yX2_isKnown, Cond.selects RX2 yX2_isKnown yX2_isKnown, Cond.code yX2_isKnown cX2_isKnown 3 (some .boolean), Cond.methodLink RX4 190 ⟨"java/util/List", "size", "()I"⟩, Cond.selects RJx4a65c ⟨"java/util/List", "size", "()I"⟩ yJx4a65c_size_8abf5, Cond.instanceMethod yJx4a65c_size_8abf5, Cond.initialized RJx4a65c, Cond.code yJx4a65c_size_8abf5 cJx4a65c_size_8abf5 1 (some .int), Cond.fieldLink RJx4a65c 48 "java/util/ArrayList" "size" "I"]
def wsX4_countOf : List Cond := .code yX4_countOf cX4_countOf 2 (some .int) :: ((wsX4_countOf_r1 ++ wsX4_countOf_r2) ++ wsX40 ++ wsX20 ++ wsJx4a65c0)
def wsX4_many_r1 : List Cond := [Cond.classLink RX4 37 "java/lang/IllegalArgumentException", Cond.initialized "java/lang/IllegalArgumentException", Cond.methodLink RX4 33 yX4_isWithin, Cond.static yX4_isWithin, Cond.initialized RX4, Cond.code yX4_isWithin cX4_isWithin 3 (some .boolean), Cond.methodLink RX4 146 yX4_countOf, Cond.instanceMethod yX4_countOf, Cond.selects RX4 yX4_countOf yX4_countOf, Cond.code yX4_countOf cX4_countOf 2 (some .int), Cond.fieldLink RX4 12 "Warren" "state" "LWarren$State;", Cond.fieldLink RX4 22 "Warren" "saved" "Ljava/util/List;", Cond.methodLink RX4 211 yX2_living, Cond.instanceMethod yX2_living, Cond.selects RX2 yX2_living yX2_living, Cond.initialized RX2, Cond.code yX2_living cX2_living 4 (some .int), Cond.fieldLink RX2 39 "Warren$State" "beings" "I", Cond.methodLink RX2 86 yX2_trait, Cond.instanceMethod yX2_trait, Cond.selects RX2 yX2_trait yX2_trait, Cond.code yX2_trait cX2_trait 4 (some .int), Cond.fieldLink RX2 18 "Warren$State" "traits" "[I", Cond.methodLink RX2 117 yX2_isAlive]
def wsX4_many_r2 : List Cond := [Cond.instanceMethod yX2_isAlive, Cond.selects RX2 yX2_isAlive yX2_isAlive, Cond.code yX2_isAlive cX2_isAlive 2 (some .boolean), Cond.methodLink RX4 151 yX2_whoseTurn, Cond.instanceMethod yX2_whoseTurn, Cond.selects RX2 yX2_whoseTurn yX2_whoseTurn, Cond.code yX2_whoseTurn cX2_whoseTurn 3 (some .int), Cond.methodLink RX4 244 yX2_knownCells, Cond.instanceMethod yX2_knownCells, Cond.selects RX2 yX2_knownCells yX2_knownCells, Cond.code yX2_knownCells cX2_knownCells 4 (some .int), Cond.fieldLink RX2 15 "Warren$State" "known" "[I", Cond.methodLink RX2 82 yX2_isKnown, Cond.instanceMethod yX2_isKnown, Cond.selects RX2 yX2_isKnown yX2_isKnown, Cond.code yX2_isKnown cX2_isKnown 3 (some .boolean), Cond.methodLink RX4 190 ⟨"java/util/List", "size", "()I"⟩, Cond.selects RJx4a65c ⟨"java/util/List", "size", "()I"⟩ yJx4a65c_size_8abf5, Cond.instanceMethod yJx4a65c_size_8abf5, Cond.initialized RJx4a65c, Cond.code yJx4a65c_size_8abf5 cJx4a65c_size_8abf5 1 (some .int), Cond.fieldLink RJx4a65c 48 "java/util/ArrayList" "size" "I"]
def wsX4_many : List Cond := .code yX4_many cX4_many 2 (some .int) :: ((wsX4_many_r1 ++ wsX4_many_r2) ++ wsX40 ++ wsX20 ++ wsJx4a65c0 ++ (vx_atS RX4 41 "java/lang/IllegalArgumentException" ["java/lang/RuntimeException", "java/lang/Exception"]).filter goodWord)
def wsX4_act_r1 : List Cond := [Cond.classLink RX4 37 "java/lang/IllegalArgumentException", Cond.initialized "java/lang/IllegalArgumentException", Cond.classLink RX4 69 "java/lang/IllegalStateException", Cond.initialized "java/lang/IllegalStateException", Cond.fieldLink RX4 12 "Warren" "state" "LWarren$State;", Cond.methodLink RX4 33 yX4_isWithin, Cond.static yX4_isWithin, Cond.initialized RX4, Cond.code yX4_isWithin cX4_isWithin 3 (some .boolean), Cond.methodLink RX4 151 yX2_whoseTurn, Cond.instanceMethod yX2_whoseTurn, Cond.selects RX2 yX2_whoseTurn yX2_whoseTurn, Cond.initialized RX2, Cond.code yX2_whoseTurn cX2_whoseTurn 3 (some .int), Cond.fieldLink RX2 39 "Warren$State" "beings" "I", Cond.methodLink RX2 117 yX2_isAlive, Cond.instanceMethod yX2_isAlive, Cond.selects RX2 yX2_isAlive yX2_isAlive, Cond.code yX2_isAlive cX2_isAlive 2 (some .boolean), Cond.methodLink RX2 86 yX2_trait, Cond.instanceMethod yX2_trait, Cond.selects RX2 yX2_trait yX2_trait, Cond.code yX2_trait cX2_trait 4 (some .int), Cond.fieldLink RX2 18 "Warren$State" "traits" "[I"]
def wsX4_act_r2 : List Cond := [Cond.methodLink RX4 155 yX1_isPossible, Cond.static yX1_isPossible, Cond.initialized RX1, Cond.code yX1_isPossible cX1_isPossible 3 (some .boolean), Cond.methodLink RX1 9 yX2_isAlive, Cond.methodLink RX1 15 yX1_cellTowards, Cond.static yX1_cellTowards, Cond.code yX1_cellTowards cX1_cellTowards 5 (some .int), Cond.methodLink RX1 25 yX2_trait, Cond.methodLink RX1 21 yX1_canGo, Cond.static yX1_canGo, Cond.code yX1_canGo cX1_canGo 4 (some .boolean), Cond.methodLink RX1 33 yX2_kindAt, Cond.instanceMethod yX2_kindAt, Cond.selects RX2 yX2_kindAt yX2_kindAt, Cond.code yX2_kindAt cX2_kindAt 2 (some .int), Cond.fieldLink RX2 9 "Warren$State" "kinds" "[I", Cond.methodLink RX1 36 yX2_whoIsOn, Cond.instanceMethod yX2_whoIsOn, Cond.selects RX2 yX2_whoIsOn yX2_whoIsOn, Cond.code yX2_whoIsOn cX2_whoIsOn 3 (some .int), Cond.methodLink RX1 39 yX2_isFoe, Cond.instanceMethod yX2_isFoe, Cond.selects RX2 yX2_isFoe yX2_isFoe]
def wsX4_act_r3 : List Cond := [Cond.code yX2_isFoe cX2_isFoe 3 (some .boolean), Cond.methodLink RX1 29 yX2_targetOf, Cond.instanceMethod yX2_targetOf, Cond.selects RX2 yX2_targetOf yX2_targetOf, Cond.code yX2_targetOf cX2_targetOf 7 (some .int), Cond.methodLink RX2 120 yX2_isFoe, Cond.methodLink RX2 73 yX2_apart, Cond.static yX2_apart, Cond.code yX2_apart cX2_apart 4 (some .int), Cond.methodLink RX2 61 Lib.Math.abs.name, Cond.static Lib.Math.abs.name, Cond.initialized "java/lang/Math", Cond.code Lib.Math.abs.name Lib.Math.abs.code 1 (some .int), Cond.methodLink RX2 66 Lib.Math.max.name, Cond.static Lib.Math.max.name, Cond.code Lib.Math.max.name Lib.Math.max.code 2 (some .int), Cond.methodLink RX2 89 yX2_isSeenFrom, Cond.instanceMethod yX2_isSeenFrom, Cond.selects RX2 yX2_isSeenFrom yX2_isSeenFrom, Cond.code yX2_isSeenFrom cX2_isSeenFrom 8 (some .boolean), Cond.methodLink RX2 76 yX2_nearest, Cond.static yX2_nearest, Cond.code yX2_nearest cX2_nearest 2 (some .int), Cond.methodLink RX2 70 yJ9_floorDiv_7cf53]
def wsX4_act_r4 : List Cond := [Cond.static yJ9_floorDiv_7cf53, Cond.initialized RJ9, Cond.code yJ9_floorDiv_7cf53 cJ9_floorDiv_7cf53 3 (some .int), Cond.methodLink RX2 53 yX2_kindAt, Cond.static yX4_stopsSight, Cond.code yX4_stopsSight cX4_stopsSight 1 (some .boolean), Cond.methodLink RX4 163 yX1_perform, Cond.static yX1_perform, Cond.code yX1_perform cX1_perform 5 (some .int), Cond.methodLink RX1 50 Lib.Math.min.name, Cond.static Lib.Math.min.name, Cond.code Lib.Math.min.name Lib.Math.min.code 2 (some .int), Cond.methodLink RX1 47 yX2_stackOf, Cond.instanceMethod yX2_stackOf, Cond.selects RX2 yX2_stackOf yX2_stackOf, Cond.code yX2_stackOf cX2_stackOf 4 (some .int), Cond.fieldLink RX2 21 "Warren$State" "stacks" "[I", Cond.methodLink RX1 55 yX2_putTrait, Cond.instanceMethod yX2_putTrait, Cond.selects RX2 yX2_putTrait yX2_putTrait, Cond.code yX2_putTrait cX2_putTrait 5 none, Cond.methodLink RX1 59 yX1_go, Cond.static yX1_go, Cond.code yX1_go cX1_go 4 (some .int)]
def wsX4_act_r5 : List Cond := [Cond.methodLink RX1 85 yX2_hitOf, Cond.instanceMethod yX2_hitOf, Cond.selects RX2 yX2_hitOf yX2_hitOf, Cond.code yX2_hitOf cX2_hitOf 5 (some .int), Cond.methodLink RX2 92 yX2_stackOf, Cond.methodLink RX1 88 yX2_takeLife, Cond.instanceMethod yX2_takeLife, Cond.selects RX2 yX2_takeLife yX2_takeLife, Cond.code yX2_takeLife cX2_takeLife 5 (some .int), Cond.methodLink RX2 95 Lib.Math.min.name, Cond.methodLink RX2 109 yX2_putTrait, Cond.methodLink RX1 91 yX2_putKind, Cond.instanceMethod yX2_putKind, Cond.selects RX2 yX2_putKind yX2_putKind, Cond.code yX2_putKind cX2_putKind 3 none, Cond.methodLink RX1 62 yX1_conjure, Cond.static yX1_conjure, Cond.code yX1_conjure cX1_conjure 3 none, Cond.methodLink RX1 95 yX2_addEffect, Cond.instanceMethod yX2_addEffect, Cond.selects RX2 yX2_addEffect yX2_addEffect, Cond.code yX2_addEffect cX2_addEffect 5 none, Cond.methodLink RX2 98 yX2_turnsOf, Cond.instanceMethod yX2_turnsOf]
def wsX4_act_r6 : List Cond := [Cond.selects RX2 yX2_turnsOf yX2_turnsOf, Cond.code yX2_turnsOf cX2_turnsOf 4 (some .int), Cond.fieldLink RX2 24 "Warren$State" "turns" "[I", Cond.methodLink RX2 101 yX2_putEffect, Cond.instanceMethod yX2_putEffect, Cond.selects RX2 yX2_putEffect yX2_putEffect, Cond.code yX2_putEffect cX2_putEffect 6 none, Cond.methodLink RX1 70 yX1_wearOff, Cond.static yX1_wearOff, Cond.code yX1_wearOff cX1_wearOff 4 none, Cond.methodLink RX1 102 Lib.Math.max.name, Cond.methodLink RX1 99 yX2_turnsOf, Cond.methodLink RX1 105 yX2_putEffect, Cond.methodLink RX1 74 yX1_passTime, Cond.static yX1_passTime, Cond.code yX1_passTime cX1_passTime 5 none, Cond.methodLink RX1 78 yX2_look, Cond.instanceMethod yX2_look, Cond.selects RX2 yX2_look yX2_look, Cond.code yX2_look cX2_look 5 none, Cond.fieldLink RX2 15 "Warren$State" "known" "[I", Cond.methodLink RX2 82 yX2_isKnown, Cond.instanceMethod yX2_isKnown, Cond.selects RX2 yX2_isKnown yX2_isKnown]
def wsX4_act_r7 : List Cond := [Cond.code yX2_isKnown cX2_isKnown 3 (some .boolean)]
def wsX4_act : List Cond := .code yX4_act cX4_act 3 (some .int) :: ((wsX4_act_r1 ++ (wsX4_act_r2 ++ (wsX4_act_r3 ++ (wsX4_act_r4 ++ (wsX4_act_r5 ++ (wsX4_act_r6 ++ wsX4_act_r7)))))) ++ wsX40 ++ wsX20 ++ (vx_atS RX4 41 "java/lang/IllegalArgumentException" ["java/lang/RuntimeException", "java/lang/Exception"]).filter goodWord ++ (vx_atS RX4 73 "java/lang/IllegalStateException" ["java/lang/RuntimeException", "java/lang/Exception"]).filter goodWord)
def wsX4_play_r1 : List Cond := [Cond.fieldLink RX4 12 "Warren" "state" "LWarren$State;", Cond.fieldLink RX4 29 "Warren" "mind" "LWarren$Mind;", Cond.methodLink RX4 211 yX2_living, Cond.instanceMethod yX2_living, Cond.selects RX2 yX2_living yX2_living, Cond.initialized RX2, Cond.code yX2_living cX2_living 4 (some .int), Cond.fieldLink RX2 39 "Warren$State" "beings" "I", Cond.methodLink RX2 86 yX2_trait, Cond.instanceMethod yX2_trait, Cond.selects RX2 yX2_trait yX2_trait, Cond.code yX2_trait cX2_trait 4 (some .int), Cond.fieldLink RX2 18 "Warren$State" "traits" "[I", Cond.methodLink RX2 117 yX2_isAlive, Cond.instanceMethod yX2_isAlive, Cond.selects RX2 yX2_isAlive yX2_isAlive, Cond.code yX2_isAlive cX2_isAlive 2 (some .boolean), Cond.methodLink RX4 151 yX2_whoseTurn, Cond.instanceMethod yX2_whoseTurn, Cond.selects RX2 yX2_whoseTurn yX2_whoseTurn, Cond.code yX2_whoseTurn cX2_whoseTurn 3 (some .int), Cond.methodLink RX4 180 yX0_weigh, Cond.instanceMethod yX0_weigh, Cond.selects RX0 yX0_weigh yX0_weigh]
def wsX4_play_r2 : List Cond := [Cond.initialized RX0, Cond.code yX0_weigh cX0_weigh 7 none, Cond.fieldLink RX0 12 "Warren$Mind" "ways" "LWarren$Ways;", Cond.fieldLink RX0 18 "Warren$Mind" "worths" "[I", Cond.methodLink RX0 40 yX2_targetOf, Cond.instanceMethod yX2_targetOf, Cond.selects RX2 yX2_targetOf yX2_targetOf, Cond.code yX2_targetOf cX2_targetOf 7 (some .int), Cond.methodLink RX2 120 yX2_isFoe, Cond.instanceMethod yX2_isFoe, Cond.selects RX2 yX2_isFoe yX2_isFoe, Cond.code yX2_isFoe cX2_isFoe 3 (some .boolean), Cond.methodLink RX2 73 yX2_apart, Cond.static yX2_apart, Cond.code yX2_apart cX2_apart 4 (some .int), Cond.methodLink RX2 61 Lib.Math.abs.name, Cond.static Lib.Math.abs.name, Cond.initialized "java/lang/Math", Cond.code Lib.Math.abs.name Lib.Math.abs.code 1 (some .int), Cond.methodLink RX2 66 Lib.Math.max.name, Cond.static Lib.Math.max.name, Cond.code Lib.Math.max.name Lib.Math.max.code 2 (some .int), Cond.methodLink RX2 89 yX2_isSeenFrom, Cond.instanceMethod yX2_isSeenFrom]
def wsX4_play_r3 : List Cond := [Cond.selects RX2 yX2_isSeenFrom yX2_isSeenFrom, Cond.code yX2_isSeenFrom cX2_isSeenFrom 8 (some .boolean), Cond.methodLink RX2 76 yX2_nearest, Cond.static yX2_nearest, Cond.code yX2_nearest cX2_nearest 2 (some .int), Cond.methodLink RX2 70 yJ9_floorDiv_7cf53, Cond.static yJ9_floorDiv_7cf53, Cond.initialized RJ9, Cond.code yJ9_floorDiv_7cf53 cJ9_floorDiv_7cf53 3 (some .int), Cond.methodLink RX2 53 yX2_kindAt, Cond.instanceMethod yX2_kindAt, Cond.selects RX2 yX2_kindAt yX2_kindAt, Cond.code yX2_kindAt cX2_kindAt 2 (some .int), Cond.fieldLink RX2 9 "Warren$State" "kinds" "[I", Cond.static yX4_stopsSight, Cond.initialized RX4, Cond.code yX4_stopsSight cX4_stopsSight 1 (some .boolean), Cond.methodLink RX0 43 yX2_firstFoe, Cond.instanceMethod yX2_firstFoe, Cond.selects RX2 yX2_firstFoe yX2_firstFoe, Cond.code yX2_firstFoe cX2_firstFoe 3 (some .int), Cond.methodLink RX0 32 yX2_trait, Cond.methodLink RX0 28 yX3_measure, Cond.instanceMethod yX3_measure]
def wsX4_play_r4 : List Cond := [Cond.selects RX3 yX3_measure yX3_measure, Cond.initialized RX3, Cond.code yX3_measure cX3_measure 5 none, Cond.fieldLink RX3 9 "Warren$Ways" "lengths" "[I", Cond.fieldLink RX3 24 "Warren$Ways" "queued" "I", Cond.methodLink RX3 18 yJ7_fill_53178, Cond.static yJ7_fill_53178, Cond.initialized RJ7, Cond.code yJ7_fill_53178 cJ7_fill_53178 4 none, Cond.methodLink RX3 28 yX2_kindAt, Cond.methodLink RX3 37 yX2_trait, Cond.methodLink RX3 41 yX3_putLength, Cond.instanceMethod yX3_putLength, Cond.selects RX3 yX3_putLength yX3_putLength, Cond.code yX3_putLength cX3_putLength 3 none, Cond.methodLink RX3 45 yX3_enqueue, Cond.instanceMethod yX3_enqueue, Cond.selects RX3 yX3_enqueue yX3_enqueue, Cond.code yX3_enqueue cX3_enqueue 2 none, Cond.fieldLink RX3 15 "Warren$Ways" "queue" "[I", Cond.methodLink RX3 49 yX3_spread, Cond.instanceMethod yX3_spread, Cond.selects RX3 yX3_spread yX3_spread, Cond.code yX3_spread cX3_spread 6 none]
def wsX4_play_r5 : List Cond := [Cond.methodLink RX3 53 yX3_lengthAt, Cond.instanceMethod yX3_lengthAt, Cond.selects RX3 yX3_lengthAt yX3_lengthAt, Cond.code yX3_lengthAt cX3_lengthAt 2 (some .int), Cond.methodLink RX3 61 yX3_reachAround, Cond.instanceMethod yX3_reachAround, Cond.selects RX3 yX3_reachAround yX3_reachAround, Cond.code yX3_reachAround cX3_reachAround 6 none, Cond.methodLink RX0 46 yX1_isPossible, Cond.static yX1_isPossible, Cond.initialized RX1, Cond.code yX1_isPossible cX1_isPossible 3 (some .boolean), Cond.methodLink RX1 9 yX2_isAlive, Cond.methodLink RX1 15 yX1_cellTowards, Cond.static yX1_cellTowards, Cond.code yX1_cellTowards cX1_cellTowards 5 (some .int), Cond.methodLink RX1 25 yX2_trait, Cond.methodLink RX1 21 yX1_canGo, Cond.static yX1_canGo, Cond.code yX1_canGo cX1_canGo 4 (some .boolean), Cond.methodLink RX1 33 yX2_kindAt, Cond.methodLink RX1 36 yX2_whoIsOn, Cond.instanceMethod yX2_whoIsOn, Cond.selects RX2 yX2_whoIsOn yX2_whoIsOn]
def wsX4_play_r6 : List Cond := [Cond.code yX2_whoIsOn cX2_whoIsOn 3 (some .int), Cond.methodLink RX1 39 yX2_isFoe, Cond.methodLink RX1 29 yX2_targetOf, Cond.methodLink RX0 52 yX0_worthIfPossible, Cond.instanceMethod yX0_worthIfPossible, Cond.selects RX0 yX0_worthIfPossible yX0_worthIfPossible, Cond.code yX0_worthIfPossible cX0_worthIfPossible 5 (some .int), Cond.methodLink RX0 56 yX2_stackOf, Cond.instanceMethod yX2_stackOf, Cond.selects RX2 yX2_stackOf yX2_stackOf, Cond.code yX2_stackOf cX2_stackOf 4 (some .int), Cond.fieldLink RX2 21 "Warren$State" "stacks" "[I", Cond.methodLink RX0 59 yX0_worthOfGuard, Cond.instanceMethod yX0_worthOfGuard, Cond.selects RX0 yX0_worthOfGuard yX0_worthOfGuard, Cond.code yX0_worthOfGuard cX0_worthOfGuard 4 (some .int), Cond.methodLink RX0 70 yX2_isAfraid, Cond.instanceMethod yX2_isAfraid, Cond.selects RX2 yX2_isAfraid yX2_isAfraid, Cond.code yX2_isAfraid cX2_isAfraid 2 (some .boolean), Cond.methodLink RX0 73 yX2_hasFoeBeside, Cond.instanceMethod yX2_hasFoeBeside, Cond.selects RX2 yX2_hasFoeBeside yX2_hasFoeBeside, Cond.code yX2_hasFoeBeside cX2_hasFoeBeside 3 (some .boolean)]
def wsX4_play_r7 : List Cond := [Cond.methodLink RX2 126 yX2_whoIsOn, Cond.methodLink RX0 63 yX1_cellTowards, Cond.methodLink RX0 67 yX0_worthOfGo, Cond.instanceMethod yX0_worthOfGo, Cond.selects RX0 yX0_worthOfGo yX0_worthOfGo, Cond.code yX0_worthOfGo cX0_worthOfGo 7 (some .int), Cond.methodLink RX0 76 yX2_whoIsOn, Cond.methodLink RX0 79 yX2_hitOf, Cond.instanceMethod yX2_hitOf, Cond.selects RX2 yX2_hitOf yX2_hitOf, Cond.code yX2_hitOf cX2_hitOf 5 (some .int), Cond.methodLink RX2 92 yX2_stackOf, Cond.methodLink RX0 82 yX2_kindAt, Cond.methodLink RX0 36 yX3_from, Cond.instanceMethod yX3_from, Cond.selects RX3 yX3_from yX3_from, Cond.code yX3_from cX3_from 2 (some .int), Cond.methodLink RX3 56 Lib.Math.max.name, Cond.methodLink RX4 187 yX0_best, Cond.instanceMethod yX0_best, Cond.selects RX0 yX0_best yX0_best, Cond.code yX0_best cX0_best 4 (some .int), Cond.methodLink RX4 163 yX1_perform, Cond.static yX1_perform]
def wsX4_play_r8 : List Cond := [Cond.code yX1_perform cX1_perform 5 (some .int), Cond.methodLink RX1 50 Lib.Math.min.name, Cond.static Lib.Math.min.name, Cond.code Lib.Math.min.name Lib.Math.min.code 2 (some .int), Cond.methodLink RX1 47 yX2_stackOf, Cond.methodLink RX1 55 yX2_putTrait, Cond.instanceMethod yX2_putTrait, Cond.selects RX2 yX2_putTrait yX2_putTrait, Cond.code yX2_putTrait cX2_putTrait 5 none, Cond.methodLink RX1 59 yX1_go, Cond.static yX1_go, Cond.code yX1_go cX1_go 4 (some .int), Cond.methodLink RX1 85 yX2_hitOf, Cond.methodLink RX1 88 yX2_takeLife, Cond.instanceMethod yX2_takeLife, Cond.selects RX2 yX2_takeLife yX2_takeLife, Cond.code yX2_takeLife cX2_takeLife 5 (some .int), Cond.methodLink RX2 95 Lib.Math.min.name, Cond.methodLink RX2 109 yX2_putTrait, Cond.methodLink RX1 91 yX2_putKind, Cond.instanceMethod yX2_putKind, Cond.selects RX2 yX2_putKind yX2_putKind, Cond.code yX2_putKind cX2_putKind 3 none, Cond.methodLink RX1 62 yX1_conjure]
def wsX4_play_r9 : List Cond := [Cond.static yX1_conjure, Cond.code yX1_conjure cX1_conjure 3 none, Cond.methodLink RX1 95 yX2_addEffect, Cond.instanceMethod yX2_addEffect, Cond.selects RX2 yX2_addEffect yX2_addEffect, Cond.code yX2_addEffect cX2_addEffect 5 none, Cond.methodLink RX2 98 yX2_turnsOf, Cond.instanceMethod yX2_turnsOf, Cond.selects RX2 yX2_turnsOf yX2_turnsOf, Cond.code yX2_turnsOf cX2_turnsOf 4 (some .int), Cond.fieldLink RX2 24 "Warren$State" "turns" "[I", Cond.methodLink RX2 101 yX2_putEffect, Cond.instanceMethod yX2_putEffect, Cond.selects RX2 yX2_putEffect yX2_putEffect, Cond.code yX2_putEffect cX2_putEffect 6 none, Cond.methodLink RX1 70 yX1_wearOff, Cond.static yX1_wearOff, Cond.code yX1_wearOff cX1_wearOff 4 none, Cond.methodLink RX1 102 Lib.Math.max.name, Cond.methodLink RX1 99 yX2_turnsOf, Cond.methodLink RX1 105 yX2_putEffect, Cond.methodLink RX1 74 yX1_passTime, Cond.static yX1_passTime, Cond.code yX1_passTime cX1_passTime 5 none]
def wsX4_play_r10 : List Cond := [Cond.methodLink RX1 78 yX2_look, Cond.instanceMethod yX2_look, Cond.selects RX2 yX2_look yX2_look, Cond.code yX2_look cX2_look 5 none, Cond.fieldLink RX2 15 "Warren$State" "known" "[I", Cond.methodLink RX2 82 yX2_isKnown, Cond.instanceMethod yX2_isKnown, Cond.selects RX2 yX2_isKnown yX2_isKnown, Cond.code yX2_isKnown cX2_isKnown 3 (some .boolean)]
def wsX4_play : List Cond := .code yX4_play cX4_play 4 (some .int) :: ((wsX4_play_r1 ++ (wsX4_play_r2 ++ (wsX4_play_r3 ++ (wsX4_play_r4 ++ (wsX4_play_r5 ++ (wsX4_play_r6 ++ (wsX4_play_r7 ++ (wsX4_play_r8 ++ (wsX4_play_r9 ++ wsX4_play_r10))))))))) ++ wsX40 ++ wsX20 ++ wsX00 ++ wsX30)
def wsX4_follow_r1 : List Cond := [Cond.classLink RX4 37 "java/lang/IllegalArgumentException", Cond.initialized "java/lang/IllegalArgumentException", Cond.methodLink RX4 33 yX4_isWithin, Cond.static yX4_isWithin, Cond.initialized RX4, Cond.code yX4_isWithin cX4_isWithin 3 (some .boolean), Cond.methodLink RX4 169 yX4_play, Cond.instanceMethod yX4_play, Cond.selects RX4 yX4_play yX4_play, Cond.code yX4_play cX4_play 4 (some .int), Cond.fieldLink RX4 12 "Warren" "state" "LWarren$State;", Cond.fieldLink RX4 29 "Warren" "mind" "LWarren$Mind;", Cond.methodLink RX4 211 yX2_living, Cond.instanceMethod yX2_living, Cond.selects RX2 yX2_living yX2_living, Cond.initialized RX2, Cond.code yX2_living cX2_living 4 (some .int), Cond.fieldLink RX2 39 "Warren$State" "beings" "I", Cond.methodLink RX2 86 yX2_trait, Cond.instanceMethod yX2_trait, Cond.selects RX2 yX2_trait yX2_trait, Cond.code yX2_trait cX2_trait 4 (some .int), Cond.fieldLink RX2 18 "Warren$State" "traits" "[I", Cond.methodLink RX2 117 yX2_isAlive]
def wsX4_follow_r2 : List Cond := [Cond.instanceMethod yX2_isAlive, Cond.selects RX2 yX2_isAlive yX2_isAlive, Cond.code yX2_isAlive cX2_isAlive 2 (some .boolean), Cond.methodLink RX4 151 yX2_whoseTurn, Cond.instanceMethod yX2_whoseTurn, Cond.selects RX2 yX2_whoseTurn yX2_whoseTurn, Cond.code yX2_whoseTurn cX2_whoseTurn 3 (some .int), Cond.methodLink RX4 180 yX0_weigh, Cond.instanceMethod yX0_weigh, Cond.selects RX0 yX0_weigh yX0_weigh, Cond.initialized RX0, Cond.code yX0_weigh cX0_weigh 7 none, Cond.fieldLink RX0 12 "Warren$Mind" "ways" "LWarren$Ways;", Cond.fieldLink RX0 18 "Warren$Mind" "worths" "[I", Cond.methodLink RX0 40 yX2_targetOf, Cond.instanceMethod yX2_targetOf, Cond.selects RX2 yX2_targetOf yX2_targetOf, Cond.code yX2_targetOf cX2_targetOf 7 (some .int), Cond.methodLink RX2 120 yX2_isFoe, Cond.instanceMethod yX2_isFoe, Cond.selects RX2 yX2_isFoe yX2_isFoe, Cond.code yX2_isFoe cX2_isFoe 3 (some .boolean), Cond.methodLink RX2 73 yX2_apart, Cond.static yX2_apart]
def wsX4_follow_r3 : List Cond := [Cond.code yX2_apart cX2_apart 4 (some .int), Cond.methodLink RX2 61 Lib.Math.abs.name, Cond.static Lib.Math.abs.name, Cond.initialized "java/lang/Math", Cond.code Lib.Math.abs.name Lib.Math.abs.code 1 (some .int), Cond.methodLink RX2 66 Lib.Math.max.name, Cond.static Lib.Math.max.name, Cond.code Lib.Math.max.name Lib.Math.max.code 2 (some .int), Cond.methodLink RX2 89 yX2_isSeenFrom, Cond.instanceMethod yX2_isSeenFrom, Cond.selects RX2 yX2_isSeenFrom yX2_isSeenFrom, Cond.code yX2_isSeenFrom cX2_isSeenFrom 8 (some .boolean), Cond.methodLink RX2 76 yX2_nearest, Cond.static yX2_nearest, Cond.code yX2_nearest cX2_nearest 2 (some .int), Cond.methodLink RX2 70 yJ9_floorDiv_7cf53, Cond.static yJ9_floorDiv_7cf53, Cond.initialized RJ9, Cond.code yJ9_floorDiv_7cf53 cJ9_floorDiv_7cf53 3 (some .int), Cond.methodLink RX2 53 yX2_kindAt, Cond.instanceMethod yX2_kindAt, Cond.selects RX2 yX2_kindAt yX2_kindAt, Cond.code yX2_kindAt cX2_kindAt 2 (some .int), Cond.fieldLink RX2 9 "Warren$State" "kinds" "[I"]
def wsX4_follow_r4 : List Cond := [Cond.static yX4_stopsSight, Cond.code yX4_stopsSight cX4_stopsSight 1 (some .boolean), Cond.methodLink RX0 43 yX2_firstFoe, Cond.instanceMethod yX2_firstFoe, Cond.selects RX2 yX2_firstFoe yX2_firstFoe, Cond.code yX2_firstFoe cX2_firstFoe 3 (some .int), Cond.methodLink RX0 32 yX2_trait, Cond.methodLink RX0 28 yX3_measure, Cond.instanceMethod yX3_measure, Cond.selects RX3 yX3_measure yX3_measure, Cond.initialized RX3, Cond.code yX3_measure cX3_measure 5 none, Cond.fieldLink RX3 9 "Warren$Ways" "lengths" "[I", Cond.fieldLink RX3 24 "Warren$Ways" "queued" "I", Cond.methodLink RX3 18 yJ7_fill_53178, Cond.static yJ7_fill_53178, Cond.initialized RJ7, Cond.code yJ7_fill_53178 cJ7_fill_53178 4 none, Cond.methodLink RX3 28 yX2_kindAt, Cond.methodLink RX3 37 yX2_trait, Cond.methodLink RX3 41 yX3_putLength, Cond.instanceMethod yX3_putLength, Cond.selects RX3 yX3_putLength yX3_putLength, Cond.code yX3_putLength cX3_putLength 3 none]
def wsX4_follow_r5 : List Cond := [Cond.methodLink RX3 45 yX3_enqueue, Cond.instanceMethod yX3_enqueue, Cond.selects RX3 yX3_enqueue yX3_enqueue, Cond.code yX3_enqueue cX3_enqueue 2 none, Cond.fieldLink RX3 15 "Warren$Ways" "queue" "[I", Cond.methodLink RX3 49 yX3_spread, Cond.instanceMethod yX3_spread, Cond.selects RX3 yX3_spread yX3_spread, Cond.code yX3_spread cX3_spread 6 none, Cond.methodLink RX3 53 yX3_lengthAt, Cond.instanceMethod yX3_lengthAt, Cond.selects RX3 yX3_lengthAt yX3_lengthAt, Cond.code yX3_lengthAt cX3_lengthAt 2 (some .int), Cond.methodLink RX3 61 yX3_reachAround, Cond.instanceMethod yX3_reachAround, Cond.selects RX3 yX3_reachAround yX3_reachAround, Cond.code yX3_reachAround cX3_reachAround 6 none, Cond.methodLink RX0 46 yX1_isPossible, Cond.static yX1_isPossible, Cond.initialized RX1, Cond.code yX1_isPossible cX1_isPossible 3 (some .boolean), Cond.methodLink RX1 9 yX2_isAlive, Cond.methodLink RX1 15 yX1_cellTowards, Cond.static yX1_cellTowards]
def wsX4_follow_r6 : List Cond := [Cond.code yX1_cellTowards cX1_cellTowards 5 (some .int), Cond.methodLink RX1 25 yX2_trait, Cond.methodLink RX1 21 yX1_canGo, Cond.static yX1_canGo, Cond.code yX1_canGo cX1_canGo 4 (some .boolean), Cond.methodLink RX1 33 yX2_kindAt, Cond.methodLink RX1 36 yX2_whoIsOn, Cond.instanceMethod yX2_whoIsOn, Cond.selects RX2 yX2_whoIsOn yX2_whoIsOn, Cond.code yX2_whoIsOn cX2_whoIsOn 3 (some .int), Cond.methodLink RX1 39 yX2_isFoe, Cond.methodLink RX1 29 yX2_targetOf, Cond.methodLink RX0 52 yX0_worthIfPossible, Cond.instanceMethod yX0_worthIfPossible, Cond.selects RX0 yX0_worthIfPossible yX0_worthIfPossible, Cond.code yX0_worthIfPossible cX0_worthIfPossible 5 (some .int), Cond.methodLink RX0 56 yX2_stackOf, Cond.instanceMethod yX2_stackOf, Cond.selects RX2 yX2_stackOf yX2_stackOf, Cond.code yX2_stackOf cX2_stackOf 4 (some .int), Cond.fieldLink RX2 21 "Warren$State" "stacks" "[I", Cond.methodLink RX0 59 yX0_worthOfGuard, Cond.instanceMethod yX0_worthOfGuard, Cond.selects RX0 yX0_worthOfGuard yX0_worthOfGuard]
def wsX4_follow_r7 : List Cond := [Cond.code yX0_worthOfGuard cX0_worthOfGuard 4 (some .int), Cond.methodLink RX0 70 yX2_isAfraid, Cond.instanceMethod yX2_isAfraid, Cond.selects RX2 yX2_isAfraid yX2_isAfraid, Cond.code yX2_isAfraid cX2_isAfraid 2 (some .boolean), Cond.methodLink RX0 73 yX2_hasFoeBeside, Cond.instanceMethod yX2_hasFoeBeside, Cond.selects RX2 yX2_hasFoeBeside yX2_hasFoeBeside, Cond.code yX2_hasFoeBeside cX2_hasFoeBeside 3 (some .boolean), Cond.methodLink RX2 126 yX2_whoIsOn, Cond.methodLink RX0 63 yX1_cellTowards, Cond.methodLink RX0 67 yX0_worthOfGo, Cond.instanceMethod yX0_worthOfGo, Cond.selects RX0 yX0_worthOfGo yX0_worthOfGo, Cond.code yX0_worthOfGo cX0_worthOfGo 7 (some .int), Cond.methodLink RX0 76 yX2_whoIsOn, Cond.methodLink RX0 79 yX2_hitOf, Cond.instanceMethod yX2_hitOf, Cond.selects RX2 yX2_hitOf yX2_hitOf, Cond.code yX2_hitOf cX2_hitOf 5 (some .int), Cond.methodLink RX2 92 yX2_stackOf, Cond.methodLink RX0 82 yX2_kindAt, Cond.methodLink RX0 36 yX3_from, Cond.instanceMethod yX3_from]
def wsX4_follow_r8 : List Cond := [Cond.selects RX3 yX3_from yX3_from, Cond.code yX3_from cX3_from 2 (some .int), Cond.methodLink RX3 56 Lib.Math.max.name, Cond.methodLink RX4 187 yX0_best, Cond.instanceMethod yX0_best, Cond.selects RX0 yX0_best yX0_best, Cond.code yX0_best cX0_best 4 (some .int), Cond.methodLink RX4 163 yX1_perform, Cond.static yX1_perform, Cond.code yX1_perform cX1_perform 5 (some .int), Cond.methodLink RX1 50 Lib.Math.min.name, Cond.static Lib.Math.min.name, Cond.code Lib.Math.min.name Lib.Math.min.code 2 (some .int), Cond.methodLink RX1 47 yX2_stackOf, Cond.methodLink RX1 55 yX2_putTrait, Cond.instanceMethod yX2_putTrait, Cond.selects RX2 yX2_putTrait yX2_putTrait, Cond.code yX2_putTrait cX2_putTrait 5 none, Cond.methodLink RX1 59 yX1_go, Cond.static yX1_go, Cond.code yX1_go cX1_go 4 (some .int), Cond.methodLink RX1 85 yX2_hitOf, Cond.methodLink RX1 88 yX2_takeLife, Cond.instanceMethod yX2_takeLife]
def wsX4_follow_r9 : List Cond := [Cond.selects RX2 yX2_takeLife yX2_takeLife, Cond.code yX2_takeLife cX2_takeLife 5 (some .int), Cond.methodLink RX2 95 Lib.Math.min.name, Cond.methodLink RX2 109 yX2_putTrait, Cond.methodLink RX1 91 yX2_putKind, Cond.instanceMethod yX2_putKind, Cond.selects RX2 yX2_putKind yX2_putKind, Cond.code yX2_putKind cX2_putKind 3 none, Cond.methodLink RX1 62 yX1_conjure, Cond.static yX1_conjure, Cond.code yX1_conjure cX1_conjure 3 none, Cond.methodLink RX1 95 yX2_addEffect, Cond.instanceMethod yX2_addEffect, Cond.selects RX2 yX2_addEffect yX2_addEffect, Cond.code yX2_addEffect cX2_addEffect 5 none, Cond.methodLink RX2 98 yX2_turnsOf, Cond.instanceMethod yX2_turnsOf, Cond.selects RX2 yX2_turnsOf yX2_turnsOf, Cond.code yX2_turnsOf cX2_turnsOf 4 (some .int), Cond.fieldLink RX2 24 "Warren$State" "turns" "[I", Cond.methodLink RX2 101 yX2_putEffect, Cond.instanceMethod yX2_putEffect, Cond.selects RX2 yX2_putEffect yX2_putEffect, Cond.code yX2_putEffect cX2_putEffect 6 none]
def wsX4_follow_r10 : List Cond := [Cond.methodLink RX1 70 yX1_wearOff, Cond.static yX1_wearOff, Cond.code yX1_wearOff cX1_wearOff 4 none, Cond.methodLink RX1 102 Lib.Math.max.name, Cond.methodLink RX1 99 yX2_turnsOf, Cond.methodLink RX1 105 yX2_putEffect, Cond.methodLink RX1 74 yX1_passTime, Cond.static yX1_passTime, Cond.code yX1_passTime cX1_passTime 5 none, Cond.methodLink RX1 78 yX2_look, Cond.instanceMethod yX2_look, Cond.selects RX2 yX2_look yX2_look, Cond.code yX2_look cX2_look 5 none, Cond.fieldLink RX2 15 "Warren$State" "known" "[I", Cond.methodLink RX2 82 yX2_isKnown, Cond.instanceMethod yX2_isKnown, Cond.selects RX2 yX2_isKnown yX2_isKnown, Cond.code yX2_isKnown cX2_isKnown 3 (some .boolean)]
def wsX4_follow : List Cond := .code yX4_follow cX4_follow 2 (some .int) :: ((wsX4_follow_r1 ++ (wsX4_follow_r2 ++ (wsX4_follow_r3 ++ (wsX4_follow_r4 ++ (wsX4_follow_r5 ++ (wsX4_follow_r6 ++ (wsX4_follow_r7 ++ (wsX4_follow_r8 ++ (wsX4_follow_r9 ++ wsX4_follow_r10))))))))) ++ wsX40 ++ wsX20 ++ wsX00 ++ wsX30 ++ (vx_atS RX4 41 "java/lang/IllegalArgumentException" ["java/lang/RuntimeException", "java/lang/Exception"]).filter goodWord)
def wsX4_target_r1 : List Cond := [Cond.classLink RX4 52 "java/lang/IndexOutOfBoundsException", Cond.initialized "java/lang/IndexOutOfBoundsException", Cond.fieldLink RX4 12 "Warren" "state" "LWarren$State;", Cond.methodLink RX4 105 yX2_isBeing, Cond.instanceMethod yX2_isBeing, Cond.selects RX2 yX2_isBeing yX2_isBeing, Cond.initialized RX2, Cond.code yX2_isBeing cX2_isBeing 2 (some .boolean), Cond.fieldLink RX2 39 "Warren$State" "beings" "I", Cond.methodLink RX4 172 yX2_targetOf, Cond.instanceMethod yX2_targetOf, Cond.selects RX2 yX2_targetOf yX2_targetOf, Cond.code yX2_targetOf cX2_targetOf 7 (some .int), Cond.methodLink RX2 117 yX2_isAlive, Cond.instanceMethod yX2_isAlive, Cond.selects RX2 yX2_isAlive yX2_isAlive, Cond.code yX2_isAlive cX2_isAlive 2 (some .boolean), Cond.methodLink RX2 86 yX2_trait, Cond.instanceMethod yX2_trait, Cond.selects RX2 yX2_trait yX2_trait, Cond.code yX2_trait cX2_trait 4 (some .int), Cond.fieldLink RX2 18 "Warren$State" "traits" "[I", Cond.methodLink RX2 120 yX2_isFoe, Cond.instanceMethod yX2_isFoe]
def wsX4_target_r2 : List Cond := [Cond.selects RX2 yX2_isFoe yX2_isFoe, Cond.code yX2_isFoe cX2_isFoe 3 (some .boolean), Cond.methodLink RX2 73 yX2_apart, Cond.static yX2_apart, Cond.code yX2_apart cX2_apart 4 (some .int), Cond.methodLink RX2 61 Lib.Math.abs.name, Cond.static Lib.Math.abs.name, Cond.initialized "java/lang/Math", Cond.code Lib.Math.abs.name Lib.Math.abs.code 1 (some .int), Cond.methodLink RX2 66 Lib.Math.max.name, Cond.static Lib.Math.max.name, Cond.code Lib.Math.max.name Lib.Math.max.code 2 (some .int), Cond.methodLink RX2 89 yX2_isSeenFrom, Cond.instanceMethod yX2_isSeenFrom, Cond.selects RX2 yX2_isSeenFrom yX2_isSeenFrom, Cond.code yX2_isSeenFrom cX2_isSeenFrom 8 (some .boolean), Cond.methodLink RX2 76 yX2_nearest, Cond.static yX2_nearest, Cond.code yX2_nearest cX2_nearest 2 (some .int), Cond.methodLink RX2 70 yJ9_floorDiv_7cf53, Cond.static yJ9_floorDiv_7cf53, Cond.initialized RJ9, Cond.code yJ9_floorDiv_7cf53 cJ9_floorDiv_7cf53 3 (some .int), Cond.methodLink RX2 53 yX2_kindAt]
def wsX4_target_r3 : List Cond := [Cond.instanceMethod yX2_kindAt, Cond.selects RX2 yX2_kindAt yX2_kindAt, Cond.code yX2_kindAt cX2_kindAt 2 (some .int), Cond.fieldLink RX2 9 "Warren$State" "kinds" "[I", Cond.static yX4_stopsSight, Cond.initialized RX4, Cond.code yX4_stopsSight cX4_stopsSight 1 (some .boolean)]
def wsX4_target : List Cond := .code yX4_target cX4_target 2 (some .int) :: ((wsX4_target_r1 ++ (wsX4_target_r2 ++ wsX4_target_r3)) ++ wsX40 ++ wsX20 ++ (vx_atS RX4 56 "java/lang/IndexOutOfBoundsException" ["java/lang/RuntimeException", "java/lang/Exception"]).filter goodWord)
def wsX4_way_r1 : List Cond := [Cond.classLink RX4 52 "java/lang/IndexOutOfBoundsException", Cond.initialized "java/lang/IndexOutOfBoundsException", Cond.fieldLink RX4 12 "Warren" "state" "LWarren$State;", Cond.fieldLink RX4 29 "Warren" "mind" "LWarren$Mind;", Cond.methodLink RX4 105 yX2_isBeing, Cond.instanceMethod yX2_isBeing, Cond.selects RX2 yX2_isBeing yX2_isBeing, Cond.initialized RX2, Cond.code yX2_isBeing cX2_isBeing 2 (some .boolean), Cond.fieldLink RX2 39 "Warren$State" "beings" "I", Cond.methodLink RX4 48 yX4_isCell, Cond.static yX4_isCell, Cond.initialized RX4, Cond.code yX4_isCell cX4_isCell 1 (some .boolean), Cond.methodLink RX4 177 yX0_wayOf, Cond.instanceMethod yX0_wayOf, Cond.selects RX0 yX0_wayOf yX0_wayOf, Cond.initialized RX0, Cond.code yX0_wayOf cX0_wayOf 4 (some .int), Cond.fieldLink RX0 12 "Warren$Mind" "ways" "LWarren$Ways;", Cond.methodLink RX0 22 yX2_isAlive, Cond.instanceMethod yX2_isAlive, Cond.selects RX2 yX2_isAlive yX2_isAlive, Cond.code yX2_isAlive cX2_isAlive 2 (some .boolean)]
def wsX4_way_r2 : List Cond := [Cond.methodLink RX2 86 yX2_trait, Cond.instanceMethod yX2_trait, Cond.selects RX2 yX2_trait yX2_trait, Cond.code yX2_trait cX2_trait 4 (some .int), Cond.fieldLink RX2 18 "Warren$State" "traits" "[I", Cond.methodLink RX0 28 yX3_measure, Cond.instanceMethod yX3_measure, Cond.selects RX3 yX3_measure yX3_measure, Cond.initialized RX3, Cond.code yX3_measure cX3_measure 5 none, Cond.fieldLink RX3 9 "Warren$Ways" "lengths" "[I", Cond.fieldLink RX3 24 "Warren$Ways" "queued" "I", Cond.methodLink RX3 18 yJ7_fill_53178, Cond.static yJ7_fill_53178, Cond.initialized RJ7, Cond.code yJ7_fill_53178 cJ7_fill_53178 4 none, Cond.methodLink RX3 28 yX2_kindAt, Cond.instanceMethod yX2_kindAt, Cond.selects RX2 yX2_kindAt yX2_kindAt, Cond.code yX2_kindAt cX2_kindAt 2 (some .int), Cond.fieldLink RX2 9 "Warren$State" "kinds" "[I", Cond.methodLink RX3 37 yX2_trait, Cond.methodLink RX3 41 yX3_putLength, Cond.instanceMethod yX3_putLength]
def wsX4_way_r3 : List Cond := [Cond.selects RX3 yX3_putLength yX3_putLength, Cond.code yX3_putLength cX3_putLength 3 none, Cond.methodLink RX3 45 yX3_enqueue, Cond.instanceMethod yX3_enqueue, Cond.selects RX3 yX3_enqueue yX3_enqueue, Cond.code yX3_enqueue cX3_enqueue 2 none, Cond.fieldLink RX3 15 "Warren$Ways" "queue" "[I", Cond.methodLink RX3 49 yX3_spread, Cond.instanceMethod yX3_spread, Cond.selects RX3 yX3_spread yX3_spread, Cond.code yX3_spread cX3_spread 6 none, Cond.methodLink RX3 53 yX3_lengthAt, Cond.instanceMethod yX3_lengthAt, Cond.selects RX3 yX3_lengthAt yX3_lengthAt, Cond.code yX3_lengthAt cX3_lengthAt 2 (some .int), Cond.methodLink RX3 61 yX3_reachAround, Cond.instanceMethod yX3_reachAround, Cond.selects RX3 yX3_reachAround yX3_reachAround, Cond.code yX3_reachAround cX3_reachAround 6 none, Cond.methodLink RX0 32 yX2_trait, Cond.methodLink RX0 36 yX3_from, Cond.instanceMethod yX3_from, Cond.selects RX3 yX3_from yX3_from, Cond.code yX3_from cX3_from 2 (some .int)]
def wsX4_way_r4 : List Cond := [Cond.methodLink RX3 56 Lib.Math.max.name, Cond.static Lib.Math.max.name, Cond.initialized "java/lang/Math", Cond.code Lib.Math.max.name Lib.Math.max.code 2 (some .int)]
def wsX4_way : List Cond := .code yX4_way cX4_way 3 (some .int) :: ((wsX4_way_r1 ++ (wsX4_way_r2 ++ (wsX4_way_r3 ++ wsX4_way_r4))) ++ wsX40 ++ wsX20 ++ wsX00 ++ wsX30 ++ (vx_atS RX4 56 "java/lang/IndexOutOfBoundsException" ["java/lang/RuntimeException", "java/lang/Exception"]).filter goodWord)
def wsX4_worth_r1 : List Cond := [Cond.classLink RX4 52 "java/lang/IndexOutOfBoundsException", Cond.initialized "java/lang/IndexOutOfBoundsException", Cond.classLink RX4 37 "java/lang/IllegalArgumentException", Cond.initialized "java/lang/IllegalArgumentException", Cond.fieldLink RX4 12 "Warren" "state" "LWarren$State;", Cond.fieldLink RX4 29 "Warren" "mind" "LWarren$Mind;", Cond.methodLink RX4 105 yX2_isBeing, Cond.instanceMethod yX2_isBeing, Cond.selects RX2 yX2_isBeing yX2_isBeing, Cond.initialized RX2, Cond.code yX2_isBeing cX2_isBeing 2 (some .boolean), Cond.fieldLink RX2 39 "Warren$State" "beings" "I", Cond.methodLink RX4 33 yX4_isWithin, Cond.static yX4_isWithin, Cond.initialized RX4, Cond.code yX4_isWithin cX4_isWithin 3 (some .boolean), Cond.methodLink RX4 180 yX0_weigh, Cond.instanceMethod yX0_weigh, Cond.selects RX0 yX0_weigh yX0_weigh, Cond.initialized RX0, Cond.code yX0_weigh cX0_weigh 7 none, Cond.fieldLink RX0 12 "Warren$Mind" "ways" "LWarren$Ways;", Cond.fieldLink RX0 18 "Warren$Mind" "worths" "[I", Cond.methodLink RX0 40 yX2_targetOf]
def wsX4_worth_r2 : List Cond := [Cond.instanceMethod yX2_targetOf, Cond.selects RX2 yX2_targetOf yX2_targetOf, Cond.code yX2_targetOf cX2_targetOf 7 (some .int), Cond.methodLink RX2 117 yX2_isAlive, Cond.instanceMethod yX2_isAlive, Cond.selects RX2 yX2_isAlive yX2_isAlive, Cond.code yX2_isAlive cX2_isAlive 2 (some .boolean), Cond.methodLink RX2 86 yX2_trait, Cond.instanceMethod yX2_trait, Cond.selects RX2 yX2_trait yX2_trait, Cond.code yX2_trait cX2_trait 4 (some .int), Cond.fieldLink RX2 18 "Warren$State" "traits" "[I", Cond.methodLink RX2 120 yX2_isFoe, Cond.instanceMethod yX2_isFoe, Cond.selects RX2 yX2_isFoe yX2_isFoe, Cond.code yX2_isFoe cX2_isFoe 3 (some .boolean), Cond.methodLink RX2 73 yX2_apart, Cond.static yX2_apart, Cond.code yX2_apart cX2_apart 4 (some .int), Cond.methodLink RX2 61 Lib.Math.abs.name, Cond.static Lib.Math.abs.name, Cond.initialized "java/lang/Math", Cond.code Lib.Math.abs.name Lib.Math.abs.code 1 (some .int), Cond.methodLink RX2 66 Lib.Math.max.name]
def wsX4_worth_r3 : List Cond := [Cond.static Lib.Math.max.name, Cond.code Lib.Math.max.name Lib.Math.max.code 2 (some .int), Cond.methodLink RX2 89 yX2_isSeenFrom, Cond.instanceMethod yX2_isSeenFrom, Cond.selects RX2 yX2_isSeenFrom yX2_isSeenFrom, Cond.code yX2_isSeenFrom cX2_isSeenFrom 8 (some .boolean), Cond.methodLink RX2 76 yX2_nearest, Cond.static yX2_nearest, Cond.code yX2_nearest cX2_nearest 2 (some .int), Cond.methodLink RX2 70 yJ9_floorDiv_7cf53, Cond.static yJ9_floorDiv_7cf53, Cond.initialized RJ9, Cond.code yJ9_floorDiv_7cf53 cJ9_floorDiv_7cf53 3 (some .int), Cond.methodLink RX2 53 yX2_kindAt, Cond.instanceMethod yX2_kindAt, Cond.selects RX2 yX2_kindAt yX2_kindAt, Cond.code yX2_kindAt cX2_kindAt 2 (some .int), Cond.fieldLink RX2 9 "Warren$State" "kinds" "[I", Cond.static yX4_stopsSight, Cond.code yX4_stopsSight cX4_stopsSight 1 (some .boolean), Cond.methodLink RX0 43 yX2_firstFoe, Cond.instanceMethod yX2_firstFoe, Cond.selects RX2 yX2_firstFoe yX2_firstFoe, Cond.code yX2_firstFoe cX2_firstFoe 3 (some .int)]
def wsX4_worth_r4 : List Cond := [Cond.methodLink RX0 32 yX2_trait, Cond.methodLink RX0 28 yX3_measure, Cond.instanceMethod yX3_measure, Cond.selects RX3 yX3_measure yX3_measure, Cond.initialized RX3, Cond.code yX3_measure cX3_measure 5 none, Cond.fieldLink RX3 9 "Warren$Ways" "lengths" "[I", Cond.fieldLink RX3 24 "Warren$Ways" "queued" "I", Cond.methodLink RX3 18 yJ7_fill_53178, Cond.static yJ7_fill_53178, Cond.initialized RJ7, Cond.code yJ7_fill_53178 cJ7_fill_53178 4 none, Cond.methodLink RX3 28 yX2_kindAt, Cond.methodLink RX3 37 yX2_trait, Cond.methodLink RX3 41 yX3_putLength, Cond.instanceMethod yX3_putLength, Cond.selects RX3 yX3_putLength yX3_putLength, Cond.code yX3_putLength cX3_putLength 3 none, Cond.methodLink RX3 45 yX3_enqueue, Cond.instanceMethod yX3_enqueue, Cond.selects RX3 yX3_enqueue yX3_enqueue, Cond.code yX3_enqueue cX3_enqueue 2 none, Cond.fieldLink RX3 15 "Warren$Ways" "queue" "[I", Cond.methodLink RX3 49 yX3_spread]
def wsX4_worth_r5 : List Cond := [Cond.instanceMethod yX3_spread, Cond.selects RX3 yX3_spread yX3_spread, Cond.code yX3_spread cX3_spread 6 none, Cond.methodLink RX3 53 yX3_lengthAt, Cond.instanceMethod yX3_lengthAt, Cond.selects RX3 yX3_lengthAt yX3_lengthAt, Cond.code yX3_lengthAt cX3_lengthAt 2 (some .int), Cond.methodLink RX3 61 yX3_reachAround, Cond.instanceMethod yX3_reachAround, Cond.selects RX3 yX3_reachAround yX3_reachAround, Cond.code yX3_reachAround cX3_reachAround 6 none, Cond.methodLink RX0 46 yX1_isPossible, Cond.static yX1_isPossible, Cond.initialized RX1, Cond.code yX1_isPossible cX1_isPossible 3 (some .boolean), Cond.methodLink RX1 9 yX2_isAlive, Cond.methodLink RX1 15 yX1_cellTowards, Cond.static yX1_cellTowards, Cond.code yX1_cellTowards cX1_cellTowards 5 (some .int), Cond.methodLink RX1 25 yX2_trait, Cond.methodLink RX1 21 yX1_canGo, Cond.static yX1_canGo, Cond.code yX1_canGo cX1_canGo 4 (some .boolean), Cond.methodLink RX1 33 yX2_kindAt]
def wsX4_worth_r6 : List Cond := [Cond.methodLink RX1 36 yX2_whoIsOn, Cond.instanceMethod yX2_whoIsOn, Cond.selects RX2 yX2_whoIsOn yX2_whoIsOn, Cond.code yX2_whoIsOn cX2_whoIsOn 3 (some .int), Cond.methodLink RX1 39 yX2_isFoe, Cond.methodLink RX1 29 yX2_targetOf, Cond.methodLink RX0 52 yX0_worthIfPossible, Cond.instanceMethod yX0_worthIfPossible, Cond.selects RX0 yX0_worthIfPossible yX0_worthIfPossible, Cond.code yX0_worthIfPossible cX0_worthIfPossible 5 (some .int), Cond.methodLink RX0 56 yX2_stackOf, Cond.instanceMethod yX2_stackOf, Cond.selects RX2 yX2_stackOf yX2_stackOf, Cond.code yX2_stackOf cX2_stackOf 4 (some .int), Cond.fieldLink RX2 21 "Warren$State" "stacks" "[I", Cond.methodLink RX0 59 yX0_worthOfGuard, Cond.instanceMethod yX0_worthOfGuard, Cond.selects RX0 yX0_worthOfGuard yX0_worthOfGuard, Cond.code yX0_worthOfGuard cX0_worthOfGuard 4 (some .int), Cond.methodLink RX0 70 yX2_isAfraid, Cond.instanceMethod yX2_isAfraid, Cond.selects RX2 yX2_isAfraid yX2_isAfraid, Cond.code yX2_isAfraid cX2_isAfraid 2 (some .boolean), Cond.methodLink RX0 73 yX2_hasFoeBeside]
def wsX4_worth_r7 : List Cond := [Cond.instanceMethod yX2_hasFoeBeside, Cond.selects RX2 yX2_hasFoeBeside yX2_hasFoeBeside, Cond.code yX2_hasFoeBeside cX2_hasFoeBeside 3 (some .boolean), Cond.methodLink RX2 126 yX2_whoIsOn, Cond.methodLink RX0 63 yX1_cellTowards, Cond.methodLink RX0 67 yX0_worthOfGo, Cond.instanceMethod yX0_worthOfGo, Cond.selects RX0 yX0_worthOfGo yX0_worthOfGo, Cond.code yX0_worthOfGo cX0_worthOfGo 7 (some .int), Cond.methodLink RX0 76 yX2_whoIsOn, Cond.methodLink RX0 79 yX2_hitOf, Cond.instanceMethod yX2_hitOf, Cond.selects RX2 yX2_hitOf yX2_hitOf, Cond.code yX2_hitOf cX2_hitOf 5 (some .int), Cond.methodLink RX2 92 yX2_stackOf, Cond.methodLink RX0 82 yX2_kindAt, Cond.methodLink RX0 36 yX3_from, Cond.instanceMethod yX3_from, Cond.selects RX3 yX3_from yX3_from, Cond.code yX3_from cX3_from 2 (some .int), Cond.methodLink RX3 56 Lib.Math.max.name, Cond.methodLink RX4 184 yX0_worthOf, Cond.instanceMethod yX0_worthOf, Cond.selects RX0 yX0_worthOf yX0_worthOf]
def wsX4_worth_r8 : List Cond := [Cond.code yX0_worthOf cX0_worthOf 2 (some .int)]
def wsX4_worth : List Cond := .code yX4_worth cX4_worth 3 (some .int) :: ((wsX4_worth_r1 ++ (wsX4_worth_r2 ++ (wsX4_worth_r3 ++ (wsX4_worth_r4 ++ (wsX4_worth_r5 ++ (wsX4_worth_r6 ++ (wsX4_worth_r7 ++ wsX4_worth_r8))))))) ++ wsX40 ++ wsX20 ++ wsX00 ++ wsX30 ++ (vx_atS RX4 56 "java/lang/IndexOutOfBoundsException" ["java/lang/RuntimeException", "java/lang/Exception"]).filter goodWord ++ (vx_atS RX4 41 "java/lang/IllegalArgumentException" ["java/lang/RuntimeException", "java/lang/Exception"]).filter goodWord)
def wsX4_plan_r1 : List Cond := [Cond.classLink RX4 52 "java/lang/IndexOutOfBoundsException", Cond.initialized "java/lang/IndexOutOfBoundsException", Cond.fieldLink RX4 12 "Warren" "state" "LWarren$State;", Cond.fieldLink RX4 29 "Warren" "mind" "LWarren$Mind;", Cond.methodLink RX4 105 yX2_isBeing, Cond.instanceMethod yX2_isBeing, Cond.selects RX2 yX2_isBeing yX2_isBeing, Cond.initialized RX2, Cond.code yX2_isBeing cX2_isBeing 2 (some .boolean), Cond.fieldLink RX2 39 "Warren$State" "beings" "I", Cond.methodLink RX4 180 yX0_weigh, Cond.instanceMethod yX0_weigh, Cond.selects RX0 yX0_weigh yX0_weigh, Cond.initialized RX0, Cond.code yX0_weigh cX0_weigh 7 none, Cond.fieldLink RX0 12 "Warren$Mind" "ways" "LWarren$Ways;", Cond.fieldLink RX0 18 "Warren$Mind" "worths" "[I", Cond.methodLink RX0 40 yX2_targetOf, Cond.instanceMethod yX2_targetOf, Cond.selects RX2 yX2_targetOf yX2_targetOf, Cond.code yX2_targetOf cX2_targetOf 7 (some .int), Cond.methodLink RX2 117 yX2_isAlive, Cond.instanceMethod yX2_isAlive, Cond.selects RX2 yX2_isAlive yX2_isAlive]
def wsX4_plan_r2 : List Cond := [Cond.code yX2_isAlive cX2_isAlive 2 (some .boolean), Cond.methodLink RX2 86 yX2_trait, Cond.instanceMethod yX2_trait, Cond.selects RX2 yX2_trait yX2_trait, Cond.code yX2_trait cX2_trait 4 (some .int), Cond.fieldLink RX2 18 "Warren$State" "traits" "[I", Cond.methodLink RX2 120 yX2_isFoe, Cond.instanceMethod yX2_isFoe, Cond.selects RX2 yX2_isFoe yX2_isFoe, Cond.code yX2_isFoe cX2_isFoe 3 (some .boolean), Cond.methodLink RX2 73 yX2_apart, Cond.static yX2_apart, Cond.code yX2_apart cX2_apart 4 (some .int), Cond.methodLink RX2 61 Lib.Math.abs.name, Cond.static Lib.Math.abs.name, Cond.initialized "java/lang/Math", Cond.code Lib.Math.abs.name Lib.Math.abs.code 1 (some .int), Cond.methodLink RX2 66 Lib.Math.max.name, Cond.static Lib.Math.max.name, Cond.code Lib.Math.max.name Lib.Math.max.code 2 (some .int), Cond.methodLink RX2 89 yX2_isSeenFrom, Cond.instanceMethod yX2_isSeenFrom, Cond.selects RX2 yX2_isSeenFrom yX2_isSeenFrom, Cond.code yX2_isSeenFrom cX2_isSeenFrom 8 (some .boolean)]
def wsX4_plan_r3 : List Cond := [Cond.methodLink RX2 76 yX2_nearest, Cond.static yX2_nearest, Cond.code yX2_nearest cX2_nearest 2 (some .int), Cond.methodLink RX2 70 yJ9_floorDiv_7cf53, Cond.static yJ9_floorDiv_7cf53, Cond.initialized RJ9, Cond.code yJ9_floorDiv_7cf53 cJ9_floorDiv_7cf53 3 (some .int), Cond.methodLink RX2 53 yX2_kindAt, Cond.instanceMethod yX2_kindAt, Cond.selects RX2 yX2_kindAt yX2_kindAt, Cond.code yX2_kindAt cX2_kindAt 2 (some .int), Cond.fieldLink RX2 9 "Warren$State" "kinds" "[I", Cond.static yX4_stopsSight, Cond.initialized RX4, Cond.code yX4_stopsSight cX4_stopsSight 1 (some .boolean), Cond.methodLink RX0 43 yX2_firstFoe, Cond.instanceMethod yX2_firstFoe, Cond.selects RX2 yX2_firstFoe yX2_firstFoe, Cond.code yX2_firstFoe cX2_firstFoe 3 (some .int), Cond.methodLink RX0 32 yX2_trait, Cond.methodLink RX0 28 yX3_measure, Cond.instanceMethod yX3_measure, Cond.selects RX3 yX3_measure yX3_measure, Cond.initialized RX3]
def wsX4_plan_r4 : List Cond := [Cond.code yX3_measure cX3_measure 5 none, Cond.fieldLink RX3 9 "Warren$Ways" "lengths" "[I", Cond.fieldLink RX3 24 "Warren$Ways" "queued" "I", Cond.methodLink RX3 18 yJ7_fill_53178, Cond.static yJ7_fill_53178, Cond.initialized RJ7, Cond.code yJ7_fill_53178 cJ7_fill_53178 4 none, Cond.methodLink RX3 28 yX2_kindAt, Cond.methodLink RX3 37 yX2_trait, Cond.methodLink RX3 41 yX3_putLength, Cond.instanceMethod yX3_putLength, Cond.selects RX3 yX3_putLength yX3_putLength, Cond.code yX3_putLength cX3_putLength 3 none, Cond.methodLink RX3 45 yX3_enqueue, Cond.instanceMethod yX3_enqueue, Cond.selects RX3 yX3_enqueue yX3_enqueue, Cond.code yX3_enqueue cX3_enqueue 2 none, Cond.fieldLink RX3 15 "Warren$Ways" "queue" "[I", Cond.methodLink RX3 49 yX3_spread, Cond.instanceMethod yX3_spread, Cond.selects RX3 yX3_spread yX3_spread, Cond.code yX3_spread cX3_spread 6 none, Cond.methodLink RX3 53 yX3_lengthAt, Cond.instanceMethod yX3_lengthAt]
def wsX4_plan_r5 : List Cond := [Cond.selects RX3 yX3_lengthAt yX3_lengthAt, Cond.code yX3_lengthAt cX3_lengthAt 2 (some .int), Cond.methodLink RX3 61 yX3_reachAround, Cond.instanceMethod yX3_reachAround, Cond.selects RX3 yX3_reachAround yX3_reachAround, Cond.code yX3_reachAround cX3_reachAround 6 none, Cond.methodLink RX0 46 yX1_isPossible, Cond.static yX1_isPossible, Cond.initialized RX1, Cond.code yX1_isPossible cX1_isPossible 3 (some .boolean), Cond.methodLink RX1 9 yX2_isAlive, Cond.methodLink RX1 15 yX1_cellTowards, Cond.static yX1_cellTowards, Cond.code yX1_cellTowards cX1_cellTowards 5 (some .int), Cond.methodLink RX1 25 yX2_trait, Cond.methodLink RX1 21 yX1_canGo, Cond.static yX1_canGo, Cond.code yX1_canGo cX1_canGo 4 (some .boolean), Cond.methodLink RX1 33 yX2_kindAt, Cond.methodLink RX1 36 yX2_whoIsOn, Cond.instanceMethod yX2_whoIsOn, Cond.selects RX2 yX2_whoIsOn yX2_whoIsOn, Cond.code yX2_whoIsOn cX2_whoIsOn 3 (some .int), Cond.methodLink RX1 39 yX2_isFoe]
def wsX4_plan_r6 : List Cond := [Cond.methodLink RX1 29 yX2_targetOf, Cond.methodLink RX0 52 yX0_worthIfPossible, Cond.instanceMethod yX0_worthIfPossible, Cond.selects RX0 yX0_worthIfPossible yX0_worthIfPossible, Cond.code yX0_worthIfPossible cX0_worthIfPossible 5 (some .int), Cond.methodLink RX0 56 yX2_stackOf, Cond.instanceMethod yX2_stackOf, Cond.selects RX2 yX2_stackOf yX2_stackOf, Cond.code yX2_stackOf cX2_stackOf 4 (some .int), Cond.fieldLink RX2 21 "Warren$State" "stacks" "[I", Cond.methodLink RX0 59 yX0_worthOfGuard, Cond.instanceMethod yX0_worthOfGuard, Cond.selects RX0 yX0_worthOfGuard yX0_worthOfGuard, Cond.code yX0_worthOfGuard cX0_worthOfGuard 4 (some .int), Cond.methodLink RX0 70 yX2_isAfraid, Cond.instanceMethod yX2_isAfraid, Cond.selects RX2 yX2_isAfraid yX2_isAfraid, Cond.code yX2_isAfraid cX2_isAfraid 2 (some .boolean), Cond.methodLink RX0 73 yX2_hasFoeBeside, Cond.instanceMethod yX2_hasFoeBeside, Cond.selects RX2 yX2_hasFoeBeside yX2_hasFoeBeside, Cond.code yX2_hasFoeBeside cX2_hasFoeBeside 3 (some .boolean), Cond.methodLink RX2 126 yX2_whoIsOn, Cond.methodLink RX0 63 yX1_cellTowards]
def wsX4_plan_r7 : List Cond := [Cond.methodLink RX0 67 yX0_worthOfGo, Cond.instanceMethod yX0_worthOfGo, Cond.selects RX0 yX0_worthOfGo yX0_worthOfGo, Cond.code yX0_worthOfGo cX0_worthOfGo 7 (some .int), Cond.methodLink RX0 76 yX2_whoIsOn, Cond.methodLink RX0 79 yX2_hitOf, Cond.instanceMethod yX2_hitOf, Cond.selects RX2 yX2_hitOf yX2_hitOf, Cond.code yX2_hitOf cX2_hitOf 5 (some .int), Cond.methodLink RX2 92 yX2_stackOf, Cond.methodLink RX0 82 yX2_kindAt, Cond.methodLink RX0 36 yX3_from, Cond.instanceMethod yX3_from, Cond.selects RX3 yX3_from yX3_from, Cond.code yX3_from cX3_from 2 (some .int), Cond.methodLink RX3 56 Lib.Math.max.name, Cond.methodLink RX4 187 yX0_best, Cond.instanceMethod yX0_best, Cond.selects RX0 yX0_best yX0_best, Cond.code yX0_best cX0_best 4 (some .int)]
def wsX4_plan : List Cond := .code yX4_plan cX4_plan 2 (some .int) :: ((wsX4_plan_r1 ++ (wsX4_plan_r2 ++ (wsX4_plan_r3 ++ (wsX4_plan_r4 ++ (wsX4_plan_r5 ++ (wsX4_plan_r6 ++ wsX4_plan_r7)))))) ++ wsX40 ++ wsX20 ++ wsX00 ++ wsX30 ++ (vx_atS RX4 56 "java/lang/IndexOutOfBoundsException" ["java/lang/RuntimeException", "java/lang/Exception"]).filter goodWord)
def wsJ8_hugeLength_7cf53 : List Cond := .code yJ8_hugeLength_7cf53 cJ8_hugeLength_7cf53 3 (some .int) :: ([.constant RJ8 200 (2147483639)])
def wsJ8_newLength_cabcc : List Cond := .code yJ8_newLength_cabcc cJ8_newLength_cabcc 4 (some .int) :: ([.methodLink RJ8 194 Lib.Math.max.name, .static Lib.Math.max.name, .initialized "java/lang/Math", .code Lib.Math.max.name Lib.Math.max.code 2 (some .int), .constant RJ8 200 (2147483639), .methodLink RJ8 201 yJ8_hugeLength_7cf53, .static yJ8_hugeLength_7cf53, .initialized RJ8, .code yJ8_hugeLength_7cf53 cJ8_hugeLength_7cf53 3 (some .int)])
def wsJ7_copyOf_6403c : List Cond := .code yJ7_copyOf_6403c cJ7_copyOf_6403c 4 (some (.array (.object "java/lang/Object"))) :: ([.classLink RJ7 110 "[Ljava/lang/Object;", .classLink RJ7 2 "java/lang/Object", .methodLink RJ7 304 Lib.Math.min.name, .static Lib.Math.min.name, .initialized "java/lang/Math", .code Lib.Math.min.name Lib.Math.min.code 2 (some .int), .methodLink RJ7 150 arraycopyName, .native arraycopyName, .static arraycopyName, .initialized "java/lang/System"])
def wsJ7_copyOf_1904c : List Cond := .code yJ7_copyOf_1904c cJ7_copyOf_1904c 2 (some (.array (.object "java/lang/Object"))) :: ([.methodLink RJ7 86 ⟨"java/lang/Object", "getClass", "()Ljava/lang/Class;"⟩, .selects "[Ljava/lang/Object;" ⟨"java/lang/Object", "getClass", "()Ljava/lang/Class;"⟩ ⟨"java/lang/Object", "getClass", "()Ljava/lang/Class;"⟩, .instanceMethod ⟨"java/lang/Object", "getClass", "()Ljava/lang/Class;"⟩, .native ⟨"java/lang/Object", "getClass", "()Ljava/lang/Class;"⟩, .methodLink RJ7 300 yJ7_copyOf_6403c, .static yJ7_copyOf_6403c, .initialized RJ7, .code yJ7_copyOf_6403c cJ7_copyOf_6403c 4 (some (.array (.object "java/lang/Object"))), .classLink RJ7 110 "[Ljava/lang/Object;", .classLink RJ7 2 "java/lang/Object", .methodLink RJ7 304 Lib.Math.min.name, .static Lib.Math.min.name, .initialized "java/lang/Math", .code Lib.Math.min.name Lib.Math.min.code 2 (some .int), .methodLink RJ7 150 arraycopyName, .native arraycopyName, .static arraycopyName, .initialized "java/lang/System"])
def wsJx4a65c_grow_92f84_r1 : List Cond := [Cond.fieldLink RJx4a65c 9 "java/util/ArrayList" "elementData" "[Ljava/lang/Object;", Cond.fieldLink RJx4a65c 39 "java/util/ArrayList" "DEFAULTCAPACITY_EMPTY_ELEMENTDATA" "[Ljava/lang/Object;", Cond.methodLink RJx4a65c 79 Lib.Math.max.name, Cond.static Lib.Math.max.name, Cond.initialized "java/lang/Math", Cond.code Lib.Math.max.name Lib.Math.max.code 2 (some .int), Cond.classLink RJx4a65c 7 "java/lang/Object", Cond.methodLink RJx4a65c 73 yJ8_newLength_cabcc, Cond.static yJ8_newLength_cabcc, Cond.initialized RJ8, Cond.code yJ8_newLength_cabcc cJ8_newLength_cabcc 4 (some .int), Cond.methodLink RJ8 194 Lib.Math.max.name, Cond.constant RJ8 200 (2147483639), Cond.methodLink RJ8 201 yJ8_hugeLength_7cf53, Cond.static yJ8_hugeLength_7cf53, Cond.code yJ8_hugeLength_7cf53 cJ8_hugeLength_7cf53 3 (some .int), Cond.methodLink RJx4a65c 66 yJ7_copyOf_1904c, Cond.static yJ7_copyOf_1904c, Cond.initialized RJ7, Cond.code yJ7_copyOf_1904c cJ7_copyOf_1904c 2 (some (.array (.object "java/lang/Object"))), Cond.methodLink RJ7 86 ⟨"java/lang/Object", "getClass", "()Ljava/lang/Class;"⟩, Cond.selects "[Ljava/lang/Object;" ⟨"java/lang/Object", "getClass", "()Ljava/lang/Class;"⟩ ⟨"java/lang/Object", "getClass", "()Ljava/lang/Class;"⟩, Cond.instanceMethod ⟨"java/lang/Object", "getClass", "()Ljava/lang/Class;"⟩, Cond.native ⟨"java/lang/Object", "getClass", "()Ljava/lang/Class;"⟩]
def wsJx4a65c_grow_92f84_r2 : List Cond := [Cond.methodLink RJ7 300 yJ7_copyOf_6403c, Cond.static yJ7_copyOf_6403c, Cond.code yJ7_copyOf_6403c cJ7_copyOf_6403c 4 (some (.array (.object "java/lang/Object"))), Cond.classLink RJ7 110 "[Ljava/lang/Object;", Cond.classLink RJ7 2 "java/lang/Object", Cond.methodLink RJ7 304 Lib.Math.min.name, Cond.static Lib.Math.min.name, Cond.code Lib.Math.min.name Lib.Math.min.code 2 (some .int), Cond.methodLink RJ7 150 arraycopyName, Cond.native arraycopyName, Cond.static arraycopyName, Cond.initialized "java/lang/System"]
def wsJx4a65c_grow_92f84 : List Cond := .code yJx4a65c_grow_92f84 cJx4a65c_grow_92f84 4 (some (.array (.object "java/lang/Object"))) :: ((wsJx4a65c_grow_92f84_r1 ++ wsJx4a65c_grow_92f84_r2) ++ wsJx4a65c0)
def wsJx4a65c_grow_d5877_r1 : List Cond := [Cond.fieldLink RJx4a65c 48 "java/util/ArrayList" "size" "I", Cond.methodLink RJx4a65c 69 yJx4a65c_grow_92f84, Cond.instanceMethod yJx4a65c_grow_92f84, Cond.selects RJx4a65c yJx4a65c_grow_92f84 yJx4a65c_grow_92f84, Cond.initialized RJx4a65c, Cond.code yJx4a65c_grow_92f84 cJx4a65c_grow_92f84 4 (some (.array (.object "java/lang/Object"))), Cond.fieldLink RJx4a65c 9 "java/util/ArrayList" "elementData" "[Ljava/lang/Object;", Cond.fieldLink RJx4a65c 39 "java/util/ArrayList" "DEFAULTCAPACITY_EMPTY_ELEMENTDATA" "[Ljava/lang/Object;", Cond.methodLink RJx4a65c 79 Lib.Math.max.name, Cond.static Lib.Math.max.name, Cond.initialized "java/lang/Math", Cond.code Lib.Math.max.name Lib.Math.max.code 2 (some .int), Cond.classLink RJx4a65c 7 "java/lang/Object", Cond.methodLink RJx4a65c 73 yJ8_newLength_cabcc, Cond.static yJ8_newLength_cabcc, Cond.initialized RJ8, Cond.code yJ8_newLength_cabcc cJ8_newLength_cabcc 4 (some .int), Cond.methodLink RJ8 194 Lib.Math.max.name, Cond.constant RJ8 200 (2147483639), Cond.methodLink RJ8 201 yJ8_hugeLength_7cf53, Cond.static yJ8_hugeLength_7cf53, Cond.code yJ8_hugeLength_7cf53 cJ8_hugeLength_7cf53 3 (some .int), Cond.methodLink RJx4a65c 66 yJ7_copyOf_1904c, Cond.static yJ7_copyOf_1904c]
def wsJx4a65c_grow_d5877_r2 : List Cond := [Cond.initialized RJ7, Cond.code yJ7_copyOf_1904c cJ7_copyOf_1904c 2 (some (.array (.object "java/lang/Object"))), Cond.methodLink RJ7 86 ⟨"java/lang/Object", "getClass", "()Ljava/lang/Class;"⟩, Cond.selects "[Ljava/lang/Object;" ⟨"java/lang/Object", "getClass", "()Ljava/lang/Class;"⟩ ⟨"java/lang/Object", "getClass", "()Ljava/lang/Class;"⟩, Cond.instanceMethod ⟨"java/lang/Object", "getClass", "()Ljava/lang/Class;"⟩, Cond.native ⟨"java/lang/Object", "getClass", "()Ljava/lang/Class;"⟩, Cond.methodLink RJ7 300 yJ7_copyOf_6403c, Cond.static yJ7_copyOf_6403c, Cond.code yJ7_copyOf_6403c cJ7_copyOf_6403c 4 (some (.array (.object "java/lang/Object"))), Cond.classLink RJ7 110 "[Ljava/lang/Object;", Cond.classLink RJ7 2 "java/lang/Object", Cond.methodLink RJ7 304 Lib.Math.min.name, Cond.static Lib.Math.min.name, Cond.code Lib.Math.min.name Lib.Math.min.code 2 (some .int), Cond.methodLink RJ7 150 arraycopyName, Cond.native arraycopyName, Cond.static arraycopyName, Cond.initialized "java/lang/System"]
def wsJx4a65c_grow_d5877 : List Cond := .code yJx4a65c_grow_d5877 cJx4a65c_grow_d5877 1 (some (.array (.object "java/lang/Object"))) :: ((wsJx4a65c_grow_d5877_r1 ++ wsJx4a65c_grow_d5877_r2) ++ wsJx4a65c0)
def wsJx4a65c_add_72be8_r1 : List Cond := [Cond.fieldLink RJx4a65c 48 "java/util/ArrayList" "size" "I", Cond.methodLink RJx4a65c 129 yJx4a65c_grow_d5877, Cond.instanceMethod yJx4a65c_grow_d5877, Cond.selects RJx4a65c yJx4a65c_grow_d5877 yJx4a65c_grow_d5877, Cond.initialized RJx4a65c, Cond.code yJx4a65c_grow_d5877 cJx4a65c_grow_d5877 1 (some (.array (.object "java/lang/Object"))), Cond.methodLink RJx4a65c 69 yJx4a65c_grow_92f84, Cond.instanceMethod yJx4a65c_grow_92f84, Cond.selects RJx4a65c yJx4a65c_grow_92f84 yJx4a65c_grow_92f84, Cond.code yJx4a65c_grow_92f84 cJx4a65c_grow_92f84 4 (some (.array (.object "java/lang/Object"))), Cond.fieldLink RJx4a65c 9 "java/util/ArrayList" "elementData" "[Ljava/lang/Object;", Cond.fieldLink RJx4a65c 39 "java/util/ArrayList" "DEFAULTCAPACITY_EMPTY_ELEMENTDATA" "[Ljava/lang/Object;", Cond.methodLink RJx4a65c 79 Lib.Math.max.name, Cond.static Lib.Math.max.name, Cond.initialized "java/lang/Math", Cond.code Lib.Math.max.name Lib.Math.max.code 2 (some .int), Cond.classLink RJx4a65c 7 "java/lang/Object", Cond.methodLink RJx4a65c 73 yJ8_newLength_cabcc, Cond.static yJ8_newLength_cabcc, Cond.initialized RJ8, Cond.code yJ8_newLength_cabcc cJ8_newLength_cabcc 4 (some .int), Cond.methodLink RJ8 194 Lib.Math.max.name, Cond.constant RJ8 200 (2147483639), Cond.methodLink RJ8 201 yJ8_hugeLength_7cf53]
def wsJx4a65c_add_72be8_r2 : List Cond := [Cond.static yJ8_hugeLength_7cf53, Cond.code yJ8_hugeLength_7cf53 cJ8_hugeLength_7cf53 3 (some .int), Cond.methodLink RJx4a65c 66 yJ7_copyOf_1904c, Cond.static yJ7_copyOf_1904c, Cond.initialized RJ7, Cond.code yJ7_copyOf_1904c cJ7_copyOf_1904c 2 (some (.array (.object "java/lang/Object"))), Cond.methodLink RJ7 86 ⟨"java/lang/Object", "getClass", "()Ljava/lang/Class;"⟩, Cond.selects "[Ljava/lang/Object;" ⟨"java/lang/Object", "getClass", "()Ljava/lang/Class;"⟩ ⟨"java/lang/Object", "getClass", "()Ljava/lang/Class;"⟩, Cond.instanceMethod ⟨"java/lang/Object", "getClass", "()Ljava/lang/Class;"⟩, Cond.native ⟨"java/lang/Object", "getClass", "()Ljava/lang/Class;"⟩, Cond.methodLink RJ7 300 yJ7_copyOf_6403c, Cond.static yJ7_copyOf_6403c, Cond.code yJ7_copyOf_6403c cJ7_copyOf_6403c 4 (some (.array (.object "java/lang/Object"))), Cond.classLink RJ7 110 "[Ljava/lang/Object;", Cond.classLink RJ7 2 "java/lang/Object", Cond.methodLink RJ7 304 Lib.Math.min.name, Cond.static Lib.Math.min.name, Cond.code Lib.Math.min.name Lib.Math.min.code 2 (some .int), Cond.methodLink RJ7 150 arraycopyName, Cond.native arraycopyName, Cond.static arraycopyName, Cond.initialized "java/lang/System"]
def wsJx4a65c_add_72be8 : List Cond := .code yJx4a65c_add_72be8 cJx4a65c_add_72be8 4 none :: ((wsJx4a65c_add_72be8_r1 ++ wsJx4a65c_add_72be8_r2) ++ wsJx4a65c0)
def wsJx4a65c_add_9ea2d_r1 : List Cond := [Cond.fieldLink RJx4a65c 63 "java/util/ArrayList" "modCount" "I", Cond.sameField "java/util/ArrayList" "java/util/AbstractList" "modCount" "I", Cond.fieldLink RJx4a65c 9 "java/util/ArrayList" "elementData" "[Ljava/lang/Object;", Cond.fieldLink RJx4a65c 48 "java/util/ArrayList" "size" "I", Cond.methodLink RJx4a65c 131 yJx4a65c_add_72be8, Cond.instanceMethod yJx4a65c_add_72be8, Cond.selects RJx4a65c yJx4a65c_add_72be8 yJx4a65c_add_72be8, Cond.initialized RJx4a65c, Cond.code yJx4a65c_add_72be8 cJx4a65c_add_72be8 4 none, Cond.methodLink RJx4a65c 129 yJx4a65c_grow_d5877, Cond.instanceMethod yJx4a65c_grow_d5877, Cond.selects RJx4a65c yJx4a65c_grow_d5877 yJx4a65c_grow_d5877, Cond.code yJx4a65c_grow_d5877 cJx4a65c_grow_d5877 1 (some (.array (.object "java/lang/Object"))), Cond.methodLink RJx4a65c 69 yJx4a65c_grow_92f84, Cond.instanceMethod yJx4a65c_grow_92f84, Cond.selects RJx4a65c yJx4a65c_grow_92f84 yJx4a65c_grow_92f84, Cond.code yJx4a65c_grow_92f84 cJx4a65c_grow_92f84 4 (some (.array (.object "java/lang/Object"))), Cond.fieldLink RJx4a65c 39 "java/util/ArrayList" "DEFAULTCAPACITY_EMPTY_ELEMENTDATA" "[Ljava/lang/Object;", Cond.methodLink RJx4a65c 79 Lib.Math.max.name, Cond.static Lib.Math.max.name, Cond.initialized "java/lang/Math", Cond.code Lib.Math.max.name Lib.Math.max.code 2 (some .int), Cond.classLink RJx4a65c 7 "java/lang/Object", Cond.methodLink RJx4a65c 73 yJ8_newLength_cabcc]
def wsJx4a65c_add_9ea2d_r2 : List Cond := [Cond.static yJ8_newLength_cabcc, Cond.initialized RJ8, Cond.code yJ8_newLength_cabcc cJ8_newLength_cabcc 4 (some .int), Cond.methodLink RJ8 194 Lib.Math.max.name, Cond.constant RJ8 200 (2147483639), Cond.methodLink RJ8 201 yJ8_hugeLength_7cf53, Cond.static yJ8_hugeLength_7cf53, Cond.code yJ8_hugeLength_7cf53 cJ8_hugeLength_7cf53 3 (some .int), Cond.methodLink RJx4a65c 66 yJ7_copyOf_1904c, Cond.static yJ7_copyOf_1904c, Cond.initialized RJ7, Cond.code yJ7_copyOf_1904c cJ7_copyOf_1904c 2 (some (.array (.object "java/lang/Object"))), Cond.methodLink RJ7 86 ⟨"java/lang/Object", "getClass", "()Ljava/lang/Class;"⟩, Cond.selects "[Ljava/lang/Object;" ⟨"java/lang/Object", "getClass", "()Ljava/lang/Class;"⟩ ⟨"java/lang/Object", "getClass", "()Ljava/lang/Class;"⟩, Cond.instanceMethod ⟨"java/lang/Object", "getClass", "()Ljava/lang/Class;"⟩, Cond.native ⟨"java/lang/Object", "getClass", "()Ljava/lang/Class;"⟩, Cond.methodLink RJ7 300 yJ7_copyOf_6403c, Cond.static yJ7_copyOf_6403c, Cond.code yJ7_copyOf_6403c cJ7_copyOf_6403c 4 (some (.array (.object "java/lang/Object"))), Cond.classLink RJ7 110 "[Ljava/lang/Object;", Cond.classLink RJ7 2 "java/lang/Object", Cond.methodLink RJ7 304 Lib.Math.min.name, Cond.static Lib.Math.min.name, Cond.code Lib.Math.min.name Lib.Math.min.code 2 (some .int)]
def wsJx4a65c_add_9ea2d_r3 : List Cond := [Cond.methodLink RJ7 150 arraycopyName, Cond.native arraycopyName, Cond.static arraycopyName, Cond.initialized "java/lang/System"]
def wsJx4a65c_add_9ea2d : List Cond := .code yJx4a65c_add_9ea2d cJx4a65c_add_9ea2d 2 (some .boolean) :: ((wsJx4a65c_add_9ea2d_r1 ++ (wsJx4a65c_add_9ea2d_r2 ++ wsJx4a65c_add_9ea2d_r3)) ++ wsJx4a65c0)
def wsX4_save_r1 : List Cond := [Cond.classLink RX4 69 "java/lang/IllegalStateException", Cond.initialized "java/lang/IllegalStateException", Cond.fieldLink RX4 22 "Warren" "saved" "Ljava/util/List;", Cond.classLink RX4 9 RX2, Cond.instantiable RX2 8, Cond.initialized RX2, Cond.fieldLink RX4 12 "Warren" "state" "LWarren$State;", Cond.methodLink RX4 190 ⟨"java/util/List", "size", "()I"⟩, Cond.selects RJx4a65c ⟨"java/util/List", "size", "()I"⟩ yJx4a65c_size_8abf5, Cond.instanceMethod yJx4a65c_size_8abf5, Cond.initialized RJx4a65c, Cond.code yJx4a65c_size_8abf5 cJx4a65c_size_8abf5 1 (some .int), Cond.fieldLink RJx4a65c 48 "java/util/ArrayList" "size" "I", Cond.methodLink RX4 11 yX2_init, Cond.instanceMethod yX2_init, Cond.code yX2_init cX2_init 1 none, Cond.methodLink RX2 3 objectInit, Cond.instanceMethod objectInit, Cond.code objectInit ⟨#[0xb1]⟩ 1 none, Cond.arrayClass .int, Cond.fieldLink RX2 9 "Warren$State" "kinds" "[I", Cond.fieldLink RX2 15 "Warren$State" "known" "[I", Cond.fieldLink RX2 18 "Warren$State" "traits" "[I", Cond.fieldLink RX2 21 "Warren$State" "stacks" "[I"]
def wsX4_save_r2 : List Cond := [Cond.fieldLink RX2 24 "Warren$State" "turns" "[I", Cond.methodLink RX2 27 yJ7_fill_53178, Cond.static yJ7_fill_53178, Cond.initialized RJ7, Cond.code yJ7_fill_53178 cJ7_fill_53178 4 none, Cond.methodLink RX4 197 yX2_copyFrom, Cond.instanceMethod yX2_copyFrom, Cond.selects RX2 yX2_copyFrom yX2_copyFrom, Cond.code yX2_copyFrom cX2_copyFrom 2 none, Cond.methodLink RX2 33 arraycopyName, Cond.native arraycopyName, Cond.static arraycopyName, Cond.initialized "java/lang/System", Cond.fieldLink RX2 39 "Warren$State" "beings" "I", Cond.fieldLink RX2 43 "Warren$State" "actions" "I", Cond.fieldLink RX2 46 "Warren$State" "hits" "I", Cond.methodLink RX4 201 ⟨"java/util/List", "add", "(Ljava/lang/Object;)Z"⟩, Cond.selects RJx4a65c ⟨"java/util/List", "add", "(Ljava/lang/Object;)Z"⟩ yJx4a65c_add_9ea2d, Cond.instanceMethod yJx4a65c_add_9ea2d, Cond.code yJx4a65c_add_9ea2d cJx4a65c_add_9ea2d 2 (some .boolean), Cond.fieldLink RJx4a65c 63 "java/util/ArrayList" "modCount" "I", Cond.sameField "java/util/ArrayList" "java/util/AbstractList" "modCount" "I", Cond.fieldLink RJx4a65c 9 "java/util/ArrayList" "elementData" "[Ljava/lang/Object;", Cond.methodLink RJx4a65c 131 yJx4a65c_add_72be8]
def wsX4_save_r3 : List Cond := [Cond.instanceMethod yJx4a65c_add_72be8, Cond.selects RJx4a65c yJx4a65c_add_72be8 yJx4a65c_add_72be8, Cond.code yJx4a65c_add_72be8 cJx4a65c_add_72be8 4 none, Cond.methodLink RJx4a65c 129 yJx4a65c_grow_d5877, Cond.instanceMethod yJx4a65c_grow_d5877, Cond.selects RJx4a65c yJx4a65c_grow_d5877 yJx4a65c_grow_d5877, Cond.code yJx4a65c_grow_d5877 cJx4a65c_grow_d5877 1 (some (.array (.object "java/lang/Object"))), Cond.methodLink RJx4a65c 69 yJx4a65c_grow_92f84, Cond.instanceMethod yJx4a65c_grow_92f84, Cond.selects RJx4a65c yJx4a65c_grow_92f84 yJx4a65c_grow_92f84, Cond.code yJx4a65c_grow_92f84 cJx4a65c_grow_92f84 4 (some (.array (.object "java/lang/Object"))), Cond.fieldLink RJx4a65c 39 "java/util/ArrayList" "DEFAULTCAPACITY_EMPTY_ELEMENTDATA" "[Ljava/lang/Object;", Cond.methodLink RJx4a65c 79 Lib.Math.max.name, Cond.static Lib.Math.max.name, Cond.initialized "java/lang/Math", Cond.code Lib.Math.max.name Lib.Math.max.code 2 (some .int), Cond.classLink RJx4a65c 7 "java/lang/Object", Cond.methodLink RJx4a65c 73 yJ8_newLength_cabcc, Cond.static yJ8_newLength_cabcc, Cond.initialized RJ8, Cond.code yJ8_newLength_cabcc cJ8_newLength_cabcc 4 (some .int), Cond.methodLink RJ8 194 Lib.Math.max.name, Cond.constant RJ8 200 (2147483639), Cond.methodLink RJ8 201 yJ8_hugeLength_7cf53]
def wsX4_save_r4 : List Cond := [Cond.static yJ8_hugeLength_7cf53, Cond.code yJ8_hugeLength_7cf53 cJ8_hugeLength_7cf53 3 (some .int), Cond.methodLink RJx4a65c 66 yJ7_copyOf_1904c, Cond.static yJ7_copyOf_1904c, Cond.code yJ7_copyOf_1904c cJ7_copyOf_1904c 2 (some (.array (.object "java/lang/Object"))), Cond.methodLink RJ7 86 ⟨"java/lang/Object", "getClass", "()Ljava/lang/Class;"⟩, Cond.selects "[Ljava/lang/Object;" ⟨"java/lang/Object", "getClass", "()Ljava/lang/Class;"⟩ ⟨"java/lang/Object", "getClass", "()Ljava/lang/Class;"⟩, Cond.instanceMethod ⟨"java/lang/Object", "getClass", "()Ljava/lang/Class;"⟩, Cond.native ⟨"java/lang/Object", "getClass", "()Ljava/lang/Class;"⟩, Cond.methodLink RJ7 300 yJ7_copyOf_6403c, Cond.static yJ7_copyOf_6403c, Cond.code yJ7_copyOf_6403c cJ7_copyOf_6403c 4 (some (.array (.object "java/lang/Object"))), Cond.classLink RJ7 110 "[Ljava/lang/Object;", Cond.classLink RJ7 2 "java/lang/Object", Cond.methodLink RJ7 304 Lib.Math.min.name, Cond.static Lib.Math.min.name, Cond.code Lib.Math.min.name Lib.Math.min.code 2 (some .int), Cond.methodLink RJ7 150 arraycopyName]
def wsX4_save : List Cond := .code yX4_save cX4_save 2 (some .int) :: ((wsX4_save_r1 ++ (wsX4_save_r2 ++ (wsX4_save_r3 ++ wsX4_save_r4))) ++ wsX40 ++ wsX20 ++ wsJx4a65c0 ++ (vx_atS RX4 73 "java/lang/IllegalStateException" ["java/lang/RuntimeException", "java/lang/Exception"]).filter goodWord)
def wsJ3_checkIndex_8e157 : List Cond := .code yJ3_checkIndex_8e157 cJ3_checkIndex_8e157 3 (some .int) :: ([])
def wsJ15_checkIndex_7cf53 : List Cond := .code yJ15_checkIndex_7cf53 cJ15_checkIndex_7cf53 2 (some .int) :: ([.methodLink RJ15 105 yJ3_checkIndex_8e157, .static yJ3_checkIndex_8e157, .initialized RJ3, .code yJ3_checkIndex_8e157 cJ3_checkIndex_8e157 3 (some .int)])
def wsJx4a65c_elementData_915e3 : List Cond := .code yJx4a65c_elementData_915e3 cJx4a65c_elementData_915e3 2 (some (.object "java/lang/Object")) :: ([.fieldLink RJx4a65c 9 "java/util/ArrayList" "elementData" "[Ljava/lang/Object;"] ++ wsJx4a65c0)
def wsJx4a65c_get_915e3 : List Cond := .code yJx4a65c_get_915e3 cJx4a65c_get_915e3 2 (some (.object "java/lang/Object")) :: ([.fieldLink RJx4a65c 48 "java/util/ArrayList" "size" "I", .methodLink RJx4a65c 118 yJ15_checkIndex_7cf53, .static yJ15_checkIndex_7cf53, .initialized RJ15, .code yJ15_checkIndex_7cf53 cJ15_checkIndex_7cf53 2 (some .int), .methodLink RJ15 105 yJ3_checkIndex_8e157, .static yJ3_checkIndex_8e157, .initialized RJ3, .code yJ3_checkIndex_8e157 cJ3_checkIndex_8e157 3 (some .int), .methodLink RJx4a65c 123 yJx4a65c_elementData_915e3, .instanceMethod yJx4a65c_elementData_915e3, .selects RJx4a65c yJx4a65c_elementData_915e3 yJx4a65c_elementData_915e3, .initialized RJx4a65c, .code yJx4a65c_elementData_915e3 cJx4a65c_elementData_915e3 2 (some (.object "java/lang/Object")), .fieldLink RJx4a65c 9 "java/util/ArrayList" "elementData" "[Ljava/lang/Object;"] ++ wsJx4a65c0)
def wsX4_load_r1 : List Cond := [Cond.classLink RX4 52 "java/lang/IndexOutOfBoundsException", Cond.initialized "java/lang/IndexOutOfBoundsException", Cond.fieldLink RX4 22 "Warren" "saved" "Ljava/util/List;", Cond.fieldLink RX4 12 "Warren" "state" "LWarren$State;", Cond.classLink RX4 9 "Warren$State", Cond.methodLink RX4 190 ⟨"java/util/List", "size", "()I"⟩, Cond.selects RJx4a65c ⟨"java/util/List", "size", "()I"⟩ yJx4a65c_size_8abf5, Cond.instanceMethod yJx4a65c_size_8abf5, Cond.initialized RJx4a65c, Cond.code yJx4a65c_size_8abf5 cJx4a65c_size_8abf5 1 (some .int), Cond.fieldLink RJx4a65c 48 "java/util/ArrayList" "size" "I", Cond.methodLink RX4 207 ⟨"java/util/List", "get", "(I)Ljava/lang/Object;"⟩, Cond.selects RJx4a65c ⟨"java/util/List", "get", "(I)Ljava/lang/Object;"⟩ yJx4a65c_get_915e3, Cond.instanceMethod yJx4a65c_get_915e3, Cond.code yJx4a65c_get_915e3 cJx4a65c_get_915e3 2 (some (.object "java/lang/Object")), Cond.methodLink RJx4a65c 118 yJ15_checkIndex_7cf53, Cond.static yJ15_checkIndex_7cf53, Cond.initialized RJ15, Cond.code yJ15_checkIndex_7cf53 cJ15_checkIndex_7cf53 2 (some .int), Cond.methodLink RJ15 105 yJ3_checkIndex_8e157, Cond.static yJ3_checkIndex_8e157, Cond.initialized RJ3, Cond.code yJ3_checkIndex_8e157 cJ3_checkIndex_8e157 3 (some .int), Cond.methodLink RJx4a65c 123 yJx4a65c_elementData_915e3]
def wsX4_load_r2 : List Cond := [Cond.instanceMethod yJx4a65c_elementData_915e3, Cond.selects RJx4a65c yJx4a65c_elementData_915e3 yJx4a65c_elementData_915e3, Cond.code yJx4a65c_elementData_915e3 cJx4a65c_elementData_915e3 2 (some (.object "java/lang/Object")), Cond.fieldLink RJx4a65c 9 "java/util/ArrayList" "elementData" "[Ljava/lang/Object;", Cond.methodLink RX4 197 yX2_copyFrom, Cond.instanceMethod yX2_copyFrom, Cond.selects RX2 yX2_copyFrom yX2_copyFrom, Cond.initialized RX2, Cond.code yX2_copyFrom cX2_copyFrom 2 none, Cond.fieldLink RX2 9 "Warren$State" "kinds" "[I", Cond.methodLink RX2 33 arraycopyName, Cond.native arraycopyName, Cond.static arraycopyName, Cond.initialized "java/lang/System", Cond.fieldLink RX2 15 "Warren$State" "known" "[I", Cond.fieldLink RX2 18 "Warren$State" "traits" "[I", Cond.fieldLink RX2 21 "Warren$State" "stacks" "[I", Cond.fieldLink RX2 24 "Warren$State" "turns" "[I", Cond.fieldLink RX2 39 "Warren$State" "beings" "I", Cond.fieldLink RX2 43 "Warren$State" "actions" "I", Cond.fieldLink RX2 46 "Warren$State" "hits" "I", Cond.methodLink RX4 211 yX2_living, Cond.instanceMethod yX2_living, Cond.selects RX2 yX2_living yX2_living]
def wsX4_load_r3 : List Cond := [Cond.code yX2_living cX2_living 4 (some .int), Cond.methodLink RX2 86 yX2_trait, Cond.instanceMethod yX2_trait, Cond.selects RX2 yX2_trait yX2_trait, Cond.code yX2_trait cX2_trait 4 (some .int), Cond.methodLink RX2 117 yX2_isAlive, Cond.instanceMethod yX2_isAlive, Cond.selects RX2 yX2_isAlive yX2_isAlive, Cond.code yX2_isAlive cX2_isAlive 2 (some .boolean)]
def wsX4_load : List Cond := .code yX4_load cX4_load 2 (some .int) :: ((wsX4_load_r1 ++ (wsX4_load_r2 ++ wsX4_load_r3)) ++ wsX40 ++ wsJx4a65c0 ++ wsX20 ++ (vx_atS RX4 56 "java/lang/IndexOutOfBoundsException" ["java/lang/RuntimeException", "java/lang/Exception"]).filter goodWord)
def wsX4_hit_r1 : List Cond := [Cond.classLink RX4 52 "java/lang/IndexOutOfBoundsException", Cond.initialized "java/lang/IndexOutOfBoundsException", Cond.fieldLink RX4 12 "Warren" "state" "LWarren$State;", Cond.methodLink RX4 105 yX2_isBeing, Cond.instanceMethod yX2_isBeing, Cond.selects RX2 yX2_isBeing yX2_isBeing, Cond.initialized RX2, Cond.code yX2_isBeing cX2_isBeing 2 (some .boolean), Cond.fieldLink RX2 39 "Warren$State" "beings" "I", Cond.methodLink RX4 214 yX2_hitOf, Cond.instanceMethod yX2_hitOf, Cond.selects RX2 yX2_hitOf yX2_hitOf, Cond.code yX2_hitOf cX2_hitOf 5 (some .int), Cond.methodLink RX2 66 Lib.Math.max.name, Cond.static Lib.Math.max.name, Cond.initialized "java/lang/Math", Cond.code Lib.Math.max.name Lib.Math.max.code 2 (some .int), Cond.methodLink RX2 117 yX2_isAlive, Cond.instanceMethod yX2_isAlive, Cond.selects RX2 yX2_isAlive yX2_isAlive, Cond.code yX2_isAlive cX2_isAlive 2 (some .boolean), Cond.methodLink RX2 86 yX2_trait, Cond.instanceMethod yX2_trait, Cond.selects RX2 yX2_trait yX2_trait]
def wsX4_hit_r2 : List Cond := [Cond.code yX2_trait cX2_trait 4 (some .int), Cond.fieldLink RX2 18 "Warren$State" "traits" "[I", Cond.methodLink RX2 92 yX2_stackOf, Cond.instanceMethod yX2_stackOf, Cond.selects RX2 yX2_stackOf yX2_stackOf, Cond.code yX2_stackOf cX2_stackOf 4 (some .int), Cond.fieldLink RX2 21 "Warren$State" "stacks" "[I"]
def wsX4_hit : List Cond := .code yX4_hit cX4_hit 3 (some .int) :: ((wsX4_hit_r1 ++ wsX4_hit_r2) ++ wsX40 ++ wsX20 ++ (vx_atS RX4 56 "java/lang/IndexOutOfBoundsException" ["java/lang/RuntimeException", "java/lang/Exception"]).filter goodWord)
def wsX4_ahead_r1 : List Cond := [Cond.classLink RX4 37 "java/lang/IllegalArgumentException", Cond.initialized "java/lang/IllegalArgumentException", Cond.fieldLink RX4 12 "Warren" "state" "LWarren$State;", Cond.fieldLink RX4 16 "Warren" "trial" "LWarren$State;", Cond.methodLink RX4 33 yX4_isWithin, Cond.static yX4_isWithin, Cond.initialized RX4, Cond.code yX4_isWithin cX4_isWithin 3 (some .boolean), Cond.methodLink RX4 197 yX2_copyFrom, Cond.instanceMethod yX2_copyFrom, Cond.selects RX2 yX2_copyFrom yX2_copyFrom, Cond.initialized RX2, Cond.code yX2_copyFrom cX2_copyFrom 2 none, Cond.fieldLink RX2 9 "Warren$State" "kinds" "[I", Cond.methodLink RX2 33 arraycopyName, Cond.native arraycopyName, Cond.static arraycopyName, Cond.initialized "java/lang/System", Cond.fieldLink RX2 15 "Warren$State" "known" "[I", Cond.fieldLink RX2 18 "Warren$State" "traits" "[I", Cond.fieldLink RX2 21 "Warren$State" "stacks" "[I", Cond.fieldLink RX2 24 "Warren$State" "turns" "[I", Cond.fieldLink RX2 39 "Warren$State" "beings" "I", Cond.fieldLink RX2 43 "Warren$State" "actions" "I"]
def wsX4_ahead_r2 : List Cond := [Cond.fieldLink RX2 46 "Warren$State" "hits" "I", Cond.methodLink RX4 169 yX4_play, Cond.instanceMethod yX4_play, Cond.selects RX4 yX4_play yX4_play, Cond.code yX4_play cX4_play 4 (some .int), Cond.fieldLink RX4 29 "Warren" "mind" "LWarren$Mind;", Cond.methodLink RX4 211 yX2_living, Cond.instanceMethod yX2_living, Cond.selects RX2 yX2_living yX2_living, Cond.code yX2_living cX2_living 4 (some .int), Cond.methodLink RX2 86 yX2_trait, Cond.instanceMethod yX2_trait, Cond.selects RX2 yX2_trait yX2_trait, Cond.code yX2_trait cX2_trait 4 (some .int), Cond.methodLink RX2 117 yX2_isAlive, Cond.instanceMethod yX2_isAlive, Cond.selects RX2 yX2_isAlive yX2_isAlive, Cond.code yX2_isAlive cX2_isAlive 2 (some .boolean), Cond.methodLink RX4 151 yX2_whoseTurn, Cond.instanceMethod yX2_whoseTurn, Cond.selects RX2 yX2_whoseTurn yX2_whoseTurn, Cond.code yX2_whoseTurn cX2_whoseTurn 3 (some .int), Cond.methodLink RX4 180 yX0_weigh, Cond.instanceMethod yX0_weigh]
def wsX4_ahead_r3 : List Cond := [Cond.selects RX0 yX0_weigh yX0_weigh, Cond.initialized RX0, Cond.code yX0_weigh cX0_weigh 7 none, Cond.fieldLink RX0 12 "Warren$Mind" "ways" "LWarren$Ways;", Cond.fieldLink RX0 18 "Warren$Mind" "worths" "[I", Cond.methodLink RX0 40 yX2_targetOf, Cond.instanceMethod yX2_targetOf, Cond.selects RX2 yX2_targetOf yX2_targetOf, Cond.code yX2_targetOf cX2_targetOf 7 (some .int), Cond.methodLink RX2 120 yX2_isFoe, Cond.instanceMethod yX2_isFoe, Cond.selects RX2 yX2_isFoe yX2_isFoe, Cond.code yX2_isFoe cX2_isFoe 3 (some .boolean), Cond.methodLink RX2 73 yX2_apart, Cond.static yX2_apart, Cond.code yX2_apart cX2_apart 4 (some .int), Cond.methodLink RX2 61 Lib.Math.abs.name, Cond.static Lib.Math.abs.name, Cond.initialized "java/lang/Math", Cond.code Lib.Math.abs.name Lib.Math.abs.code 1 (some .int), Cond.methodLink RX2 66 Lib.Math.max.name, Cond.static Lib.Math.max.name, Cond.code Lib.Math.max.name Lib.Math.max.code 2 (some .int), Cond.methodLink RX2 89 yX2_isSeenFrom]
def wsX4_ahead_r4 : List Cond := [Cond.instanceMethod yX2_isSeenFrom, Cond.selects RX2 yX2_isSeenFrom yX2_isSeenFrom, Cond.code yX2_isSeenFrom cX2_isSeenFrom 8 (some .boolean), Cond.methodLink RX2 76 yX2_nearest, Cond.static yX2_nearest, Cond.code yX2_nearest cX2_nearest 2 (some .int), Cond.methodLink RX2 70 yJ9_floorDiv_7cf53, Cond.static yJ9_floorDiv_7cf53, Cond.initialized RJ9, Cond.code yJ9_floorDiv_7cf53 cJ9_floorDiv_7cf53 3 (some .int), Cond.methodLink RX2 53 yX2_kindAt, Cond.instanceMethod yX2_kindAt, Cond.selects RX2 yX2_kindAt yX2_kindAt, Cond.code yX2_kindAt cX2_kindAt 2 (some .int), Cond.static yX4_stopsSight, Cond.code yX4_stopsSight cX4_stopsSight 1 (some .boolean), Cond.methodLink RX0 43 yX2_firstFoe, Cond.instanceMethod yX2_firstFoe, Cond.selects RX2 yX2_firstFoe yX2_firstFoe, Cond.code yX2_firstFoe cX2_firstFoe 3 (some .int), Cond.methodLink RX0 32 yX2_trait, Cond.methodLink RX0 28 yX3_measure, Cond.instanceMethod yX3_measure, Cond.selects RX3 yX3_measure yX3_measure]
def wsX4_ahead_r5 : List Cond := [Cond.initialized RX3, Cond.code yX3_measure cX3_measure 5 none, Cond.fieldLink RX3 9 "Warren$Ways" "lengths" "[I", Cond.fieldLink RX3 24 "Warren$Ways" "queued" "I", Cond.methodLink RX3 18 yJ7_fill_53178, Cond.static yJ7_fill_53178, Cond.initialized RJ7, Cond.code yJ7_fill_53178 cJ7_fill_53178 4 none, Cond.methodLink RX3 28 yX2_kindAt, Cond.methodLink RX3 37 yX2_trait, Cond.methodLink RX3 41 yX3_putLength, Cond.instanceMethod yX3_putLength, Cond.selects RX3 yX3_putLength yX3_putLength, Cond.code yX3_putLength cX3_putLength 3 none, Cond.methodLink RX3 45 yX3_enqueue, Cond.instanceMethod yX3_enqueue, Cond.selects RX3 yX3_enqueue yX3_enqueue, Cond.code yX3_enqueue cX3_enqueue 2 none, Cond.fieldLink RX3 15 "Warren$Ways" "queue" "[I", Cond.methodLink RX3 49 yX3_spread, Cond.instanceMethod yX3_spread, Cond.selects RX3 yX3_spread yX3_spread, Cond.code yX3_spread cX3_spread 6 none, Cond.methodLink RX3 53 yX3_lengthAt]
def wsX4_ahead_r6 : List Cond := [Cond.instanceMethod yX3_lengthAt, Cond.selects RX3 yX3_lengthAt yX3_lengthAt, Cond.code yX3_lengthAt cX3_lengthAt 2 (some .int), Cond.methodLink RX3 61 yX3_reachAround, Cond.instanceMethod yX3_reachAround, Cond.selects RX3 yX3_reachAround yX3_reachAround, Cond.code yX3_reachAround cX3_reachAround 6 none, Cond.methodLink RX0 46 yX1_isPossible, Cond.static yX1_isPossible, Cond.initialized RX1, Cond.code yX1_isPossible cX1_isPossible 3 (some .boolean), Cond.methodLink RX1 9 yX2_isAlive, Cond.methodLink RX1 15 yX1_cellTowards, Cond.static yX1_cellTowards, Cond.code yX1_cellTowards cX1_cellTowards 5 (some .int), Cond.methodLink RX1 25 yX2_trait, Cond.methodLink RX1 21 yX1_canGo, Cond.static yX1_canGo, Cond.code yX1_canGo cX1_canGo 4 (some .boolean), Cond.methodLink RX1 33 yX2_kindAt, Cond.methodLink RX1 36 yX2_whoIsOn, Cond.instanceMethod yX2_whoIsOn, Cond.selects RX2 yX2_whoIsOn yX2_whoIsOn, Cond.code yX2_whoIsOn cX2_whoIsOn 3 (some .int)]
def wsX4_ahead_r7 : List Cond := [Cond.methodLink RX1 39 yX2_isFoe, Cond.methodLink RX1 29 yX2_targetOf, Cond.methodLink RX0 52 yX0_worthIfPossible, Cond.instanceMethod yX0_worthIfPossible, Cond.selects RX0 yX0_worthIfPossible yX0_worthIfPossible, Cond.code yX0_worthIfPossible cX0_worthIfPossible 5 (some .int), Cond.methodLink RX0 56 yX2_stackOf, Cond.instanceMethod yX2_stackOf, Cond.selects RX2 yX2_stackOf yX2_stackOf, Cond.code yX2_stackOf cX2_stackOf 4 (some .int), Cond.methodLink RX0 59 yX0_worthOfGuard, Cond.instanceMethod yX0_worthOfGuard, Cond.selects RX0 yX0_worthOfGuard yX0_worthOfGuard, Cond.code yX0_worthOfGuard cX0_worthOfGuard 4 (some .int), Cond.methodLink RX0 70 yX2_isAfraid, Cond.instanceMethod yX2_isAfraid, Cond.selects RX2 yX2_isAfraid yX2_isAfraid, Cond.code yX2_isAfraid cX2_isAfraid 2 (some .boolean), Cond.methodLink RX0 73 yX2_hasFoeBeside, Cond.instanceMethod yX2_hasFoeBeside, Cond.selects RX2 yX2_hasFoeBeside yX2_hasFoeBeside, Cond.code yX2_hasFoeBeside cX2_hasFoeBeside 3 (some .boolean), Cond.methodLink RX2 126 yX2_whoIsOn, Cond.methodLink RX0 63 yX1_cellTowards]
def wsX4_ahead_r8 : List Cond := [Cond.methodLink RX0 67 yX0_worthOfGo, Cond.instanceMethod yX0_worthOfGo, Cond.selects RX0 yX0_worthOfGo yX0_worthOfGo, Cond.code yX0_worthOfGo cX0_worthOfGo 7 (some .int), Cond.methodLink RX0 76 yX2_whoIsOn, Cond.methodLink RX0 79 yX2_hitOf, Cond.instanceMethod yX2_hitOf, Cond.selects RX2 yX2_hitOf yX2_hitOf, Cond.code yX2_hitOf cX2_hitOf 5 (some .int), Cond.methodLink RX2 92 yX2_stackOf, Cond.methodLink RX0 82 yX2_kindAt, Cond.methodLink RX0 36 yX3_from, Cond.instanceMethod yX3_from, Cond.selects RX3 yX3_from yX3_from, Cond.code yX3_from cX3_from 2 (some .int), Cond.methodLink RX3 56 Lib.Math.max.name, Cond.methodLink RX4 187 yX0_best, Cond.instanceMethod yX0_best, Cond.selects RX0 yX0_best yX0_best, Cond.code yX0_best cX0_best 4 (some .int), Cond.methodLink RX4 163 yX1_perform, Cond.static yX1_perform, Cond.code yX1_perform cX1_perform 5 (some .int), Cond.methodLink RX1 50 Lib.Math.min.name]
def wsX4_ahead_r9 : List Cond := [Cond.static Lib.Math.min.name, Cond.code Lib.Math.min.name Lib.Math.min.code 2 (some .int), Cond.methodLink RX1 47 yX2_stackOf, Cond.methodLink RX1 55 yX2_putTrait, Cond.instanceMethod yX2_putTrait, Cond.selects RX2 yX2_putTrait yX2_putTrait, Cond.code yX2_putTrait cX2_putTrait 5 none, Cond.methodLink RX1 59 yX1_go, Cond.static yX1_go, Cond.code yX1_go cX1_go 4 (some .int), Cond.methodLink RX1 85 yX2_hitOf, Cond.methodLink RX1 88 yX2_takeLife, Cond.instanceMethod yX2_takeLife, Cond.selects RX2 yX2_takeLife yX2_takeLife, Cond.code yX2_takeLife cX2_takeLife 5 (some .int), Cond.methodLink RX2 95 Lib.Math.min.name, Cond.methodLink RX2 109 yX2_putTrait, Cond.methodLink RX1 91 yX2_putKind, Cond.instanceMethod yX2_putKind, Cond.selects RX2 yX2_putKind yX2_putKind, Cond.code yX2_putKind cX2_putKind 3 none, Cond.methodLink RX1 62 yX1_conjure, Cond.static yX1_conjure, Cond.code yX1_conjure cX1_conjure 3 none]
def wsX4_ahead_r10 : List Cond := [Cond.methodLink RX1 95 yX2_addEffect, Cond.instanceMethod yX2_addEffect, Cond.selects RX2 yX2_addEffect yX2_addEffect, Cond.code yX2_addEffect cX2_addEffect 5 none, Cond.methodLink RX2 98 yX2_turnsOf, Cond.instanceMethod yX2_turnsOf, Cond.selects RX2 yX2_turnsOf yX2_turnsOf, Cond.code yX2_turnsOf cX2_turnsOf 4 (some .int), Cond.methodLink RX2 101 yX2_putEffect, Cond.instanceMethod yX2_putEffect, Cond.selects RX2 yX2_putEffect yX2_putEffect, Cond.code yX2_putEffect cX2_putEffect 6 none, Cond.methodLink RX1 70 yX1_wearOff, Cond.static yX1_wearOff, Cond.code yX1_wearOff cX1_wearOff 4 none, Cond.methodLink RX1 102 Lib.Math.max.name, Cond.methodLink RX1 99 yX2_turnsOf, Cond.methodLink RX1 105 yX2_putEffect, Cond.methodLink RX1 74 yX1_passTime, Cond.static yX1_passTime, Cond.code yX1_passTime cX1_passTime 5 none, Cond.methodLink RX1 78 yX2_look, Cond.instanceMethod yX2_look, Cond.selects RX2 yX2_look yX2_look]
def wsX4_ahead_r11 : List Cond := [Cond.code yX2_look cX2_look 5 none, Cond.methodLink RX2 82 yX2_isKnown, Cond.instanceMethod yX2_isKnown, Cond.selects RX2 yX2_isKnown yX2_isKnown, Cond.code yX2_isKnown cX2_isKnown 3 (some .boolean), Cond.methodLink RX4 217 yX2_lifeOf, Cond.instanceMethod yX2_lifeOf, Cond.selects RX2 yX2_lifeOf yX2_lifeOf, Cond.code yX2_lifeOf cX2_lifeOf 4 (some .int)]
def wsX4_ahead : List Cond := .code yX4_ahead cX4_ahead 3 (some .int) :: ((wsX4_ahead_r1 ++ (wsX4_ahead_r2 ++ (wsX4_ahead_r3 ++ (wsX4_ahead_r4 ++ (wsX4_ahead_r5 ++ (wsX4_ahead_r6 ++ (wsX4_ahead_r7 ++ (wsX4_ahead_r8 ++ (wsX4_ahead_r9 ++ (wsX4_ahead_r10 ++ wsX4_ahead_r11)))))))))) ++ wsX40 ++ wsX20 ++ wsX00 ++ wsX30 ++ (vx_atS RX4 41 "java/lang/IllegalArgumentException" ["java/lang/RuntimeException", "java/lang/Exception"]).filter goodWord)
def wsX4_danger_r1 : List Cond := [Cond.classLink RX4 37 "java/lang/IllegalArgumentException", Cond.initialized "java/lang/IllegalArgumentException", Cond.classLink RX4 52 "java/lang/IndexOutOfBoundsException", Cond.initialized "java/lang/IndexOutOfBoundsException", Cond.fieldLink RX4 12 "Warren" "state" "LWarren$State;", Cond.methodLink RX4 85 yX4_isSide, Cond.static yX4_isSide, Cond.initialized RX4, Cond.code yX4_isSide cX4_isSide 1 (some .boolean), Cond.methodLink RX4 48 yX4_isCell, Cond.static yX4_isCell, Cond.code yX4_isCell cX4_isCell 1 (some .boolean), Cond.methodLink RX4 220 yX2_watchersOf, Cond.instanceMethod yX2_watchersOf, Cond.selects RX2 yX2_watchersOf yX2_watchersOf, Cond.initialized RX2, Cond.code yX2_watchersOf cX2_watchersOf 5 (some .int), Cond.fieldLink RX2 39 "Warren$State" "beings" "I", Cond.methodLink RX2 117 yX2_isAlive, Cond.instanceMethod yX2_isAlive, Cond.selects RX2 yX2_isAlive yX2_isAlive, Cond.code yX2_isAlive cX2_isAlive 2 (some .boolean), Cond.methodLink RX2 86 yX2_trait, Cond.instanceMethod yX2_trait]
def wsX4_danger_r2 : List Cond := [Cond.selects RX2 yX2_trait yX2_trait, Cond.code yX2_trait cX2_trait 4 (some .int), Cond.fieldLink RX2 18 "Warren$State" "traits" "[I", Cond.methodLink RX2 89 yX2_isSeenFrom, Cond.instanceMethod yX2_isSeenFrom, Cond.selects RX2 yX2_isSeenFrom yX2_isSeenFrom, Cond.code yX2_isSeenFrom cX2_isSeenFrom 8 (some .boolean), Cond.methodLink RX2 73 yX2_apart, Cond.static yX2_apart, Cond.code yX2_apart cX2_apart 4 (some .int), Cond.methodLink RX2 61 Lib.Math.abs.name, Cond.static Lib.Math.abs.name, Cond.initialized "java/lang/Math", Cond.code Lib.Math.abs.name Lib.Math.abs.code 1 (some .int), Cond.methodLink RX2 66 Lib.Math.max.name, Cond.static Lib.Math.max.name, Cond.code Lib.Math.max.name Lib.Math.max.code 2 (some .int), Cond.methodLink RX2 76 yX2_nearest, Cond.static yX2_nearest, Cond.code yX2_nearest cX2_nearest 2 (some .int), Cond.methodLink RX2 70 yJ9_floorDiv_7cf53, Cond.static yJ9_floorDiv_7cf53, Cond.initialized RJ9, Cond.code yJ9_floorDiv_7cf53 cJ9_floorDiv_7cf53 3 (some .int)]
def wsX4_danger_r3 : List Cond := [Cond.methodLink RX2 53 yX2_kindAt, Cond.instanceMethod yX2_kindAt, Cond.selects RX2 yX2_kindAt yX2_kindAt, Cond.code yX2_kindAt cX2_kindAt 2 (some .int), Cond.fieldLink RX2 9 "Warren$State" "kinds" "[I", Cond.static yX4_stopsSight, Cond.code yX4_stopsSight cX4_stopsSight 1 (some .boolean)]
def wsX4_danger : List Cond := .code yX4_danger cX4_danger 3 (some .int) :: ((wsX4_danger_r1 ++ (wsX4_danger_r2 ++ wsX4_danger_r3)) ++ wsX40 ++ wsX20 ++ (vx_atS RX4 41 "java/lang/IllegalArgumentException" ["java/lang/RuntimeException", "java/lang/Exception"]).filter goodWord ++ (vx_atS RX4 56 "java/lang/IndexOutOfBoundsException" ["java/lang/RuntimeException", "java/lang/Exception"]).filter goodWord)
def wsX4_meanLife : List Cond := .code yX4_meanLife cX4_meanLife 2 (some .double) :: ([.fieldLink RX4 12 "Warren" "state" "LWarren$State;", .methodLink RX4 211 yX2_living, .instanceMethod yX2_living, .selects RX2 yX2_living yX2_living, .initialized RX2, .code yX2_living cX2_living 4 (some .int), .fieldLink RX2 39 "Warren$State" "beings" "I", .methodLink RX2 86 yX2_trait, .instanceMethod yX2_trait, .selects RX2 yX2_trait yX2_trait, .code yX2_trait cX2_trait 4 (some .int), .fieldLink RX2 18 "Warren$State" "traits" "[I", .methodLink RX2 117 yX2_isAlive, .instanceMethod yX2_isAlive, .selects RX2 yX2_isAlive yX2_isAlive, .code yX2_isAlive cX2_isAlive 2 (some .boolean), .methodLink RX4 217 yX2_lifeOf, .instanceMethod yX2_lifeOf, .selects RX2 yX2_lifeOf yX2_lifeOf, .code yX2_lifeOf cX2_lifeOf 4 (some .int)] ++ wsX40 ++ wsX20)
def wsX4_digestOf_r1 : List Cond := [Cond.constantLong RX4 225 (31), Cond.fieldLink RX4 12 "Warren" "state" "LWarren$State;", Cond.fieldLink RX4 29 "Warren" "mind" "LWarren$Mind;", Cond.methodLink RX4 136 yX4_answerOf, Cond.instanceMethod yX4_answerOf, Cond.selects RX4 yX4_answerOf yX4_answerOf, Cond.initialized RX4, Cond.code yX4_answerOf cX4_answerOf 3 (some .int), Cond.methodLink RX4 231 yX2_isAfraid, Cond.instanceMethod yX2_isAfraid, Cond.selects RX2 yX2_isAfraid yX2_isAfraid, Cond.initialized RX2, Cond.code yX2_isAfraid cX2_isAfraid 2 (some .boolean), Cond.methodLink RX2 86 yX2_trait, Cond.instanceMethod yX2_trait, Cond.selects RX2 yX2_trait yX2_trait, Cond.code yX2_trait cX2_trait 4 (some .int), Cond.fieldLink RX2 18 "Warren$State" "traits" "[I", Cond.methodLink RX4 112 yX2_trait, Cond.methodLink RX4 131 yX2_stackOf, Cond.instanceMethod yX2_stackOf, Cond.selects RX2 yX2_stackOf yX2_stackOf, Cond.code yX2_stackOf cX2_stackOf 4 (some .int), Cond.fieldLink RX2 21 "Warren$State" "stacks" "[I"]
def wsX4_digestOf_r2 : List Cond := [Cond.methodLink RX4 141 yX2_turnsOf, Cond.instanceMethod yX2_turnsOf, Cond.selects RX2 yX2_turnsOf yX2_turnsOf, Cond.code yX2_turnsOf cX2_turnsOf 4 (some .int), Cond.fieldLink RX2 24 "Warren$State" "turns" "[I", Cond.methodLink RX4 180 yX0_weigh, Cond.instanceMethod yX0_weigh, Cond.selects RX0 yX0_weigh yX0_weigh, Cond.initialized RX0, Cond.code yX0_weigh cX0_weigh 7 none, Cond.fieldLink RX0 12 "Warren$Mind" "ways" "LWarren$Ways;", Cond.fieldLink RX0 18 "Warren$Mind" "worths" "[I", Cond.methodLink RX0 40 yX2_targetOf, Cond.instanceMethod yX2_targetOf, Cond.selects RX2 yX2_targetOf yX2_targetOf, Cond.code yX2_targetOf cX2_targetOf 7 (some .int), Cond.fieldLink RX2 39 "Warren$State" "beings" "I", Cond.methodLink RX2 117 yX2_isAlive, Cond.instanceMethod yX2_isAlive, Cond.selects RX2 yX2_isAlive yX2_isAlive, Cond.code yX2_isAlive cX2_isAlive 2 (some .boolean), Cond.methodLink RX2 120 yX2_isFoe, Cond.instanceMethod yX2_isFoe, Cond.selects RX2 yX2_isFoe yX2_isFoe]
def wsX4_digestOf_r3 : List Cond := [Cond.code yX2_isFoe cX2_isFoe 3 (some .boolean), Cond.methodLink RX2 73 yX2_apart, Cond.static yX2_apart, Cond.code yX2_apart cX2_apart 4 (some .int), Cond.methodLink RX2 61 Lib.Math.abs.name, Cond.static Lib.Math.abs.name, Cond.initialized "java/lang/Math", Cond.code Lib.Math.abs.name Lib.Math.abs.code 1 (some .int), Cond.methodLink RX2 66 Lib.Math.max.name, Cond.static Lib.Math.max.name, Cond.code Lib.Math.max.name Lib.Math.max.code 2 (some .int), Cond.methodLink RX2 89 yX2_isSeenFrom, Cond.instanceMethod yX2_isSeenFrom, Cond.selects RX2 yX2_isSeenFrom yX2_isSeenFrom, Cond.code yX2_isSeenFrom cX2_isSeenFrom 8 (some .boolean), Cond.methodLink RX2 76 yX2_nearest, Cond.static yX2_nearest, Cond.code yX2_nearest cX2_nearest 2 (some .int), Cond.methodLink RX2 70 yJ9_floorDiv_7cf53, Cond.static yJ9_floorDiv_7cf53, Cond.initialized RJ9, Cond.code yJ9_floorDiv_7cf53 cJ9_floorDiv_7cf53 3 (some .int), Cond.methodLink RX2 53 yX2_kindAt, Cond.instanceMethod yX2_kindAt]
def wsX4_digestOf_r4 : List Cond := [Cond.selects RX2 yX2_kindAt yX2_kindAt, Cond.code yX2_kindAt cX2_kindAt 2 (some .int), Cond.fieldLink RX2 9 "Warren$State" "kinds" "[I", Cond.static yX4_stopsSight, Cond.code yX4_stopsSight cX4_stopsSight 1 (some .boolean), Cond.methodLink RX0 43 yX2_firstFoe, Cond.instanceMethod yX2_firstFoe, Cond.selects RX2 yX2_firstFoe yX2_firstFoe, Cond.code yX2_firstFoe cX2_firstFoe 3 (some .int), Cond.methodLink RX0 32 yX2_trait, Cond.methodLink RX0 28 yX3_measure, Cond.instanceMethod yX3_measure, Cond.selects RX3 yX3_measure yX3_measure, Cond.initialized RX3, Cond.code yX3_measure cX3_measure 5 none, Cond.fieldLink RX3 9 "Warren$Ways" "lengths" "[I", Cond.fieldLink RX3 24 "Warren$Ways" "queued" "I", Cond.methodLink RX3 18 yJ7_fill_53178, Cond.static yJ7_fill_53178, Cond.initialized RJ7, Cond.code yJ7_fill_53178 cJ7_fill_53178 4 none, Cond.methodLink RX3 28 yX2_kindAt, Cond.methodLink RX3 37 yX2_trait, Cond.methodLink RX3 41 yX3_putLength]
def wsX4_digestOf_r5 : List Cond := [Cond.instanceMethod yX3_putLength, Cond.selects RX3 yX3_putLength yX3_putLength, Cond.code yX3_putLength cX3_putLength 3 none, Cond.methodLink RX3 45 yX3_enqueue, Cond.instanceMethod yX3_enqueue, Cond.selects RX3 yX3_enqueue yX3_enqueue, Cond.code yX3_enqueue cX3_enqueue 2 none, Cond.fieldLink RX3 15 "Warren$Ways" "queue" "[I", Cond.methodLink RX3 49 yX3_spread, Cond.instanceMethod yX3_spread, Cond.selects RX3 yX3_spread yX3_spread, Cond.code yX3_spread cX3_spread 6 none, Cond.methodLink RX3 53 yX3_lengthAt, Cond.instanceMethod yX3_lengthAt, Cond.selects RX3 yX3_lengthAt yX3_lengthAt, Cond.code yX3_lengthAt cX3_lengthAt 2 (some .int), Cond.methodLink RX3 61 yX3_reachAround, Cond.instanceMethod yX3_reachAround, Cond.selects RX3 yX3_reachAround yX3_reachAround, Cond.code yX3_reachAround cX3_reachAround 6 none, Cond.methodLink RX0 46 yX1_isPossible, Cond.static yX1_isPossible, Cond.initialized RX1, Cond.code yX1_isPossible cX1_isPossible 3 (some .boolean)]
def wsX4_digestOf_r6 : List Cond := [Cond.methodLink RX1 9 yX2_isAlive, Cond.methodLink RX1 15 yX1_cellTowards, Cond.static yX1_cellTowards, Cond.code yX1_cellTowards cX1_cellTowards 5 (some .int), Cond.methodLink RX1 25 yX2_trait, Cond.methodLink RX1 21 yX1_canGo, Cond.static yX1_canGo, Cond.code yX1_canGo cX1_canGo 4 (some .boolean), Cond.methodLink RX1 33 yX2_kindAt, Cond.methodLink RX1 36 yX2_whoIsOn, Cond.instanceMethod yX2_whoIsOn, Cond.selects RX2 yX2_whoIsOn yX2_whoIsOn, Cond.code yX2_whoIsOn cX2_whoIsOn 3 (some .int), Cond.methodLink RX1 39 yX2_isFoe, Cond.methodLink RX1 29 yX2_targetOf, Cond.methodLink RX0 52 yX0_worthIfPossible, Cond.instanceMethod yX0_worthIfPossible, Cond.selects RX0 yX0_worthIfPossible yX0_worthIfPossible, Cond.code yX0_worthIfPossible cX0_worthIfPossible 5 (some .int), Cond.methodLink RX0 56 yX2_stackOf, Cond.methodLink RX0 59 yX0_worthOfGuard, Cond.instanceMethod yX0_worthOfGuard, Cond.selects RX0 yX0_worthOfGuard yX0_worthOfGuard, Cond.code yX0_worthOfGuard cX0_worthOfGuard 4 (some .int)]
def wsX4_digestOf_r7 : List Cond := [Cond.methodLink RX0 70 yX2_isAfraid, Cond.methodLink RX0 73 yX2_hasFoeBeside, Cond.instanceMethod yX2_hasFoeBeside, Cond.selects RX2 yX2_hasFoeBeside yX2_hasFoeBeside, Cond.code yX2_hasFoeBeside cX2_hasFoeBeside 3 (some .boolean), Cond.methodLink RX2 126 yX2_whoIsOn, Cond.methodLink RX0 63 yX1_cellTowards, Cond.methodLink RX0 67 yX0_worthOfGo, Cond.instanceMethod yX0_worthOfGo, Cond.selects RX0 yX0_worthOfGo yX0_worthOfGo, Cond.code yX0_worthOfGo cX0_worthOfGo 7 (some .int), Cond.methodLink RX0 76 yX2_whoIsOn, Cond.methodLink RX0 79 yX2_hitOf, Cond.instanceMethod yX2_hitOf, Cond.selects RX2 yX2_hitOf yX2_hitOf, Cond.code yX2_hitOf cX2_hitOf 5 (some .int), Cond.methodLink RX2 92 yX2_stackOf, Cond.methodLink RX0 82 yX2_kindAt, Cond.methodLink RX0 36 yX3_from, Cond.instanceMethod yX3_from, Cond.selects RX3 yX3_from yX3_from, Cond.code yX3_from cX3_from 2 (some .int), Cond.methodLink RX3 56 Lib.Math.max.name, Cond.methodLink RX4 172 yX2_targetOf]
def wsX4_digestOf_r8 : List Cond := [Cond.methodLink RX4 187 yX0_best, Cond.instanceMethod yX0_best, Cond.selects RX0 yX0_best yX0_best, Cond.code yX0_best cX0_best 4 (some .int), Cond.methodLink RX4 184 yX0_worthOf, Cond.instanceMethod yX0_worthOf, Cond.selects RX0 yX0_worthOf yX0_worthOf, Cond.code yX0_worthOf cX0_worthOf 2 (some .int)]
def wsX4_digestOf : List Cond := .code yX4_digestOf cX4_digestOf 7 (some .long) :: ((wsX4_digestOf_r1 ++ (wsX4_digestOf_r2 ++ (wsX4_digestOf_r3 ++ (wsX4_digestOf_r4 ++ (wsX4_digestOf_r5 ++ (wsX4_digestOf_r6 ++ (wsX4_digestOf_r7 ++ wsX4_digestOf_r8))))))) ++ wsX40 ++ wsX20 ++ wsX00 ++ wsX30)
def wsX4_digest_r1 : List Cond := [Cond.constantLong RX4 223 (58090), Cond.constantLong RX4 225 (31), Cond.fieldLink RX4 12 "Warren" "state" "LWarren$State;", Cond.methodLink RX4 146 yX4_countOf, Cond.instanceMethod yX4_countOf, Cond.selects RX4 yX4_countOf yX4_countOf, Cond.initialized RX4, Cond.code yX4_countOf cX4_countOf 2 (some .int), Cond.fieldLink RX4 22 "Warren" "saved" "Ljava/util/List;", Cond.methodLink RX4 211 yX2_living, Cond.instanceMethod yX2_living, Cond.selects RX2 yX2_living yX2_living, Cond.initialized RX2, Cond.code yX2_living cX2_living 4 (some .int), Cond.fieldLink RX2 39 "Warren$State" "beings" "I", Cond.methodLink RX2 86 yX2_trait, Cond.instanceMethod yX2_trait, Cond.selects RX2 yX2_trait yX2_trait, Cond.code yX2_trait cX2_trait 4 (some .int), Cond.fieldLink RX2 18 "Warren$State" "traits" "[I", Cond.methodLink RX2 117 yX2_isAlive, Cond.instanceMethod yX2_isAlive, Cond.selects RX2 yX2_isAlive yX2_isAlive, Cond.code yX2_isAlive cX2_isAlive 2 (some .boolean)]
def wsX4_digest_r2 : List Cond := [Cond.methodLink RX4 151 yX2_whoseTurn, Cond.instanceMethod yX2_whoseTurn, Cond.selects RX2 yX2_whoseTurn yX2_whoseTurn, Cond.code yX2_whoseTurn cX2_whoseTurn 3 (some .int), Cond.methodLink RX4 244 yX2_knownCells, Cond.instanceMethod yX2_knownCells, Cond.selects RX2 yX2_knownCells yX2_knownCells, Cond.code yX2_knownCells cX2_knownCells 4 (some .int), Cond.fieldLink RX2 15 "Warren$State" "known" "[I", Cond.methodLink RX2 82 yX2_isKnown, Cond.instanceMethod yX2_isKnown, Cond.selects RX2 yX2_isKnown yX2_isKnown, Cond.code yX2_isKnown cX2_isKnown 3 (some .boolean), Cond.methodLink RX4 190 ⟨"java/util/List", "size", "()I"⟩, Cond.selects RJx4a65c ⟨"java/util/List", "size", "()I"⟩ yJx4a65c_size_8abf5, Cond.instanceMethod yJx4a65c_size_8abf5, Cond.initialized RJx4a65c, Cond.code yJx4a65c_size_8abf5 cJx4a65c_size_8abf5 1 (some .int), Cond.fieldLink RJx4a65c 48 "java/util/ArrayList" "size" "I", Cond.methodLink RX4 74 yX2_kindAt, Cond.instanceMethod yX2_kindAt, Cond.selects RX2 yX2_kindAt yX2_kindAt, Cond.code yX2_kindAt cX2_kindAt 2 (some .int), Cond.fieldLink RX2 9 "Warren$State" "kinds" "[I"]
def wsX4_digest_r3 : List Cond := [Cond.methodLink RX4 105 yX2_isBeing, Cond.instanceMethod yX2_isBeing, Cond.selects RX2 yX2_isBeing yX2_isBeing, Cond.code yX2_isBeing cX2_isBeing 2 (some .boolean), Cond.methodLink RX4 227 yX4_digestOf, Cond.instanceMethod yX4_digestOf, Cond.selects RX4 yX4_digestOf yX4_digestOf, Cond.code yX4_digestOf cX4_digestOf 7 (some .long), Cond.fieldLink RX4 29 "Warren" "mind" "LWarren$Mind;", Cond.methodLink RX4 136 yX4_answerOf, Cond.instanceMethod yX4_answerOf, Cond.selects RX4 yX4_answerOf yX4_answerOf, Cond.code yX4_answerOf cX4_answerOf 3 (some .int), Cond.methodLink RX4 231 yX2_isAfraid, Cond.instanceMethod yX2_isAfraid, Cond.selects RX2 yX2_isAfraid yX2_isAfraid, Cond.code yX2_isAfraid cX2_isAfraid 2 (some .boolean), Cond.methodLink RX4 112 yX2_trait, Cond.methodLink RX4 131 yX2_stackOf, Cond.instanceMethod yX2_stackOf, Cond.selects RX2 yX2_stackOf yX2_stackOf, Cond.code yX2_stackOf cX2_stackOf 4 (some .int), Cond.fieldLink RX2 21 "Warren$State" "stacks" "[I", Cond.methodLink RX4 141 yX2_turnsOf]
def wsX4_digest_r4 : List Cond := [Cond.instanceMethod yX2_turnsOf, Cond.selects RX2 yX2_turnsOf yX2_turnsOf, Cond.code yX2_turnsOf cX2_turnsOf 4 (some .int), Cond.fieldLink RX2 24 "Warren$State" "turns" "[I", Cond.methodLink RX4 180 yX0_weigh, Cond.instanceMethod yX0_weigh, Cond.selects RX0 yX0_weigh yX0_weigh, Cond.initialized RX0, Cond.code yX0_weigh cX0_weigh 7 none, Cond.fieldLink RX0 12 "Warren$Mind" "ways" "LWarren$Ways;", Cond.fieldLink RX0 18 "Warren$Mind" "worths" "[I", Cond.methodLink RX0 40 yX2_targetOf, Cond.instanceMethod yX2_targetOf, Cond.selects RX2 yX2_targetOf yX2_targetOf, Cond.code yX2_targetOf cX2_targetOf 7 (some .int), Cond.methodLink RX2 120 yX2_isFoe, Cond.instanceMethod yX2_isFoe, Cond.selects RX2 yX2_isFoe yX2_isFoe, Cond.code yX2_isFoe cX2_isFoe 3 (some .boolean), Cond.methodLink RX2 73 yX2_apart, Cond.static yX2_apart, Cond.code yX2_apart cX2_apart 4 (some .int), Cond.methodLink RX2 61 Lib.Math.abs.name, Cond.static Lib.Math.abs.name]
def wsX4_digest_r5 : List Cond := [Cond.initialized "java/lang/Math", Cond.code Lib.Math.abs.name Lib.Math.abs.code 1 (some .int), Cond.methodLink RX2 66 Lib.Math.max.name, Cond.static Lib.Math.max.name, Cond.code Lib.Math.max.name Lib.Math.max.code 2 (some .int), Cond.methodLink RX2 89 yX2_isSeenFrom, Cond.instanceMethod yX2_isSeenFrom, Cond.selects RX2 yX2_isSeenFrom yX2_isSeenFrom, Cond.code yX2_isSeenFrom cX2_isSeenFrom 8 (some .boolean), Cond.methodLink RX2 76 yX2_nearest, Cond.static yX2_nearest, Cond.code yX2_nearest cX2_nearest 2 (some .int), Cond.methodLink RX2 70 yJ9_floorDiv_7cf53, Cond.static yJ9_floorDiv_7cf53, Cond.initialized RJ9, Cond.code yJ9_floorDiv_7cf53 cJ9_floorDiv_7cf53 3 (some .int), Cond.methodLink RX2 53 yX2_kindAt, Cond.static yX4_stopsSight, Cond.code yX4_stopsSight cX4_stopsSight 1 (some .boolean), Cond.methodLink RX0 43 yX2_firstFoe, Cond.instanceMethod yX2_firstFoe, Cond.selects RX2 yX2_firstFoe yX2_firstFoe, Cond.code yX2_firstFoe cX2_firstFoe 3 (some .int), Cond.methodLink RX0 32 yX2_trait]
def wsX4_digest_r6 : List Cond := [Cond.methodLink RX0 28 yX3_measure, Cond.instanceMethod yX3_measure, Cond.selects RX3 yX3_measure yX3_measure, Cond.initialized RX3, Cond.code yX3_measure cX3_measure 5 none, Cond.fieldLink RX3 9 "Warren$Ways" "lengths" "[I", Cond.fieldLink RX3 24 "Warren$Ways" "queued" "I", Cond.methodLink RX3 18 yJ7_fill_53178, Cond.static yJ7_fill_53178, Cond.initialized RJ7, Cond.code yJ7_fill_53178 cJ7_fill_53178 4 none, Cond.methodLink RX3 28 yX2_kindAt, Cond.methodLink RX3 37 yX2_trait, Cond.methodLink RX3 41 yX3_putLength, Cond.instanceMethod yX3_putLength, Cond.selects RX3 yX3_putLength yX3_putLength, Cond.code yX3_putLength cX3_putLength 3 none, Cond.methodLink RX3 45 yX3_enqueue, Cond.instanceMethod yX3_enqueue, Cond.selects RX3 yX3_enqueue yX3_enqueue, Cond.code yX3_enqueue cX3_enqueue 2 none, Cond.fieldLink RX3 15 "Warren$Ways" "queue" "[I", Cond.methodLink RX3 49 yX3_spread, Cond.instanceMethod yX3_spread]
def wsX4_digest_r7 : List Cond := [Cond.selects RX3 yX3_spread yX3_spread, Cond.code yX3_spread cX3_spread 6 none, Cond.methodLink RX3 53 yX3_lengthAt, Cond.instanceMethod yX3_lengthAt, Cond.selects RX3 yX3_lengthAt yX3_lengthAt, Cond.code yX3_lengthAt cX3_lengthAt 2 (some .int), Cond.methodLink RX3 61 yX3_reachAround, Cond.instanceMethod yX3_reachAround, Cond.selects RX3 yX3_reachAround yX3_reachAround, Cond.code yX3_reachAround cX3_reachAround 6 none, Cond.methodLink RX0 46 yX1_isPossible, Cond.static yX1_isPossible, Cond.initialized RX1, Cond.code yX1_isPossible cX1_isPossible 3 (some .boolean), Cond.methodLink RX1 9 yX2_isAlive, Cond.methodLink RX1 15 yX1_cellTowards, Cond.static yX1_cellTowards, Cond.code yX1_cellTowards cX1_cellTowards 5 (some .int), Cond.methodLink RX1 25 yX2_trait, Cond.methodLink RX1 21 yX1_canGo, Cond.static yX1_canGo, Cond.code yX1_canGo cX1_canGo 4 (some .boolean), Cond.methodLink RX1 33 yX2_kindAt, Cond.methodLink RX1 36 yX2_whoIsOn]
def wsX4_digest_r8 : List Cond := [Cond.instanceMethod yX2_whoIsOn, Cond.selects RX2 yX2_whoIsOn yX2_whoIsOn, Cond.code yX2_whoIsOn cX2_whoIsOn 3 (some .int), Cond.methodLink RX1 39 yX2_isFoe, Cond.methodLink RX1 29 yX2_targetOf, Cond.methodLink RX0 52 yX0_worthIfPossible, Cond.instanceMethod yX0_worthIfPossible, Cond.selects RX0 yX0_worthIfPossible yX0_worthIfPossible, Cond.code yX0_worthIfPossible cX0_worthIfPossible 5 (some .int), Cond.methodLink RX0 56 yX2_stackOf, Cond.methodLink RX0 59 yX0_worthOfGuard, Cond.instanceMethod yX0_worthOfGuard, Cond.selects RX0 yX0_worthOfGuard yX0_worthOfGuard, Cond.code yX0_worthOfGuard cX0_worthOfGuard 4 (some .int), Cond.methodLink RX0 70 yX2_isAfraid, Cond.methodLink RX0 73 yX2_hasFoeBeside, Cond.instanceMethod yX2_hasFoeBeside, Cond.selects RX2 yX2_hasFoeBeside yX2_hasFoeBeside, Cond.code yX2_hasFoeBeside cX2_hasFoeBeside 3 (some .boolean), Cond.methodLink RX2 126 yX2_whoIsOn, Cond.methodLink RX0 63 yX1_cellTowards, Cond.methodLink RX0 67 yX0_worthOfGo, Cond.instanceMethod yX0_worthOfGo, Cond.selects RX0 yX0_worthOfGo yX0_worthOfGo]
def wsX4_digest_r9 : List Cond := [Cond.code yX0_worthOfGo cX0_worthOfGo 7 (some .int), Cond.methodLink RX0 76 yX2_whoIsOn, Cond.methodLink RX0 79 yX2_hitOf, Cond.instanceMethod yX2_hitOf, Cond.selects RX2 yX2_hitOf yX2_hitOf, Cond.code yX2_hitOf cX2_hitOf 5 (some .int), Cond.methodLink RX2 92 yX2_stackOf, Cond.methodLink RX0 82 yX2_kindAt, Cond.methodLink RX0 36 yX3_from, Cond.instanceMethod yX3_from, Cond.selects RX3 yX3_from yX3_from, Cond.code yX3_from cX3_from 2 (some .int), Cond.methodLink RX3 56 Lib.Math.max.name, Cond.methodLink RX4 172 yX2_targetOf, Cond.methodLink RX4 187 yX0_best, Cond.instanceMethod yX0_best, Cond.selects RX0 yX0_best yX0_best, Cond.code yX0_best cX0_best 4 (some .int), Cond.methodLink RX4 184 yX0_worthOf, Cond.instanceMethod yX0_worthOf, Cond.selects RX0 yX0_worthOf yX0_worthOf, Cond.code yX0_worthOf cX0_worthOf 2 (some .int), Cond.methodLink RX4 220 yX2_watchersOf, Cond.instanceMethod yX2_watchersOf]
def wsX4_digest_r10 : List Cond := [Cond.selects RX2 yX2_watchersOf yX2_watchersOf, Cond.code yX2_watchersOf cX2_watchersOf 5 (some .int)]
def wsX4_digest : List Cond := .code yX4_digest cX4_digest 4 (some .long) :: ((wsX4_digest_r1 ++ (wsX4_digest_r2 ++ (wsX4_digest_r3 ++ (wsX4_digest_r4 ++ (wsX4_digest_r5 ++ (wsX4_digest_r6 ++ (wsX4_digest_r7 ++ (wsX4_digest_r8 ++ (wsX4_digest_r9 ++ wsX4_digest_r10))))))))) ++ wsX40 ++ wsX20 ++ wsJx4a65c0 ++ wsX00 ++ wsX30)
def wsJ9_abs_0f7a4 : List Cond := .code yJ9_abs_0f7a4 cJ9_abs_0f7a4 1 (some .int) :: ([])
def wsJ9_max_7cf53 : List Cond := .code yJ9_max_7cf53 cJ9_max_7cf53 2 (some .int) :: ([])
def wsJ9_min_7cf53 : List Cond := .code yJ9_min_7cf53 cJ9_min_7cf53 2 (some .int) :: ([])
end
section
set_option maxRecDepth 20000 in
theorem ggX2_init_J7_fill_53178 : GoodIn wsX2_init wsJ7_fill_53178 := goodIn_r _ [13] (by decide +kernel) (by decide +kernel)
set_option maxRecDepth 20000 in
theorem gX2_init_J7_fill_53178 : GoodIn wsX2_init (va_wsS RX2 27 yJ7_fill_53178 wsJ7_fill_53178) := goodIn_app (goodIn_of _ (by decide +kernel)) ggX2_init_J7_fill_53178
theorem dX2_init_0 : decode cX2_init 0 = .ok (.aload_n 0, 1) := by decide +kernel
theorem dX2_init_1 : decode cX2_init 1 = .ok (.invokespecial 3, 3) := by decide +kernel
theorem dX2_init_4 : decode cX2_init 4 = .ok (.aload_n 0, 1) := by decide +kernel
theorem dX2_init_5 : decode cX2_init 5 = .ok (.sipush 160, 3) := by decide +kernel
theorem dX2_init_8 : decode cX2_init 8 = .ok (.newarray .int, 2) := by decide +kernel
theorem dX2_init_10 : decode cX2_init 10 = .ok (.putfield 9, 3) := by decide +kernel
theorem dX2_init_13 : decode cX2_init 13 = .ok (.aload_n 0, 1) := by decide +kernel
theorem dX2_init_14 : decode cX2_init 14 = .ok (.sipush 160, 3) := by decide +kernel
theorem dX2_init_17 : decode cX2_init 17 = .ok (.newarray .int, 2) := by decide +kernel
theorem dX2_init_19 : decode cX2_init 19 = .ok (.putfield 15, 3) := by decide +kernel
theorem dX2_init_22 : decode cX2_init 22 = .ok (.aload_n 0, 1) := by decide +kernel
theorem dX2_init_23 : decode cX2_init 23 = .ok (.bipush 90, 2) := by decide +kernel
theorem dX2_init_25 : decode cX2_init 25 = .ok (.newarray .int, 2) := by decide +kernel
theorem dX2_init_27 : decode cX2_init 27 = .ok (.putfield 18, 3) := by decide +kernel
theorem dX2_init_30 : decode cX2_init 30 = .ok (.aload_n 0, 1) := by decide +kernel
theorem dX2_init_31 : decode cX2_init 31 = .ok (.bipush 50, 2) := by decide +kernel
theorem dX2_init_33 : decode cX2_init 33 = .ok (.newarray .int, 2) := by decide +kernel
theorem dX2_init_35 : decode cX2_init 35 = .ok (.putfield 21, 3) := by decide +kernel
theorem dX2_init_38 : decode cX2_init 38 = .ok (.aload_n 0, 1) := by decide +kernel
theorem dX2_init_39 : decode cX2_init 39 = .ok (.bipush 50, 2) := by decide +kernel
theorem dX2_init_41 : decode cX2_init 41 = .ok (.newarray .int, 2) := by decide +kernel
theorem dX2_init_43 : decode cX2_init 43 = .ok (.putfield 24, 3) := by decide +kernel
theorem dX2_init_46 : decode cX2_init 46 = .ok (.aload_n 0, 1) := by decide +kernel
theorem dX2_init_47 : decode cX2_init 47 = .ok (.getfield 9, 3) := by decide +kernel
theorem dX2_init_50 : decode cX2_init 50 = .ok (.iconst 1, 1) := by decide +kernel
theorem dX2_init_51 : decode cX2_init 51 = .ok (.invokestatic 27, 3) := by decide +kernel
theorem dX2_init_54 : decode cX2_init 54 = .ok (.return_, 1) := by decide +kernel
theorem dX2_copyFrom_0 : decode cX2_copyFrom 0 = .ok (.aload_n 1, 1) := by decide +kernel
theorem dX2_copyFrom_1 : decode cX2_copyFrom 1 = .ok (.getfield 9, 3) := by decide +kernel
theorem dX2_copyFrom_4 : decode cX2_copyFrom 4 = .ok (.iconst 0, 1) := by decide +kernel
theorem dX2_copyFrom_5 : decode cX2_copyFrom 5 = .ok (.aload_n 0, 1) := by decide +kernel
theorem dX2_copyFrom_6 : decode cX2_copyFrom 6 = .ok (.getfield 9, 3) := by decide +kernel
theorem dX2_copyFrom_9 : decode cX2_copyFrom 9 = .ok (.iconst 0, 1) := by decide +kernel
theorem dX2_copyFrom_10 : decode cX2_copyFrom 10 = .ok (.aload_n 0, 1) := by decide +kernel
theorem dX2_copyFrom_11 : decode cX2_copyFrom 11 = .ok (.getfield 9, 3) := by decide +kernel
theorem dX2_copyFrom_14 : decode cX2_copyFrom 14 = .ok (.arraylength, 1) := by decide +kernel
theorem dX2_copyFrom_15 : decode cX2_copyFrom 15 = .ok (.invokestatic 33, 3) := by decide +kernel
theorem dX2_copyFrom_18 : decode cX2_copyFrom 18 = .ok (.aload_n 1, 1) := by decide +kernel
theorem dX2_copyFrom_19 : decode cX2_copyFrom 19 = .ok (.getfield 15, 3) := by decide +kernel
theorem dX2_copyFrom_22 : decode cX2_copyFrom 22 = .ok (.iconst 0, 1) := by decide +kernel
theorem dX2_copyFrom_23 : decode cX2_copyFrom 23 = .ok (.aload_n 0, 1) := by decide +kernel
theorem dX2_copyFrom_24 : decode cX2_copyFrom 24 = .ok (.getfield 15, 3) := by decide +kernel
theorem dX2_copyFrom_27 : decode cX2_copyFrom 27 = .ok (.iconst 0, 1) := by decide +kernel
theorem dX2_copyFrom_28 : decode cX2_copyFrom 28 = .ok (.aload_n 0, 1) := by decide +kernel
theorem dX2_copyFrom_29 : decode cX2_copyFrom 29 = .ok (.getfield 15, 3) := by decide +kernel
theorem dX2_copyFrom_32 : decode cX2_copyFrom 32 = .ok (.arraylength, 1) := by decide +kernel
theorem dX2_copyFrom_33 : decode cX2_copyFrom 33 = .ok (.invokestatic 33, 3) := by decide +kernel
theorem dX2_copyFrom_36 : decode cX2_copyFrom 36 = .ok (.aload_n 1, 1) := by decide +kernel
theorem dX2_copyFrom_37 : decode cX2_copyFrom 37 = .ok (.getfield 18, 3) := by decide +kernel
theorem dX2_copyFrom_40 : decode cX2_copyFrom 40 = .ok (.iconst 0, 1) := by decide +kernel
theorem dX2_copyFrom_41 : decode cX2_copyFrom 41 = .ok (.aload_n 0, 1) := by decide +kernel
theorem dX2_copyFrom_42 : decode cX2_copyFrom 42 = .ok (.getfield 18, 3) := by decide +kernel
theorem dX2_copyFrom_45 : decode cX2_copyFrom 45 = .ok (.iconst 0, 1) := by decide +kernel
theorem dX2_copyFrom_46 : decode cX2_copyFrom 46 = .ok (.aload_n 0, 1) := by decide +kernel
theorem dX2_copyFrom_47 : decode cX2_copyFrom 47 = .ok (.getfield 18, 3) := by decide +kernel
theorem dX2_copyFrom_50 : decode cX2_copyFrom 50 = .ok (.arraylength, 1) := by decide +kernel
theorem dX2_copyFrom_51 : decode cX2_copyFrom 51 = .ok (.invokestatic 33, 3) := by decide +kernel
theorem dX2_copyFrom_54 : decode cX2_copyFrom 54 = .ok (.aload_n 1, 1) := by decide +kernel
theorem dX2_copyFrom_55 : decode cX2_copyFrom 55 = .ok (.getfield 21, 3) := by decide +kernel
theorem dX2_copyFrom_58 : decode cX2_copyFrom 58 = .ok (.iconst 0, 1) := by decide +kernel
theorem dX2_copyFrom_59 : decode cX2_copyFrom 59 = .ok (.aload_n 0, 1) := by decide +kernel
theorem dX2_copyFrom_60 : decode cX2_copyFrom 60 = .ok (.getfield 21, 3) := by decide +kernel
theorem dX2_copyFrom_63 : decode cX2_copyFrom 63 = .ok (.iconst 0, 1) := by decide +kernel
theorem dX2_copyFrom_64 : decode cX2_copyFrom 64 = .ok (.aload_n 0, 1) := by decide +kernel
theorem dX2_copyFrom_65 : decode cX2_copyFrom 65 = .ok (.getfield 21, 3) := by decide +kernel
theorem dX2_copyFrom_68 : decode cX2_copyFrom 68 = .ok (.arraylength, 1) := by decide +kernel
theorem dX2_copyFrom_69 : decode cX2_copyFrom 69 = .ok (.invokestatic 33, 3) := by decide +kernel
theorem dX2_copyFrom_72 : decode cX2_copyFrom 72 = .ok (.aload_n 1, 1) := by decide +kernel
theorem dX2_copyFrom_73 : decode cX2_copyFrom 73 = .ok (.getfield 24, 3) := by decide +kernel
theorem dX2_copyFrom_76 : decode cX2_copyFrom 76 = .ok (.iconst 0, 1) := by decide +kernel
theorem dX2_copyFrom_77 : decode cX2_copyFrom 77 = .ok (.aload_n 0, 1) := by decide +kernel
theorem dX2_copyFrom_78 : decode cX2_copyFrom 78 = .ok (.getfield 24, 3) := by decide +kernel
theorem dX2_copyFrom_81 : decode cX2_copyFrom 81 = .ok (.iconst 0, 1) := by decide +kernel
theorem dX2_copyFrom_82 : decode cX2_copyFrom 82 = .ok (.aload_n 0, 1) := by decide +kernel
theorem dX2_copyFrom_83 : decode cX2_copyFrom 83 = .ok (.getfield 24, 3) := by decide +kernel
theorem dX2_copyFrom_86 : decode cX2_copyFrom 86 = .ok (.arraylength, 1) := by decide +kernel
theorem dX2_copyFrom_87 : decode cX2_copyFrom 87 = .ok (.invokestatic 33, 3) := by decide +kernel
theorem dX2_copyFrom_90 : decode cX2_copyFrom 90 = .ok (.aload_n 0, 1) := by decide +kernel
theorem dX2_copyFrom_91 : decode cX2_copyFrom 91 = .ok (.aload_n 1, 1) := by decide +kernel
theorem dX2_copyFrom_92 : decode cX2_copyFrom 92 = .ok (.getfield 39, 3) := by decide +kernel
theorem dX2_copyFrom_95 : decode cX2_copyFrom 95 = .ok (.putfield 39, 3) := by decide +kernel
theorem dX2_copyFrom_98 : decode cX2_copyFrom 98 = .ok (.aload_n 0, 1) := by decide +kernel
theorem dX2_copyFrom_99 : decode cX2_copyFrom 99 = .ok (.aload_n 1, 1) := by decide +kernel
theorem dX2_copyFrom_100 : decode cX2_copyFrom 100 = .ok (.getfield 43, 3) := by decide +kernel
theorem dX2_copyFrom_103 : decode cX2_copyFrom 103 = .ok (.putfield 43, 3) := by decide +kernel
theorem dX2_copyFrom_106 : decode cX2_copyFrom 106 = .ok (.aload_n 0, 1) := by decide +kernel
theorem dX2_copyFrom_107 : decode cX2_copyFrom 107 = .ok (.aload_n 1, 1) := by decide +kernel
theorem dX2_copyFrom_108 : decode cX2_copyFrom 108 = .ok (.getfield 46, 3) := by decide +kernel
theorem dX2_copyFrom_111 : decode cX2_copyFrom 111 = .ok (.putfield 46, 3) := by decide +kernel
theorem dX2_copyFrom_114 : decode cX2_copyFrom 114 = .ok (.return_, 1) := by decide +kernel
theorem dX2_kindAt_0 : decode cX2_kindAt 0 = .ok (.iload_n 1, 1) := by decide +kernel
theorem dX2_kindAt_1 : decode cX2_kindAt 1 = .ok (.ifCond .lt 21, 3) := by decide +kernel
theorem dX2_kindAt_4 : decode cX2_kindAt 4 = .ok (.iload_n 1, 1) := by decide +kernel
theorem dX2_kindAt_5 : decode cX2_kindAt 5 = .ok (.aload_n 0, 1) := by decide +kernel
theorem dX2_kindAt_6 : decode cX2_kindAt 6 = .ok (.getfield 9, 3) := by decide +kernel
theorem dX2_kindAt_9 : decode cX2_kindAt 9 = .ok (.arraylength, 1) := by decide +kernel
theorem dX2_kindAt_10 : decode cX2_kindAt 10 = .ok (.if_icmp .ge 12, 3) := by decide +kernel
theorem dX2_kindAt_13 : decode cX2_kindAt 13 = .ok (.aload_n 0, 1) := by decide +kernel
theorem dX2_kindAt_14 : decode cX2_kindAt 14 = .ok (.getfield 9, 3) := by decide +kernel
theorem dX2_kindAt_17 : decode cX2_kindAt 17 = .ok (.iload_n 1, 1) := by decide +kernel
theorem dX2_kindAt_18 : decode cX2_kindAt 18 = .ok (.iaload, 1) := by decide +kernel
theorem dX2_kindAt_19 : decode cX2_kindAt 19 = .ok (.goto 4, 3) := by decide +kernel
theorem dX2_kindAt_22 : decode cX2_kindAt 22 = .ok (.iconst 1, 1) := by decide +kernel
theorem dX2_kindAt_23 : decode cX2_kindAt 23 = .ok (.ireturn, 1) := by decide +kernel
theorem dX2_putKind_0 : decode cX2_putKind 0 = .ok (.iload_n 1, 1) := by decide +kernel
theorem dX2_putKind_1 : decode cX2_putKind 1 = .ok (.ifCond .lt 19, 3) := by decide +kernel
theorem dX2_putKind_4 : decode cX2_putKind 4 = .ok (.iload_n 1, 1) := by decide +kernel
theorem dX2_putKind_5 : decode cX2_putKind 5 = .ok (.aload_n 0, 1) := by decide +kernel
theorem dX2_putKind_6 : decode cX2_putKind 6 = .ok (.getfield 9, 3) := by decide +kernel
theorem dX2_putKind_9 : decode cX2_putKind 9 = .ok (.arraylength, 1) := by decide +kernel
theorem dX2_putKind_10 : decode cX2_putKind 10 = .ok (.if_icmp .ge 10, 3) := by decide +kernel
theorem dX2_putKind_13 : decode cX2_putKind 13 = .ok (.aload_n 0, 1) := by decide +kernel
theorem dX2_putKind_14 : decode cX2_putKind 14 = .ok (.getfield 9, 3) := by decide +kernel
theorem dX2_putKind_17 : decode cX2_putKind 17 = .ok (.iload_n 1, 1) := by decide +kernel
theorem dX2_putKind_18 : decode cX2_putKind 18 = .ok (.iload_n 2, 1) := by decide +kernel
theorem dX2_putKind_19 : decode cX2_putKind 19 = .ok (.iastore, 1) := by decide +kernel
theorem dX2_putKind_20 : decode cX2_putKind 20 = .ok (.return_, 1) := by decide +kernel
set_option maxRecDepth 20000 in
theorem ggX2_digRoom_X4_isEdge : GoodIn wsX2_digRoom wsX4_isEdge := goodIn_r _ [3] (by decide +kernel) (by decide +kernel)
set_option maxRecDepth 20000 in
theorem gX2_digRoom_X4_isEdge_n49 : GoodIn wsX2_digRoom (wsX4_isEdge) := ggX2_digRoom_X4_isEdge
set_option maxRecDepth 20000 in
theorem ggX2_digRoom_X2_kindAt : GoodIn wsX2_digRoom wsX2_kindAt := goodIn_r _ [8, 9, 14, 15, 16, 17, 18, 19, 20, 21] (by decide +kernel) (by decide +kernel)
set_option maxRecDepth 20000 in
theorem gX2_digRoom_X2_kindAt : GoodIn wsX2_digRoom (wsV RX2 53 RX2 yX2_kindAt wsX2_kindAt) := goodIn_app (goodIn_of _ (by decide +kernel)) ggX2_digRoom_X2_kindAt
set_option maxRecDepth 20000 in
theorem ggX2_digRoom_X2_putKind : GoodIn wsX2_digRoom wsX2_putKind := goodIn_r _ [13, 9, 14, 15, 16, 17, 18, 19, 20, 21] (by decide +kernel) (by decide +kernel)
set_option maxRecDepth 20000 in
theorem gX2_digRoom_X2_putKind : GoodIn wsX2_digRoom (wsV RX2 57 RX2 yX2_putKind wsX2_putKind) := goodIn_app (goodIn_of _ (by decide +kernel)) ggX2_digRoom_X2_putKind
theorem dX2_digRoom_0 : decode cX2_digRoom 0 = .ok (.iconst 0, 1) := by decide +kernel
theorem dX2_digRoom_1 : decode cX2_digRoom 1 = .ok (.istore 5, 2) := by decide +kernel
theorem dX2_digRoom_3 : decode cX2_digRoom 3 = .ok (.iload_n 2, 1) := by decide +kernel
theorem dX2_digRoom_4 : decode cX2_digRoom 4 = .ok (.istore 6, 2) := by decide +kernel
theorem dX2_digRoom_6 : decode cX2_digRoom 6 = .ok (.iload 6, 2) := by decide +kernel
theorem dX2_digRoom_8 : decode cX2_digRoom 8 = .ok (.iload_n 2, 1) := by decide +kernel
theorem dX2_digRoom_9 : decode cX2_digRoom 9 = .ok (.iload 4, 2) := by decide +kernel
theorem dX2_digRoom_11 : decode cX2_digRoom 11 = .ok (.iadd, 1) := by decide +kernel
theorem dX2_digRoom_12 : decode cX2_digRoom 12 = .ok (.if_icmp .ge 63, 3) := by decide +kernel
theorem dX2_digRoom_15 : decode cX2_digRoom 15 = .ok (.iload_n 1, 1) := by decide +kernel
theorem dX2_digRoom_16 : decode cX2_digRoom 16 = .ok (.istore 7, 2) := by decide +kernel
theorem dX2_digRoom_18 : decode cX2_digRoom 18 = .ok (.iload 7, 2) := by decide +kernel
theorem dX2_digRoom_20 : decode cX2_digRoom 20 = .ok (.iload_n 1, 1) := by decide +kernel
theorem dX2_digRoom_21 : decode cX2_digRoom 21 = .ok (.iload_n 3, 1) := by decide +kernel
theorem dX2_digRoom_22 : decode cX2_digRoom 22 = .ok (.iadd, 1) := by decide +kernel
theorem dX2_digRoom_23 : decode cX2_digRoom 23 = .ok (.if_icmp .ge 46, 3) := by decide +kernel
theorem dX2_digRoom_26 : decode cX2_digRoom 26 = .ok (.iload 6, 2) := by decide +kernel
theorem dX2_digRoom_28 : decode cX2_digRoom 28 = .ok (.bipush 16, 2) := by decide +kernel
theorem dX2_digRoom_30 : decode cX2_digRoom 30 = .ok (.imul, 1) := by decide +kernel
theorem dX2_digRoom_31 : decode cX2_digRoom 31 = .ok (.iload 7, 2) := by decide +kernel
theorem dX2_digRoom_33 : decode cX2_digRoom 33 = .ok (.iadd, 1) := by decide +kernel
theorem dX2_digRoom_34 : decode cX2_digRoom 34 = .ok (.istore 8, 2) := by decide +kernel
theorem dX2_digRoom_36 : decode cX2_digRoom 36 = .ok (.iload 8, 2) := by decide +kernel
theorem dX2_digRoom_38 : decode cX2_digRoom 38 = .ok (.invokestatic 49, 3) := by decide +kernel
theorem dX2_digRoom_41 : decode cX2_digRoom 41 = .ok (.ifCond .ne 22, 3) := by decide +kernel
theorem dX2_digRoom_44 : decode cX2_digRoom 44 = .ok (.aload_n 0, 1) := by decide +kernel
theorem dX2_digRoom_45 : decode cX2_digRoom 45 = .ok (.iload 8, 2) := by decide +kernel
theorem dX2_digRoom_47 : decode cX2_digRoom 47 = .ok (.invokevirtual 53, 3) := by decide +kernel
theorem dX2_digRoom_50 : decode cX2_digRoom 50 = .ok (.ifCond .eq 13, 3) := by decide +kernel
theorem dX2_digRoom_53 : decode cX2_digRoom 53 = .ok (.aload_n 0, 1) := by decide +kernel
theorem dX2_digRoom_54 : decode cX2_digRoom 54 = .ok (.iload 8, 2) := by decide +kernel
theorem dX2_digRoom_56 : decode cX2_digRoom 56 = .ok (.iconst 0, 1) := by decide +kernel
theorem dX2_digRoom_57 : decode cX2_digRoom 57 = .ok (.invokevirtual 57, 3) := by decide +kernel
theorem dX2_digRoom_60 : decode cX2_digRoom 60 = .ok (.iinc 5 1, 3) := by decide +kernel
theorem dX2_digRoom_63 : decode cX2_digRoom 63 = .ok (.iinc 7 1, 3) := by decide +kernel
theorem dX2_digRoom_66 : decode cX2_digRoom 66 = .ok (.goto (-48), 3) := by decide +kernel
theorem dX2_digRoom_69 : decode cX2_digRoom 69 = .ok (.iinc 6 1, 3) := by decide +kernel
theorem dX2_digRoom_72 : decode cX2_digRoom 72 = .ok (.goto (-66), 3) := by decide +kernel
theorem dX2_digRoom_75 : decode cX2_digRoom 75 = .ok (.iload 5, 2) := by decide +kernel
theorem dX2_digRoom_77 : decode cX2_digRoom 77 = .ok (.ireturn, 1) := by decide +kernel
theorem dX2_apart_0 : decode cX2_apart 0 = .ok (.iload_n 1, 1) := by decide +kernel
theorem dX2_apart_1 : decode cX2_apart 1 = .ok (.bipush 16, 2) := by decide +kernel
theorem dX2_apart_3 : decode cX2_apart 3 = .ok (.irem, 1) := by decide +kernel
theorem dX2_apart_4 : decode cX2_apart 4 = .ok (.iload_n 0, 1) := by decide +kernel
theorem dX2_apart_5 : decode cX2_apart 5 = .ok (.bipush 16, 2) := by decide +kernel
theorem dX2_apart_7 : decode cX2_apart 7 = .ok (.irem, 1) := by decide +kernel
theorem dX2_apart_8 : decode cX2_apart 8 = .ok (.isub, 1) := by decide +kernel
theorem dX2_apart_9 : decode cX2_apart 9 = .ok (.invokestatic 61, 3) := by decide +kernel
theorem dX2_apart_12 : decode cX2_apart 12 = .ok (.istore_n 2, 1) := by decide +kernel
theorem dX2_apart_13 : decode cX2_apart 13 = .ok (.iload_n 1, 1) := by decide +kernel
theorem dX2_apart_14 : decode cX2_apart 14 = .ok (.bipush 16, 2) := by decide +kernel
theorem dX2_apart_16 : decode cX2_apart 16 = .ok (.idiv, 1) := by decide +kernel
theorem dX2_apart_17 : decode cX2_apart 17 = .ok (.iload_n 0, 1) := by decide +kernel
theorem dX2_apart_18 : decode cX2_apart 18 = .ok (.bipush 16, 2) := by decide +kernel
theorem dX2_apart_20 : decode cX2_apart 20 = .ok (.idiv, 1) := by decide +kernel
theorem dX2_apart_21 : decode cX2_apart 21 = .ok (.isub, 1) := by decide +kernel
theorem dX2_apart_22 : decode cX2_apart 22 = .ok (.invokestatic 61, 3) := by decide +kernel
theorem dX2_apart_25 : decode cX2_apart 25 = .ok (.istore_n 3, 1) := by decide +kernel
theorem dX2_apart_26 : decode cX2_apart 26 = .ok (.iload_n 2, 1) := by decide +kernel
theorem dX2_apart_27 : decode cX2_apart 27 = .ok (.iload_n 3, 1) := by decide +kernel
theorem dX2_apart_28 : decode cX2_apart 28 = .ok (.invokestatic 66, 3) := by decide +kernel
theorem dX2_apart_31 : decode cX2_apart 31 = .ok (.ireturn, 1) := by decide +kernel
set_option maxRecDepth 20000 in
theorem ggX2_nearest_J9_floorDiv_7cf53 : GoodIn wsX2_nearest wsJ9_floorDiv_7cf53 := goodIn_r _ [4] (by decide +kernel) (by decide +kernel)
set_option maxRecDepth 20000 in
theorem gX2_nearest_J9_floorDiv_7cf53 : GoodIn wsX2_nearest (va_wsS RX2 70 yJ9_floorDiv_7cf53 wsJ9_floorDiv_7cf53) := goodIn_app (goodIn_of _ (by decide +kernel)) ggX2_nearest_J9_floorDiv_7cf53
theorem dX2_nearest_0 : decode cX2_nearest 0 = .ok (.iload_n 1, 1) := by decide +kernel
theorem dX2_nearest_1 : decode cX2_nearest 1 = .ok (.ifCond .le 17, 3) := by decide +kernel
theorem dX2_nearest_4 : decode cX2_nearest 4 = .ok (.iconst 2, 1) := by decide +kernel
theorem dX2_nearest_5 : decode cX2_nearest 5 = .ok (.iload_n 0, 1) := by decide +kernel
theorem dX2_nearest_6 : decode cX2_nearest 6 = .ok (.imul, 1) := by decide +kernel
theorem dX2_nearest_7 : decode cX2_nearest 7 = .ok (.iload_n 1, 1) := by decide +kernel
theorem dX2_nearest_8 : decode cX2_nearest 8 = .ok (.iadd, 1) := by decide +kernel
theorem dX2_nearest_9 : decode cX2_nearest 9 = .ok (.iconst 2, 1) := by decide +kernel
theorem dX2_nearest_10 : decode cX2_nearest 10 = .ok (.iload_n 1, 1) := by decide +kernel
theorem dX2_nearest_11 : decode cX2_nearest 11 = .ok (.imul, 1) := by decide +kernel
theorem dX2_nearest_12 : decode cX2_nearest 12 = .ok (.invokestatic 70, 3) := by decide +kernel
theorem dX2_nearest_15 : decode cX2_nearest 15 = .ok (.goto 4, 3) := by decide +kernel
theorem dX2_nearest_18 : decode cX2_nearest 18 = .ok (.iconst 0, 1) := by decide +kernel
theorem dX2_nearest_19 : decode cX2_nearest 19 = .ok (.ireturn, 1) := by decide +kernel
set_option maxRecDepth 20000 in
theorem ggX2_isSeenFrom_X2_apart : GoodIn wsX2_isSeenFrom wsX2_apart := goodIn_r _ [4, 5, 6, 7, 8, 9, 10, 11] (by decide +kernel) (by decide +kernel)
set_option maxRecDepth 20000 in
theorem gX2_isSeenFrom_X2_apart : GoodIn wsX2_isSeenFrom (va_wsS RX2 73 yX2_apart wsX2_apart) := goodIn_app (goodIn_of _ (by decide +kernel)) ggX2_isSeenFrom_X2_apart
set_option maxRecDepth 20000 in
theorem ggX2_isSeenFrom_X2_nearest : GoodIn wsX2_isSeenFrom wsX2_nearest := goodIn_r _ [14, 15, 16, 17, 18] (by decide +kernel) (by decide +kernel)
set_option maxRecDepth 20000 in
theorem gX2_isSeenFrom_X2_nearest : GoodIn wsX2_isSeenFrom (va_wsS RX2 76 yX2_nearest wsX2_nearest) := goodIn_app (goodIn_of _ (by decide +kernel)) ggX2_isSeenFrom_X2_nearest
set_option maxRecDepth 20000 in
theorem ggX2_isSeenFrom_X2_kindAt : GoodIn wsX2_isSeenFrom wsX2_kindAt := goodIn_r _ [22, 23, 27, 28, 29, 30, 31, 32, 33, 34] (by decide +kernel) (by decide +kernel)
set_option maxRecDepth 20000 in
theorem gX2_isSeenFrom_X2_kindAt : GoodIn wsX2_isSeenFrom (wsV RX2 53 RX2 yX2_kindAt wsX2_kindAt) := goodIn_app (goodIn_of _ (by decide +kernel)) ggX2_isSeenFrom_X2_kindAt
set_option maxRecDepth 20000 in
theorem ggX2_isSeenFrom_X4_stopsSight : GoodIn wsX2_isSeenFrom wsX4_stopsSight := goodIn_r _ [26] (by decide +kernel) (by decide +kernel)
set_option maxRecDepth 20000 in
theorem gX2_isSeenFrom_X4_stopsSight_n79 : GoodIn wsX2_isSeenFrom (wsX4_stopsSight) := ggX2_isSeenFrom_X4_stopsSight
theorem dX2_isSeenFrom_0 : decode cX2_isSeenFrom 0 = .ok (.iload_n 1, 1) := by decide +kernel
theorem dX2_isSeenFrom_1 : decode cX2_isSeenFrom 1 = .ok (.iload_n 2, 1) := by decide +kernel
theorem dX2_isSeenFrom_2 : decode cX2_isSeenFrom 2 = .ok (.invokestatic 73, 3) := by decide +kernel
theorem dX2_isSeenFrom_5 : decode cX2_isSeenFrom 5 = .ok (.istore_n 3, 1) := by decide +kernel
theorem dX2_isSeenFrom_6 : decode cX2_isSeenFrom 6 = .ok (.iload_n 3, 1) := by decide +kernel
theorem dX2_isSeenFrom_7 : decode cX2_isSeenFrom 7 = .ok (.bipush 7, 2) := by decide +kernel
theorem dX2_isSeenFrom_9 : decode cX2_isSeenFrom 9 = .ok (.if_icmp .le 5, 3) := by decide +kernel
theorem dX2_isSeenFrom_12 : decode cX2_isSeenFrom 12 = .ok (.iconst 0, 1) := by decide +kernel
theorem dX2_isSeenFrom_13 : decode cX2_isSeenFrom 13 = .ok (.ireturn, 1) := by decide +kernel
theorem dX2_isSeenFrom_14 : decode cX2_isSeenFrom 14 = .ok (.iload_n 2, 1) := by decide +kernel
theorem dX2_isSeenFrom_15 : decode cX2_isSeenFrom 15 = .ok (.bipush 16, 2) := by decide +kernel
theorem dX2_isSeenFrom_17 : decode cX2_isSeenFrom 17 = .ok (.irem, 1) := by decide +kernel
theorem dX2_isSeenFrom_18 : decode cX2_isSeenFrom 18 = .ok (.iload_n 1, 1) := by decide +kernel
theorem dX2_isSeenFrom_19 : decode cX2_isSeenFrom 19 = .ok (.bipush 16, 2) := by decide +kernel
theorem dX2_isSeenFrom_21 : decode cX2_isSeenFrom 21 = .ok (.irem, 1) := by decide +kernel
theorem dX2_isSeenFrom_22 : decode cX2_isSeenFrom 22 = .ok (.isub, 1) := by decide +kernel
theorem dX2_isSeenFrom_23 : decode cX2_isSeenFrom 23 = .ok (.istore 4, 2) := by decide +kernel
theorem dX2_isSeenFrom_25 : decode cX2_isSeenFrom 25 = .ok (.iload_n 2, 1) := by decide +kernel
theorem dX2_isSeenFrom_26 : decode cX2_isSeenFrom 26 = .ok (.bipush 16, 2) := by decide +kernel
theorem dX2_isSeenFrom_28 : decode cX2_isSeenFrom 28 = .ok (.idiv, 1) := by decide +kernel
theorem dX2_isSeenFrom_29 : decode cX2_isSeenFrom 29 = .ok (.iload_n 1, 1) := by decide +kernel
theorem dX2_isSeenFrom_30 : decode cX2_isSeenFrom 30 = .ok (.bipush 16, 2) := by decide +kernel
theorem dX2_isSeenFrom_32 : decode cX2_isSeenFrom 32 = .ok (.idiv, 1) := by decide +kernel
theorem dX2_isSeenFrom_33 : decode cX2_isSeenFrom 33 = .ok (.isub, 1) := by decide +kernel
theorem dX2_isSeenFrom_34 : decode cX2_isSeenFrom 34 = .ok (.istore 5, 2) := by decide +kernel
theorem dX2_isSeenFrom_36 : decode cX2_isSeenFrom 36 = .ok (.iconst 1, 1) := by decide +kernel
theorem dX2_isSeenFrom_37 : decode cX2_isSeenFrom 37 = .ok (.istore 6, 2) := by decide +kernel
theorem dX2_isSeenFrom_39 : decode cX2_isSeenFrom 39 = .ok (.iload 6, 2) := by decide +kernel
theorem dX2_isSeenFrom_41 : decode cX2_isSeenFrom 41 = .ok (.iload_n 3, 1) := by decide +kernel
theorem dX2_isSeenFrom_42 : decode cX2_isSeenFrom 42 = .ok (.if_icmp .ge 49, 3) := by decide +kernel
theorem dX2_isSeenFrom_45 : decode cX2_isSeenFrom 45 = .ok (.iload_n 1, 1) := by decide +kernel
theorem dX2_isSeenFrom_46 : decode cX2_isSeenFrom 46 = .ok (.iload 6, 2) := by decide +kernel
theorem dX2_isSeenFrom_48 : decode cX2_isSeenFrom 48 = .ok (.iload 4, 2) := by decide +kernel
theorem dX2_isSeenFrom_50 : decode cX2_isSeenFrom 50 = .ok (.imul, 1) := by decide +kernel
theorem dX2_isSeenFrom_51 : decode cX2_isSeenFrom 51 = .ok (.iload_n 3, 1) := by decide +kernel
theorem dX2_isSeenFrom_52 : decode cX2_isSeenFrom 52 = .ok (.invokestatic 76, 3) := by decide +kernel
theorem dX2_isSeenFrom_55 : decode cX2_isSeenFrom 55 = .ok (.iadd, 1) := by decide +kernel
theorem dX2_isSeenFrom_56 : decode cX2_isSeenFrom 56 = .ok (.bipush 16, 2) := by decide +kernel
theorem dX2_isSeenFrom_58 : decode cX2_isSeenFrom 58 = .ok (.iload 6, 2) := by decide +kernel
theorem dX2_isSeenFrom_60 : decode cX2_isSeenFrom 60 = .ok (.iload 5, 2) := by decide +kernel
theorem dX2_isSeenFrom_62 : decode cX2_isSeenFrom 62 = .ok (.imul, 1) := by decide +kernel
theorem dX2_isSeenFrom_63 : decode cX2_isSeenFrom 63 = .ok (.iload_n 3, 1) := by decide +kernel
theorem dX2_isSeenFrom_64 : decode cX2_isSeenFrom 64 = .ok (.invokestatic 76, 3) := by decide +kernel
theorem dX2_isSeenFrom_67 : decode cX2_isSeenFrom 67 = .ok (.imul, 1) := by decide +kernel
theorem dX2_isSeenFrom_68 : decode cX2_isSeenFrom 68 = .ok (.iadd, 1) := by decide +kernel
theorem dX2_isSeenFrom_69 : decode cX2_isSeenFrom 69 = .ok (.istore 7, 2) := by decide +kernel
theorem dX2_isSeenFrom_71 : decode cX2_isSeenFrom 71 = .ok (.aload_n 0, 1) := by decide +kernel
theorem dX2_isSeenFrom_72 : decode cX2_isSeenFrom 72 = .ok (.iload 7, 2) := by decide +kernel
theorem dX2_isSeenFrom_74 : decode cX2_isSeenFrom 74 = .ok (.invokevirtual 53, 3) := by decide +kernel
theorem dX2_isSeenFrom_77 : decode cX2_isSeenFrom 77 = .ok (.invokestatic 79, 3) := by decide +kernel
theorem dX2_isSeenFrom_80 : decode cX2_isSeenFrom 80 = .ok (.ifCond .eq 5, 3) := by decide +kernel
theorem dX2_isSeenFrom_83 : decode cX2_isSeenFrom 83 = .ok (.iconst 0, 1) := by decide +kernel
theorem dX2_isSeenFrom_84 : decode cX2_isSeenFrom 84 = .ok (.ireturn, 1) := by decide +kernel
theorem dX2_isSeenFrom_85 : decode cX2_isSeenFrom 85 = .ok (.iinc 6 1, 3) := by decide +kernel
theorem dX2_isSeenFrom_88 : decode cX2_isSeenFrom 88 = .ok (.goto (-49), 3) := by decide +kernel
theorem dX2_isSeenFrom_91 : decode cX2_isSeenFrom 91 = .ok (.iconst 1, 1) := by decide +kernel
theorem dX2_isSeenFrom_92 : decode cX2_isSeenFrom 92 = .ok (.ireturn, 1) := by decide +kernel
theorem dX2_isKnown_0 : decode cX2_isKnown 0 = .ok (.iload_n 2, 1) := by decide +kernel
theorem dX2_isKnown_1 : decode cX2_isKnown 1 = .ok (.ifCond .lt 29, 3) := by decide +kernel
theorem dX2_isKnown_4 : decode cX2_isKnown 4 = .ok (.iload_n 2, 1) := by decide +kernel
theorem dX2_isKnown_5 : decode cX2_isKnown 5 = .ok (.aload_n 0, 1) := by decide +kernel
theorem dX2_isKnown_6 : decode cX2_isKnown 6 = .ok (.getfield 15, 3) := by decide +kernel
theorem dX2_isKnown_9 : decode cX2_isKnown 9 = .ok (.arraylength, 1) := by decide +kernel
theorem dX2_isKnown_10 : decode cX2_isKnown 10 = .ok (.if_icmp .ge 20, 3) := by decide +kernel
theorem dX2_isKnown_13 : decode cX2_isKnown 13 = .ok (.aload_n 0, 1) := by decide +kernel
theorem dX2_isKnown_14 : decode cX2_isKnown 14 = .ok (.getfield 15, 3) := by decide +kernel
theorem dX2_isKnown_17 : decode cX2_isKnown 17 = .ok (.iload_n 2, 1) := by decide +kernel
theorem dX2_isKnown_18 : decode cX2_isKnown 18 = .ok (.iaload, 1) := by decide +kernel
theorem dX2_isKnown_19 : decode cX2_isKnown 19 = .ok (.iconst 1, 1) := by decide +kernel
theorem dX2_isKnown_20 : decode cX2_isKnown 20 = .ok (.iload_n 1, 1) := by decide +kernel
theorem dX2_isKnown_21 : decode cX2_isKnown 21 = .ok (.ishl, 1) := by decide +kernel
theorem dX2_isKnown_22 : decode cX2_isKnown 22 = .ok (.iand, 1) := by decide +kernel
theorem dX2_isKnown_23 : decode cX2_isKnown 23 = .ok (.ifCond .eq 7, 3) := by decide +kernel
theorem dX2_isKnown_26 : decode cX2_isKnown 26 = .ok (.iconst 1, 1) := by decide +kernel
theorem dX2_isKnown_27 : decode cX2_isKnown 27 = .ok (.goto 4, 3) := by decide +kernel
theorem dX2_isKnown_30 : decode cX2_isKnown 30 = .ok (.iconst 0, 1) := by decide +kernel
theorem dX2_isKnown_31 : decode cX2_isKnown 31 = .ok (.ireturn, 1) := by decide +kernel
set_option maxRecDepth 20000 in
theorem ggX2_knownCells_X2_isKnown : GoodIn wsX2_knownCells wsX2_isKnown := goodIn_r _ [6, 1, 7, 8, 9, 10, 11, 12, 13, 14] (by decide +kernel) (by decide +kernel)
set_option maxRecDepth 20000 in
theorem gX2_knownCells_X2_isKnown : GoodIn wsX2_knownCells (wsV RX2 82 RX2 yX2_isKnown wsX2_isKnown) := goodIn_app (goodIn_of _ (by decide +kernel)) ggX2_knownCells_X2_isKnown
theorem dX2_knownCells_0 : decode cX2_knownCells 0 = .ok (.iconst 0, 1) := by decide +kernel
theorem dX2_knownCells_1 : decode cX2_knownCells 1 = .ok (.istore_n 2, 1) := by decide +kernel
theorem dX2_knownCells_2 : decode cX2_knownCells 2 = .ok (.iconst 0, 1) := by decide +kernel
theorem dX2_knownCells_3 : decode cX2_knownCells 3 = .ok (.istore_n 3, 1) := by decide +kernel
theorem dX2_knownCells_4 : decode cX2_knownCells 4 = .ok (.iload_n 3, 1) := by decide +kernel
theorem dX2_knownCells_5 : decode cX2_knownCells 5 = .ok (.aload_n 0, 1) := by decide +kernel
theorem dX2_knownCells_6 : decode cX2_knownCells 6 = .ok (.getfield 15, 3) := by decide +kernel
theorem dX2_knownCells_9 : decode cX2_knownCells 9 = .ok (.arraylength, 1) := by decide +kernel
theorem dX2_knownCells_10 : decode cX2_knownCells 10 = .ok (.if_icmp .ge 21, 3) := by decide +kernel
theorem dX2_knownCells_13 : decode cX2_knownCells 13 = .ok (.aload_n 0, 1) := by decide +kernel
theorem dX2_knownCells_14 : decode cX2_knownCells 14 = .ok (.iload_n 1, 1) := by decide +kernel
theorem dX2_knownCells_15 : decode cX2_knownCells 15 = .ok (.iload_n 3, 1) := by decide +kernel
theorem dX2_knownCells_16 : decode cX2_knownCells 16 = .ok (.invokevirtual 82, 3) := by decide +kernel
theorem dX2_knownCells_19 : decode cX2_knownCells 19 = .ok (.ifCond .eq 6, 3) := by decide +kernel
theorem dX2_knownCells_22 : decode cX2_knownCells 22 = .ok (.iinc 2 1, 3) := by decide +kernel
theorem dX2_knownCells_25 : decode cX2_knownCells 25 = .ok (.iinc 3 1, 3) := by decide +kernel
theorem dX2_knownCells_28 : decode cX2_knownCells 28 = .ok (.goto (-24), 3) := by decide +kernel
theorem dX2_knownCells_31 : decode cX2_knownCells 31 = .ok (.iload_n 2, 1) := by decide +kernel
theorem dX2_knownCells_32 : decode cX2_knownCells 32 = .ok (.ireturn, 1) := by decide +kernel
set_option maxRecDepth 20000 in
theorem ggX2_look_X2_trait : GoodIn wsX2_look wsX2_trait := goodIn_r _ [6, 7, 41, 42, 43, 44, 45, 46, 47, 48] (by decide +kernel) (by decide +kernel)
set_option maxRecDepth 20000 in
theorem gX2_look_X2_trait : GoodIn wsX2_look (wsV RX2 86 RX2 yX2_trait wsX2_trait) := goodIn_app (goodIn_of _ (by decide +kernel)) ggX2_look_X2_trait
set_option maxRecDepth 20000 in
theorem ggX2_look_X2_isKnown : GoodIn wsX2_look wsX2_isKnown := goodIn_r _ [11, 1, 41, 42, 43, 44, 45, 46, 47, 48] (by decide +kernel) (by decide +kernel)
set_option maxRecDepth 20000 in
theorem gX2_look_X2_isKnown : GoodIn wsX2_look (wsV RX2 82 RX2 yX2_isKnown wsX2_isKnown) := goodIn_app (goodIn_of _ (by decide +kernel)) ggX2_look_X2_isKnown
set_option maxRecDepth 20000 in
theorem ggX2_look_X2_isSeenFrom : GoodIn wsX2_look wsX2_isSeenFrom := goodIn_r _ [15, 16, 17, 5, 18, 19, 20, 21, 22, 23, 24, 25, 26, 27, 28, 29, 30, 31, 32, 33, 34, 35, 36, 37, 38, 39, 40, 41, 42, 43, 44, 45, 46, 47, 48] (by decide +kernel) (by decide +kernel)
set_option maxRecDepth 20000 in
theorem gX2_look_X2_isSeenFrom : GoodIn wsX2_look (wsV RX2 89 RX2 yX2_isSeenFrom wsX2_isSeenFrom) := goodIn_app (goodIn_of _ (by decide +kernel)) ggX2_look_X2_isSeenFrom
theorem dX2_look_0 : decode cX2_look 0 = .ok (.aload_n 0, 1) := by decide +kernel
theorem dX2_look_1 : decode cX2_look 1 = .ok (.iload_n 1, 1) := by decide +kernel
theorem dX2_look_2 : decode cX2_look 2 = .ok (.iconst 1, 1) := by decide +kernel
theorem dX2_look_3 : decode cX2_look 3 = .ok (.invokevirtual 86, 3) := by decide +kernel
theorem dX2_look_6 : decode cX2_look 6 = .ok (.istore_n 2, 1) := by decide +kernel
theorem dX2_look_7 : decode cX2_look 7 = .ok (.aload_n 0, 1) := by decide +kernel
theorem dX2_look_8 : decode cX2_look 8 = .ok (.iload_n 1, 1) := by decide +kernel
theorem dX2_look_9 : decode cX2_look 9 = .ok (.iconst 0, 1) := by decide +kernel
theorem dX2_look_10 : decode cX2_look 10 = .ok (.invokevirtual 86, 3) := by decide +kernel
theorem dX2_look_13 : decode cX2_look 13 = .ok (.istore_n 3, 1) := by decide +kernel
theorem dX2_look_14 : decode cX2_look 14 = .ok (.iconst 0, 1) := by decide +kernel
theorem dX2_look_15 : decode cX2_look 15 = .ok (.istore 4, 2) := by decide +kernel
theorem dX2_look_17 : decode cX2_look 17 = .ok (.iload 4, 2) := by decide +kernel
theorem dX2_look_19 : decode cX2_look 19 = .ok (.aload_n 0, 1) := by decide +kernel
theorem dX2_look_20 : decode cX2_look 20 = .ok (.getfield 15, 3) := by decide +kernel
theorem dX2_look_23 : decode cX2_look 23 = .ok (.arraylength, 1) := by decide +kernel
theorem dX2_look_24 : decode cX2_look 24 = .ok (.if_icmp .ge 42, 3) := by decide +kernel
theorem dX2_look_27 : decode cX2_look 27 = .ok (.aload_n 0, 1) := by decide +kernel
theorem dX2_look_28 : decode cX2_look 28 = .ok (.iload_n 3, 1) := by decide +kernel
theorem dX2_look_29 : decode cX2_look 29 = .ok (.iload 4, 2) := by decide +kernel
theorem dX2_look_31 : decode cX2_look 31 = .ok (.invokevirtual 82, 3) := by decide +kernel
theorem dX2_look_34 : decode cX2_look 34 = .ok (.ifCond .ne 26, 3) := by decide +kernel
theorem dX2_look_37 : decode cX2_look 37 = .ok (.aload_n 0, 1) := by decide +kernel
theorem dX2_look_38 : decode cX2_look 38 = .ok (.iload_n 2, 1) := by decide +kernel
theorem dX2_look_39 : decode cX2_look 39 = .ok (.iload 4, 2) := by decide +kernel
theorem dX2_look_41 : decode cX2_look 41 = .ok (.invokevirtual 89, 3) := by decide +kernel
theorem dX2_look_44 : decode cX2_look 44 = .ok (.ifCond .eq 16, 3) := by decide +kernel
theorem dX2_look_47 : decode cX2_look 47 = .ok (.aload_n 0, 1) := by decide +kernel
theorem dX2_look_48 : decode cX2_look 48 = .ok (.getfield 15, 3) := by decide +kernel
theorem dX2_look_51 : decode cX2_look 51 = .ok (.iload 4, 2) := by decide +kernel
theorem dX2_look_53 : decode cX2_look 53 = .ok (.dup2, 1) := by decide +kernel
theorem dX2_look_54 : decode cX2_look 54 = .ok (.iaload, 1) := by decide +kernel
theorem dX2_look_55 : decode cX2_look 55 = .ok (.iconst 1, 1) := by decide +kernel
theorem dX2_look_56 : decode cX2_look 56 = .ok (.iload_n 3, 1) := by decide +kernel
theorem dX2_look_57 : decode cX2_look 57 = .ok (.ishl, 1) := by decide +kernel
theorem dX2_look_58 : decode cX2_look 58 = .ok (.ior, 1) := by decide +kernel
theorem dX2_look_59 : decode cX2_look 59 = .ok (.iastore, 1) := by decide +kernel
theorem dX2_look_60 : decode cX2_look 60 = .ok (.iinc 4 1, 3) := by decide +kernel
theorem dX2_look_63 : decode cX2_look 63 = .ok (.goto (-46), 3) := by decide +kernel
theorem dX2_look_66 : decode cX2_look 66 = .ok (.return_, 1) := by decide +kernel
theorem dX2_isBeing_0 : decode cX2_isBeing 0 = .ok (.iload_n 1, 1) := by decide +kernel
theorem dX2_isBeing_1 : decode cX2_isBeing 1 = .ok (.ifCond .lt 15, 3) := by decide +kernel
theorem dX2_isBeing_4 : decode cX2_isBeing 4 = .ok (.iload_n 1, 1) := by decide +kernel
theorem dX2_isBeing_5 : decode cX2_isBeing 5 = .ok (.aload_n 0, 1) := by decide +kernel
theorem dX2_isBeing_6 : decode cX2_isBeing 6 = .ok (.getfield 39, 3) := by decide +kernel
theorem dX2_isBeing_9 : decode cX2_isBeing 9 = .ok (.if_icmp .ge 7, 3) := by decide +kernel
theorem dX2_isBeing_12 : decode cX2_isBeing 12 = .ok (.iconst 1, 1) := by decide +kernel
theorem dX2_isBeing_13 : decode cX2_isBeing 13 = .ok (.goto 4, 3) := by decide +kernel
theorem dX2_isBeing_16 : decode cX2_isBeing 16 = .ok (.iconst 0, 1) := by decide +kernel
theorem dX2_isBeing_17 : decode cX2_isBeing 17 = .ok (.ireturn, 1) := by decide +kernel
theorem dX2_hasRoom_0 : decode cX2_hasRoom 0 = .ok (.aload_n 0, 1) := by decide +kernel
theorem dX2_hasRoom_1 : decode cX2_hasRoom 1 = .ok (.getfield 39, 3) := by decide +kernel
theorem dX2_hasRoom_4 : decode cX2_hasRoom 4 = .ok (.bipush 10, 2) := by decide +kernel
theorem dX2_hasRoom_6 : decode cX2_hasRoom 6 = .ok (.if_icmp .ge 7, 3) := by decide +kernel
theorem dX2_hasRoom_9 : decode cX2_hasRoom 9 = .ok (.iconst 1, 1) := by decide +kernel
theorem dX2_hasRoom_10 : decode cX2_hasRoom 10 = .ok (.goto 4, 3) := by decide +kernel
theorem dX2_hasRoom_13 : decode cX2_hasRoom 13 = .ok (.iconst 0, 1) := by decide +kernel
theorem dX2_hasRoom_14 : decode cX2_hasRoom 14 = .ok (.ireturn, 1) := by decide +kernel
theorem dX2_trait_0 : decode cX2_trait 0 = .ok (.iload_n 1, 1) := by decide +kernel
theorem dX2_trait_1 : decode cX2_trait 1 = .ok (.bipush 9, 2) := by decide +kernel
theorem dX2_trait_3 : decode cX2_trait 3 = .ok (.imul, 1) := by decide +kernel
theorem dX2_trait_4 : decode cX2_trait 4 = .ok (.iload_n 2, 1) := by decide +kernel
theorem dX2_trait_5 : decode cX2_trait 5 = .ok (.iadd, 1) := by decide +kernel
theorem dX2_trait_6 : decode cX2_trait 6 = .ok (.istore_n 3, 1) := by decide +kernel
theorem dX2_trait_7 : decode cX2_trait 7 = .ok (.iload_n 3, 1) := by decide +kernel
theorem dX2_trait_8 : decode cX2_trait 8 = .ok (.ifCond .lt 21, 3) := by decide +kernel
theorem dX2_trait_11 : decode cX2_trait 11 = .ok (.iload_n 3, 1) := by decide +kernel
theorem dX2_trait_12 : decode cX2_trait 12 = .ok (.aload_n 0, 1) := by decide +kernel
theorem dX2_trait_13 : decode cX2_trait 13 = .ok (.getfield 18, 3) := by decide +kernel
theorem dX2_trait_16 : decode cX2_trait 16 = .ok (.arraylength, 1) := by decide +kernel
theorem dX2_trait_17 : decode cX2_trait 17 = .ok (.if_icmp .ge 12, 3) := by decide +kernel
theorem dX2_trait_20 : decode cX2_trait 20 = .ok (.aload_n 0, 1) := by decide +kernel
theorem dX2_trait_21 : decode cX2_trait 21 = .ok (.getfield 18, 3) := by decide +kernel
theorem dX2_trait_24 : decode cX2_trait 24 = .ok (.iload_n 3, 1) := by decide +kernel
theorem dX2_trait_25 : decode cX2_trait 25 = .ok (.iaload, 1) := by decide +kernel
theorem dX2_trait_26 : decode cX2_trait 26 = .ok (.goto 4, 3) := by decide +kernel
theorem dX2_trait_29 : decode cX2_trait 29 = .ok (.iconst 0, 1) := by decide +kernel
theorem dX2_trait_30 : decode cX2_trait 30 = .ok (.ireturn, 1) := by decide +kernel
theorem dX2_putTrait_0 : decode cX2_putTrait 0 = .ok (.iload_n 1, 1) := by decide +kernel
theorem dX2_putTrait_1 : decode cX2_putTrait 1 = .ok (.bipush 9, 2) := by decide +kernel
theorem dX2_putTrait_3 : decode cX2_putTrait 3 = .ok (.imul, 1) := by decide +kernel
theorem dX2_putTrait_4 : decode cX2_putTrait 4 = .ok (.iload_n 2, 1) := by decide +kernel
theorem dX2_putTrait_5 : decode cX2_putTrait 5 = .ok (.iadd, 1) := by decide +kernel
theorem dX2_putTrait_6 : decode cX2_putTrait 6 = .ok (.istore 4, 2) := by decide +kernel
theorem dX2_putTrait_8 : decode cX2_putTrait 8 = .ok (.iload 4, 2) := by decide +kernel
theorem dX2_putTrait_10 : decode cX2_putTrait 10 = .ok (.ifCond .lt 21, 3) := by decide +kernel
theorem dX2_putTrait_13 : decode cX2_putTrait 13 = .ok (.iload 4, 2) := by decide +kernel
theorem dX2_putTrait_15 : decode cX2_putTrait 15 = .ok (.aload_n 0, 1) := by decide +kernel
theorem dX2_putTrait_16 : decode cX2_putTrait 16 = .ok (.getfield 18, 3) := by decide +kernel
theorem dX2_putTrait_19 : decode cX2_putTrait 19 = .ok (.arraylength, 1) := by decide +kernel
theorem dX2_putTrait_20 : decode cX2_putTrait 20 = .ok (.if_icmp .ge 11, 3) := by decide +kernel
theorem dX2_putTrait_23 : decode cX2_putTrait 23 = .ok (.aload_n 0, 1) := by decide +kernel
theorem dX2_putTrait_24 : decode cX2_putTrait 24 = .ok (.getfield 18, 3) := by decide +kernel
theorem dX2_putTrait_27 : decode cX2_putTrait 27 = .ok (.iload 4, 2) := by decide +kernel
theorem dX2_putTrait_29 : decode cX2_putTrait 29 = .ok (.iload_n 3, 1) := by decide +kernel
theorem dX2_putTrait_30 : decode cX2_putTrait 30 = .ok (.iastore, 1) := by decide +kernel
theorem dX2_putTrait_31 : decode cX2_putTrait 31 = .ok (.return_, 1) := by decide +kernel
theorem dX2_stackOf_0 : decode cX2_stackOf 0 = .ok (.iload_n 1, 1) := by decide +kernel
theorem dX2_stackOf_1 : decode cX2_stackOf 1 = .ok (.iconst 5, 1) := by decide +kernel
theorem dX2_stackOf_2 : decode cX2_stackOf 2 = .ok (.imul, 1) := by decide +kernel
theorem dX2_stackOf_3 : decode cX2_stackOf 3 = .ok (.iload_n 2, 1) := by decide +kernel
theorem dX2_stackOf_4 : decode cX2_stackOf 4 = .ok (.iadd, 1) := by decide +kernel
theorem dX2_stackOf_5 : decode cX2_stackOf 5 = .ok (.istore_n 3, 1) := by decide +kernel
theorem dX2_stackOf_6 : decode cX2_stackOf 6 = .ok (.iload_n 3, 1) := by decide +kernel
theorem dX2_stackOf_7 : decode cX2_stackOf 7 = .ok (.ifCond .lt 21, 3) := by decide +kernel
theorem dX2_stackOf_10 : decode cX2_stackOf 10 = .ok (.iload_n 3, 1) := by decide +kernel
theorem dX2_stackOf_11 : decode cX2_stackOf 11 = .ok (.aload_n 0, 1) := by decide +kernel
theorem dX2_stackOf_12 : decode cX2_stackOf 12 = .ok (.getfield 21, 3) := by decide +kernel
theorem dX2_stackOf_15 : decode cX2_stackOf 15 = .ok (.arraylength, 1) := by decide +kernel
theorem dX2_stackOf_16 : decode cX2_stackOf 16 = .ok (.if_icmp .ge 12, 3) := by decide +kernel
theorem dX2_stackOf_19 : decode cX2_stackOf 19 = .ok (.aload_n 0, 1) := by decide +kernel
theorem dX2_stackOf_20 : decode cX2_stackOf 20 = .ok (.getfield 21, 3) := by decide +kernel
theorem dX2_stackOf_23 : decode cX2_stackOf 23 = .ok (.iload_n 3, 1) := by decide +kernel
theorem dX2_stackOf_24 : decode cX2_stackOf 24 = .ok (.iaload, 1) := by decide +kernel
theorem dX2_stackOf_25 : decode cX2_stackOf 25 = .ok (.goto 4, 3) := by decide +kernel
theorem dX2_stackOf_28 : decode cX2_stackOf 28 = .ok (.iconst 0, 1) := by decide +kernel
theorem dX2_stackOf_29 : decode cX2_stackOf 29 = .ok (.ireturn, 1) := by decide +kernel
theorem dX2_turnsOf_0 : decode cX2_turnsOf 0 = .ok (.iload_n 1, 1) := by decide +kernel
theorem dX2_turnsOf_1 : decode cX2_turnsOf 1 = .ok (.iconst 5, 1) := by decide +kernel
theorem dX2_turnsOf_2 : decode cX2_turnsOf 2 = .ok (.imul, 1) := by decide +kernel
theorem dX2_turnsOf_3 : decode cX2_turnsOf 3 = .ok (.iload_n 2, 1) := by decide +kernel
theorem dX2_turnsOf_4 : decode cX2_turnsOf 4 = .ok (.iadd, 1) := by decide +kernel
theorem dX2_turnsOf_5 : decode cX2_turnsOf 5 = .ok (.istore_n 3, 1) := by decide +kernel
theorem dX2_turnsOf_6 : decode cX2_turnsOf 6 = .ok (.iload_n 3, 1) := by decide +kernel
theorem dX2_turnsOf_7 : decode cX2_turnsOf 7 = .ok (.ifCond .lt 21, 3) := by decide +kernel
theorem dX2_turnsOf_10 : decode cX2_turnsOf 10 = .ok (.iload_n 3, 1) := by decide +kernel
theorem dX2_turnsOf_11 : decode cX2_turnsOf 11 = .ok (.aload_n 0, 1) := by decide +kernel
theorem dX2_turnsOf_12 : decode cX2_turnsOf 12 = .ok (.getfield 24, 3) := by decide +kernel
theorem dX2_turnsOf_15 : decode cX2_turnsOf 15 = .ok (.arraylength, 1) := by decide +kernel
theorem dX2_turnsOf_16 : decode cX2_turnsOf 16 = .ok (.if_icmp .ge 12, 3) := by decide +kernel
theorem dX2_turnsOf_19 : decode cX2_turnsOf 19 = .ok (.aload_n 0, 1) := by decide +kernel
theorem dX2_turnsOf_20 : decode cX2_turnsOf 20 = .ok (.getfield 24, 3) := by decide +kernel
theorem dX2_turnsOf_23 : decode cX2_turnsOf 23 = .ok (.iload_n 3, 1) := by decide +kernel
theorem dX2_turnsOf_24 : decode cX2_turnsOf 24 = .ok (.iaload, 1) := by decide +kernel
theorem dX2_turnsOf_25 : decode cX2_turnsOf 25 = .ok (.goto 4, 3) := by decide +kernel
theorem dX2_turnsOf_28 : decode cX2_turnsOf 28 = .ok (.iconst 0, 1) := by decide +kernel
theorem dX2_turnsOf_29 : decode cX2_turnsOf 29 = .ok (.ireturn, 1) := by decide +kernel
theorem dX2_putEffect_0 : decode cX2_putEffect 0 = .ok (.iload_n 1, 1) := by decide +kernel
theorem dX2_putEffect_1 : decode cX2_putEffect 1 = .ok (.iconst 5, 1) := by decide +kernel
theorem dX2_putEffect_2 : decode cX2_putEffect 2 = .ok (.imul, 1) := by decide +kernel
theorem dX2_putEffect_3 : decode cX2_putEffect 3 = .ok (.iload_n 2, 1) := by decide +kernel
theorem dX2_putEffect_4 : decode cX2_putEffect 4 = .ok (.iadd, 1) := by decide +kernel
theorem dX2_putEffect_5 : decode cX2_putEffect 5 = .ok (.istore 5, 2) := by decide +kernel
theorem dX2_putEffect_7 : decode cX2_putEffect 7 = .ok (.iload 5, 2) := by decide +kernel
theorem dX2_putEffect_9 : decode cX2_putEffect 9 = .ok (.ifCond .lt 40, 3) := by decide +kernel
theorem dX2_putEffect_12 : decode cX2_putEffect 12 = .ok (.iload 5, 2) := by decide +kernel
theorem dX2_putEffect_14 : decode cX2_putEffect 14 = .ok (.aload_n 0, 1) := by decide +kernel
theorem dX2_putEffect_15 : decode cX2_putEffect 15 = .ok (.getfield 21, 3) := by decide +kernel
theorem dX2_putEffect_18 : decode cX2_putEffect 18 = .ok (.arraylength, 1) := by decide +kernel
theorem dX2_putEffect_19 : decode cX2_putEffect 19 = .ok (.if_icmp .ge 30, 3) := by decide +kernel
theorem dX2_putEffect_22 : decode cX2_putEffect 22 = .ok (.iload 5, 2) := by decide +kernel
theorem dX2_putEffect_24 : decode cX2_putEffect 24 = .ok (.aload_n 0, 1) := by decide +kernel
theorem dX2_putEffect_25 : decode cX2_putEffect 25 = .ok (.getfield 24, 3) := by decide +kernel
theorem dX2_putEffect_28 : decode cX2_putEffect 28 = .ok (.arraylength, 1) := by decide +kernel
theorem dX2_putEffect_29 : decode cX2_putEffect 29 = .ok (.if_icmp .ge 20, 3) := by decide +kernel
theorem dX2_putEffect_32 : decode cX2_putEffect 32 = .ok (.aload_n 0, 1) := by decide +kernel
theorem dX2_putEffect_33 : decode cX2_putEffect 33 = .ok (.getfield 21, 3) := by decide +kernel
theorem dX2_putEffect_36 : decode cX2_putEffect 36 = .ok (.iload 5, 2) := by decide +kernel
theorem dX2_putEffect_38 : decode cX2_putEffect 38 = .ok (.iload_n 3, 1) := by decide +kernel
theorem dX2_putEffect_39 : decode cX2_putEffect 39 = .ok (.iastore, 1) := by decide +kernel
theorem dX2_putEffect_40 : decode cX2_putEffect 40 = .ok (.aload_n 0, 1) := by decide +kernel
theorem dX2_putEffect_41 : decode cX2_putEffect 41 = .ok (.getfield 24, 3) := by decide +kernel
theorem dX2_putEffect_44 : decode cX2_putEffect 44 = .ok (.iload 5, 2) := by decide +kernel
theorem dX2_putEffect_46 : decode cX2_putEffect 46 = .ok (.iload 4, 2) := by decide +kernel
theorem dX2_putEffect_48 : decode cX2_putEffect 48 = .ok (.iastore, 1) := by decide +kernel
theorem dX2_putEffect_49 : decode cX2_putEffect 49 = .ok (.return_, 1) := by decide +kernel
set_option maxRecDepth 20000 in
theorem ggX2_addEffect_X2_stackOf : GoodIn wsX2_addEffect wsX2_stackOf := goodIn_r _ [12, 13, 23, 24, 25, 26, 27, 28, 29, 30] (by decide +kernel) (by decide +kernel)
set_option maxRecDepth 20000 in
theorem gX2_addEffect_X2_stackOf : GoodIn wsX2_addEffect (wsV RX2 92 RX2 yX2_stackOf wsX2_stackOf) := goodIn_app (goodIn_of _ (by decide +kernel)) ggX2_addEffect_X2_stackOf
set_option maxRecDepth 20000 in
theorem ggX2_addEffect_X2_turnsOf : GoodIn wsX2_addEffect wsX2_turnsOf := goodIn_r _ [17, 18, 23, 24, 25, 26, 27, 28, 29, 30] (by decide +kernel) (by decide +kernel)
set_option maxRecDepth 20000 in
theorem gX2_addEffect_X2_turnsOf : GoodIn wsX2_addEffect (wsV RX2 98 RX2 yX2_turnsOf wsX2_turnsOf) := goodIn_app (goodIn_of _ (by decide +kernel)) ggX2_addEffect_X2_turnsOf
set_option maxRecDepth 20000 in
theorem ggX2_addEffect_X2_putEffect : GoodIn wsX2_addEffect wsX2_putEffect := goodIn_r _ [22, 13, 18, 23, 24, 25, 26, 27, 28, 29, 30] (by decide +kernel) (by decide +kernel)
set_option maxRecDepth 20000 in
theorem gX2_addEffect_X2_putEffect : GoodIn wsX2_addEffect (wsV RX2 101 RX2 yX2_putEffect wsX2_putEffect) := goodIn_app (goodIn_of _ (by decide +kernel)) ggX2_addEffect_X2_putEffect
theorem dX2_addEffect_0 : decode cX2_addEffect 0 = .ok (.aload_n 0, 1) := by decide +kernel
theorem dX2_addEffect_1 : decode cX2_addEffect 1 = .ok (.iload_n 1, 1) := by decide +kernel
theorem dX2_addEffect_2 : decode cX2_addEffect 2 = .ok (.iload_n 2, 1) := by decide +kernel
theorem dX2_addEffect_3 : decode cX2_addEffect 3 = .ok (.aload_n 0, 1) := by decide +kernel
theorem dX2_addEffect_4 : decode cX2_addEffect 4 = .ok (.iload_n 1, 1) := by decide +kernel
theorem dX2_addEffect_5 : decode cX2_addEffect 5 = .ok (.iload_n 2, 1) := by decide +kernel
theorem dX2_addEffect_6 : decode cX2_addEffect 6 = .ok (.invokevirtual 92, 3) := by decide +kernel
theorem dX2_addEffect_9 : decode cX2_addEffect 9 = .ok (.iload_n 3, 1) := by decide +kernel
theorem dX2_addEffect_10 : decode cX2_addEffect 10 = .ok (.iadd, 1) := by decide +kernel
theorem dX2_addEffect_11 : decode cX2_addEffect 11 = .ok (.bipush 9, 2) := by decide +kernel
theorem dX2_addEffect_13 : decode cX2_addEffect 13 = .ok (.invokestatic 95, 3) := by decide +kernel
theorem dX2_addEffect_16 : decode cX2_addEffect 16 = .ok (.aload_n 0, 1) := by decide +kernel
theorem dX2_addEffect_17 : decode cX2_addEffect 17 = .ok (.iload_n 1, 1) := by decide +kernel
theorem dX2_addEffect_18 : decode cX2_addEffect 18 = .ok (.iload_n 2, 1) := by decide +kernel
theorem dX2_addEffect_19 : decode cX2_addEffect 19 = .ok (.invokevirtual 98, 3) := by decide +kernel
theorem dX2_addEffect_22 : decode cX2_addEffect 22 = .ok (.iload 4, 2) := by decide +kernel
theorem dX2_addEffect_24 : decode cX2_addEffect 24 = .ok (.invokestatic 66, 3) := by decide +kernel
theorem dX2_addEffect_27 : decode cX2_addEffect 27 = .ok (.invokevirtual 101, 3) := by decide +kernel
theorem dX2_addEffect_30 : decode cX2_addEffect 30 = .ok (.return_, 1) := by decide +kernel
set_option maxRecDepth 20000 in
theorem ggX2_addBeing_X2_whoseTurn : GoodIn wsX2_addBeing wsX2_whoseTurn := goodIn_r _ [6, 1, 7, 8, 9, 5, 10, 11, 12, 13, 14, 15, 64, 65, 66, 67, 68, 69, 70, 71] (by decide +kernel) (by decide +kernel)
set_option maxRecDepth 20000 in
theorem gX2_addBeing_X2_whoseTurn : GoodIn wsX2_addBeing (wsV RX2 105 RX2 yX2_whoseTurn wsX2_whoseTurn) := goodIn_app (goodIn_of _ (by decide +kernel)) ggX2_addBeing_X2_whoseTurn
set_option maxRecDepth 20000 in
theorem ggX2_addBeing_X2_putTrait : GoodIn wsX2_addBeing wsX2_putTrait := goodIn_r _ [19, 15, 64, 65, 66, 67, 68, 69, 70, 71] (by decide +kernel) (by decide +kernel)
set_option maxRecDepth 20000 in
theorem gX2_addBeing_X2_putTrait : GoodIn wsX2_addBeing (wsV RX2 109 RX2 yX2_putTrait wsX2_putTrait) := goodIn_app (goodIn_of _ (by decide +kernel)) ggX2_addBeing_X2_putTrait
set_option maxRecDepth 20000 in
theorem ggX2_addBeing_X2_trait : GoodIn wsX2_addBeing wsX2_trait := goodIn_r _ [14, 15, 64, 65, 66, 67, 68, 69, 70, 71] (by decide +kernel) (by decide +kernel)
set_option maxRecDepth 20000 in
theorem gX2_addBeing_X2_trait : GoodIn wsX2_addBeing (wsV RX2 86 RX2 yX2_trait wsX2_trait) := goodIn_app (goodIn_of _ (by decide +kernel)) ggX2_addBeing_X2_trait
set_option maxRecDepth 20000 in
theorem ggX2_addBeing_X2_putEffect : GoodIn wsX2_addBeing wsX2_putEffect := goodIn_r _ [23, 24, 25, 64, 65, 66, 67, 68, 69, 70, 71] (by decide +kernel) (by decide +kernel)
set_option maxRecDepth 20000 in
theorem gX2_addBeing_X2_putEffect : GoodIn wsX2_addBeing (wsV RX2 101 RX2 yX2_putEffect wsX2_putEffect) := goodIn_app (goodIn_of _ (by decide +kernel)) ggX2_addBeing_X2_putEffect
set_option maxRecDepth 20000 in
theorem ggX2_addBeing_X2_look : GoodIn wsX2_addBeing wsX2_look := goodIn_r _ [29, 30, 11, 12, 13, 5, 14, 15, 31, 32, 33, 34, 35, 36, 37, 38, 39, 40, 41, 42, 43, 44, 45, 46, 47, 48, 49, 50, 51, 52, 53, 54, 55, 56, 57, 58, 59, 60, 61, 62, 63, 64, 65, 66, 67, 68, 69, 70, 71] (by decide +kernel) (by decide +kernel)
set_option maxRecDepth 20000 in
theorem gX2_addBeing_X2_look : GoodIn wsX2_addBeing (wsV RX2 113 RX2 yX2_look wsX2_look) := goodIn_app (goodIn_of _ (by decide +kernel)) ggX2_addBeing_X2_look
theorem dX2_addBeing_0 : decode cX2_addBeing 0 = .ok (.aload_n 0, 1) := by decide +kernel
theorem dX2_addBeing_1 : decode cX2_addBeing 1 = .ok (.invokevirtual 105, 3) := by decide +kernel
theorem dX2_addBeing_4 : decode cX2_addBeing 4 = .ok (.istore 4, 2) := by decide +kernel
theorem dX2_addBeing_6 : decode cX2_addBeing 6 = .ok (.aload_n 0, 1) := by decide +kernel
theorem dX2_addBeing_7 : decode cX2_addBeing 7 = .ok (.getfield 39, 3) := by decide +kernel
theorem dX2_addBeing_10 : decode cX2_addBeing 10 = .ok (.istore 5, 2) := by decide +kernel
theorem dX2_addBeing_12 : decode cX2_addBeing 12 = .ok (.aload_n 0, 1) := by decide +kernel
theorem dX2_addBeing_13 : decode cX2_addBeing 13 = .ok (.dup, 1) := by decide +kernel
theorem dX2_addBeing_14 : decode cX2_addBeing 14 = .ok (.getfield 39, 3) := by decide +kernel
theorem dX2_addBeing_17 : decode cX2_addBeing 17 = .ok (.iconst 1, 1) := by decide +kernel
theorem dX2_addBeing_18 : decode cX2_addBeing 18 = .ok (.iadd, 1) := by decide +kernel
theorem dX2_addBeing_19 : decode cX2_addBeing 19 = .ok (.putfield 39, 3) := by decide +kernel
theorem dX2_addBeing_22 : decode cX2_addBeing 22 = .ok (.aload_n 0, 1) := by decide +kernel
theorem dX2_addBeing_23 : decode cX2_addBeing 23 = .ok (.iload 5, 2) := by decide +kernel
theorem dX2_addBeing_25 : decode cX2_addBeing 25 = .ok (.iconst 0, 1) := by decide +kernel
theorem dX2_addBeing_26 : decode cX2_addBeing 26 = .ok (.iload_n 1, 1) := by decide +kernel
theorem dX2_addBeing_27 : decode cX2_addBeing 27 = .ok (.invokevirtual 109, 3) := by decide +kernel
theorem dX2_addBeing_30 : decode cX2_addBeing 30 = .ok (.aload_n 0, 1) := by decide +kernel
theorem dX2_addBeing_31 : decode cX2_addBeing 31 = .ok (.iload 5, 2) := by decide +kernel
theorem dX2_addBeing_33 : decode cX2_addBeing 33 = .ok (.iconst 1, 1) := by decide +kernel
theorem dX2_addBeing_34 : decode cX2_addBeing 34 = .ok (.iload_n 2, 1) := by decide +kernel
theorem dX2_addBeing_35 : decode cX2_addBeing 35 = .ok (.invokevirtual 109, 3) := by decide +kernel
theorem dX2_addBeing_38 : decode cX2_addBeing 38 = .ok (.aload_n 0, 1) := by decide +kernel
theorem dX2_addBeing_39 : decode cX2_addBeing 39 = .ok (.iload 5, 2) := by decide +kernel
theorem dX2_addBeing_41 : decode cX2_addBeing 41 = .ok (.iconst 2, 1) := by decide +kernel
theorem dX2_addBeing_42 : decode cX2_addBeing 42 = .ok (.iload_n 3, 1) := by decide +kernel
theorem dX2_addBeing_43 : decode cX2_addBeing 43 = .ok (.invokevirtual 109, 3) := by decide +kernel
theorem dX2_addBeing_46 : decode cX2_addBeing 46 = .ok (.aload_n 0, 1) := by decide +kernel
theorem dX2_addBeing_47 : decode cX2_addBeing 47 = .ok (.iload 5, 2) := by decide +kernel
theorem dX2_addBeing_49 : decode cX2_addBeing 49 = .ok (.iconst 3, 1) := by decide +kernel
theorem dX2_addBeing_50 : decode cX2_addBeing 50 = .ok (.iload_n 3, 1) := by decide +kernel
theorem dX2_addBeing_51 : decode cX2_addBeing 51 = .ok (.invokevirtual 109, 3) := by decide +kernel
theorem dX2_addBeing_54 : decode cX2_addBeing 54 = .ok (.aload_n 0, 1) := by decide +kernel
theorem dX2_addBeing_55 : decode cX2_addBeing 55 = .ok (.iload 5, 2) := by decide +kernel
theorem dX2_addBeing_57 : decode cX2_addBeing 57 = .ok (.iconst 4, 1) := by decide +kernel
theorem dX2_addBeing_58 : decode cX2_addBeing 58 = .ok (.iconst 5, 1) := by decide +kernel
theorem dX2_addBeing_59 : decode cX2_addBeing 59 = .ok (.invokevirtual 109, 3) := by decide +kernel
theorem dX2_addBeing_62 : decode cX2_addBeing 62 = .ok (.aload_n 0, 1) := by decide +kernel
theorem dX2_addBeing_63 : decode cX2_addBeing 63 = .ok (.iload 5, 2) := by decide +kernel
theorem dX2_addBeing_65 : decode cX2_addBeing 65 = .ok (.iconst 5, 1) := by decide +kernel
theorem dX2_addBeing_66 : decode cX2_addBeing 66 = .ok (.iconst 2, 1) := by decide +kernel
theorem dX2_addBeing_67 : decode cX2_addBeing 67 = .ok (.invokevirtual 109, 3) := by decide +kernel
theorem dX2_addBeing_70 : decode cX2_addBeing 70 = .ok (.aload_n 0, 1) := by decide +kernel
theorem dX2_addBeing_71 : decode cX2_addBeing 71 = .ok (.iload 5, 2) := by decide +kernel
theorem dX2_addBeing_73 : decode cX2_addBeing 73 = .ok (.bipush 6, 2) := by decide +kernel
theorem dX2_addBeing_75 : decode cX2_addBeing 75 = .ok (.iconst 2, 1) := by decide +kernel
theorem dX2_addBeing_76 : decode cX2_addBeing 76 = .ok (.invokevirtual 109, 3) := by decide +kernel
theorem dX2_addBeing_79 : decode cX2_addBeing 79 = .ok (.aload_n 0, 1) := by decide +kernel
theorem dX2_addBeing_80 : decode cX2_addBeing 80 = .ok (.iload 5, 2) := by decide +kernel
theorem dX2_addBeing_82 : decode cX2_addBeing 82 = .ok (.bipush 7, 2) := by decide +kernel
theorem dX2_addBeing_84 : decode cX2_addBeing 84 = .ok (.iconst 3, 1) := by decide +kernel
theorem dX2_addBeing_85 : decode cX2_addBeing 85 = .ok (.invokevirtual 109, 3) := by decide +kernel
theorem dX2_addBeing_88 : decode cX2_addBeing 88 = .ok (.aload_n 0, 1) := by decide +kernel
theorem dX2_addBeing_89 : decode cX2_addBeing 89 = .ok (.iload 5, 2) := by decide +kernel
theorem dX2_addBeing_91 : decode cX2_addBeing 91 = .ok (.bipush 8, 2) := by decide +kernel
theorem dX2_addBeing_93 : decode cX2_addBeing 93 = .ok (.iload 4, 2) := by decide +kernel
theorem dX2_addBeing_95 : decode cX2_addBeing 95 = .ok (.iconst (-1), 1) := by decide +kernel
theorem dX2_addBeing_96 : decode cX2_addBeing 96 = .ok (.if_icmp .ne 7, 3) := by decide +kernel
theorem dX2_addBeing_99 : decode cX2_addBeing 99 = .ok (.iconst 0, 1) := by decide +kernel
theorem dX2_addBeing_100 : decode cX2_addBeing 100 = .ok (.goto 11, 3) := by decide +kernel
theorem dX2_addBeing_103 : decode cX2_addBeing 103 = .ok (.aload_n 0, 1) := by decide +kernel
theorem dX2_addBeing_104 : decode cX2_addBeing 104 = .ok (.iload 4, 2) := by decide +kernel
theorem dX2_addBeing_106 : decode cX2_addBeing 106 = .ok (.bipush 8, 2) := by decide +kernel
theorem dX2_addBeing_108 : decode cX2_addBeing 108 = .ok (.invokevirtual 86, 3) := by decide +kernel
theorem dX2_addBeing_111 : decode cX2_addBeing 111 = .ok (.invokevirtual 109, 3) := by decide +kernel
theorem dX2_addBeing_114 : decode cX2_addBeing 114 = .ok (.iconst 0, 1) := by decide +kernel
theorem dX2_addBeing_115 : decode cX2_addBeing 115 = .ok (.istore 6, 2) := by decide +kernel
theorem dX2_addBeing_117 : decode cX2_addBeing 117 = .ok (.iload 6, 2) := by decide +kernel
theorem dX2_addBeing_119 : decode cX2_addBeing 119 = .ok (.iconst 5, 1) := by decide +kernel
theorem dX2_addBeing_120 : decode cX2_addBeing 120 = .ok (.if_icmp .ge 19, 3) := by decide +kernel
theorem dX2_addBeing_123 : decode cX2_addBeing 123 = .ok (.aload_n 0, 1) := by decide +kernel
theorem dX2_addBeing_124 : decode cX2_addBeing 124 = .ok (.iload 5, 2) := by decide +kernel
theorem dX2_addBeing_126 : decode cX2_addBeing 126 = .ok (.iload 6, 2) := by decide +kernel
theorem dX2_addBeing_128 : decode cX2_addBeing 128 = .ok (.iconst 0, 1) := by decide +kernel
theorem dX2_addBeing_129 : decode cX2_addBeing 129 = .ok (.iconst 0, 1) := by decide +kernel
theorem dX2_addBeing_130 : decode cX2_addBeing 130 = .ok (.invokevirtual 101, 3) := by decide +kernel
theorem dX2_addBeing_133 : decode cX2_addBeing 133 = .ok (.iinc 6 1, 3) := by decide +kernel
theorem dX2_addBeing_136 : decode cX2_addBeing 136 = .ok (.goto (-19), 3) := by decide +kernel
theorem dX2_addBeing_139 : decode cX2_addBeing 139 = .ok (.aload_n 0, 1) := by decide +kernel
theorem dX2_addBeing_140 : decode cX2_addBeing 140 = .ok (.iload 5, 2) := by decide +kernel
theorem dX2_addBeing_142 : decode cX2_addBeing 142 = .ok (.invokevirtual 113, 3) := by decide +kernel
theorem dX2_addBeing_145 : decode cX2_addBeing 145 = .ok (.iload 5, 2) := by decide +kernel
theorem dX2_addBeing_147 : decode cX2_addBeing 147 = .ok (.ireturn, 1) := by decide +kernel
set_option maxRecDepth 20000 in
theorem ggX2_isAlive_X2_trait : GoodIn wsX2_isAlive wsX2_trait := goodIn_r _ [5, 6, 7, 8, 9, 10, 11, 12, 13, 14] (by decide +kernel) (by decide +kernel)
set_option maxRecDepth 20000 in
theorem gX2_isAlive_X2_trait : GoodIn wsX2_isAlive (wsV RX2 86 RX2 yX2_trait wsX2_trait) := goodIn_app (goodIn_of _ (by decide +kernel)) ggX2_isAlive_X2_trait
theorem dX2_isAlive_0 : decode cX2_isAlive 0 = .ok (.aload_n 0, 1) := by decide +kernel
theorem dX2_isAlive_1 : decode cX2_isAlive 1 = .ok (.iload_n 1, 1) := by decide +kernel
theorem dX2_isAlive_2 : decode cX2_isAlive 2 = .ok (.iconst 2, 1) := by decide +kernel
theorem dX2_isAlive_3 : decode cX2_isAlive 3 = .ok (.invokevirtual 86, 3) := by decide +kernel
theorem dX2_isAlive_6 : decode cX2_isAlive 6 = .ok (.ifCond .le 7, 3) := by decide +kernel
theorem dX2_isAlive_9 : decode cX2_isAlive 9 = .ok (.iconst 1, 1) := by decide +kernel
theorem dX2_isAlive_10 : decode cX2_isAlive 10 = .ok (.goto 4, 3) := by decide +kernel
theorem dX2_isAlive_13 : decode cX2_isAlive 13 = .ok (.iconst 0, 1) := by decide +kernel
theorem dX2_isAlive_14 : decode cX2_isAlive 14 = .ok (.ireturn, 1) := by decide +kernel
set_option maxRecDepth 20000 in
theorem ggX2_isAfraid_X2_trait : GoodIn wsX2_isAfraid wsX2_trait := goodIn_r _ [5, 6, 7, 8, 9, 10, 11, 12, 13, 14] (by decide +kernel) (by decide +kernel)
set_option maxRecDepth 20000 in
theorem gX2_isAfraid_X2_trait : GoodIn wsX2_isAfraid (wsV RX2 86 RX2 yX2_trait wsX2_trait) := goodIn_app (goodIn_of _ (by decide +kernel)) ggX2_isAfraid_X2_trait
theorem dX2_isAfraid_0 : decode cX2_isAfraid 0 = .ok (.iconst 3, 1) := by decide +kernel
theorem dX2_isAfraid_1 : decode cX2_isAfraid 1 = .ok (.aload_n 0, 1) := by decide +kernel
theorem dX2_isAfraid_2 : decode cX2_isAfraid 2 = .ok (.iload_n 1, 1) := by decide +kernel
theorem dX2_isAfraid_3 : decode cX2_isAfraid 3 = .ok (.iconst 2, 1) := by decide +kernel
theorem dX2_isAfraid_4 : decode cX2_isAfraid 4 = .ok (.invokevirtual 86, 3) := by decide +kernel
theorem dX2_isAfraid_7 : decode cX2_isAfraid 7 = .ok (.imul, 1) := by decide +kernel
theorem dX2_isAfraid_8 : decode cX2_isAfraid 8 = .ok (.aload_n 0, 1) := by decide +kernel
theorem dX2_isAfraid_9 : decode cX2_isAfraid 9 = .ok (.iload_n 1, 1) := by decide +kernel
theorem dX2_isAfraid_10 : decode cX2_isAfraid 10 = .ok (.iconst 3, 1) := by decide +kernel
theorem dX2_isAfraid_11 : decode cX2_isAfraid 11 = .ok (.invokevirtual 86, 3) := by decide +kernel
theorem dX2_isAfraid_14 : decode cX2_isAfraid 14 = .ok (.if_icmp .ge 7, 3) := by decide +kernel
theorem dX2_isAfraid_17 : decode cX2_isAfraid 17 = .ok (.iconst 1, 1) := by decide +kernel
theorem dX2_isAfraid_18 : decode cX2_isAfraid 18 = .ok (.goto 4, 3) := by decide +kernel
theorem dX2_isAfraid_21 : decode cX2_isAfraid 21 = .ok (.iconst 0, 1) := by decide +kernel
theorem dX2_isAfraid_22 : decode cX2_isAfraid 22 = .ok (.ireturn, 1) := by decide +kernel
set_option maxRecDepth 20000 in
theorem ggX2_whoIsOn_X2_trait : GoodIn wsX2_whoIsOn wsX2_trait := goodIn_r _ [6, 7, 8, 9, 10, 11, 12, 13, 14, 15] (by decide +kernel) (by decide +kernel)
set_option maxRecDepth 20000 in
theorem gX2_whoIsOn_X2_trait : GoodIn wsX2_whoIsOn (wsV RX2 86 RX2 yX2_trait wsX2_trait) := goodIn_app (goodIn_of _ (by decide +kernel)) ggX2_whoIsOn_X2_trait
theorem dX2_whoIsOn_0 : decode cX2_whoIsOn 0 = .ok (.iconst 0, 1) := by decide +kernel
theorem dX2_whoIsOn_1 : decode cX2_whoIsOn 1 = .ok (.istore_n 2, 1) := by decide +kernel
theorem dX2_whoIsOn_2 : decode cX2_whoIsOn 2 = .ok (.iload_n 2, 1) := by decide +kernel
theorem dX2_whoIsOn_3 : decode cX2_whoIsOn 3 = .ok (.aload_n 0, 1) := by decide +kernel
theorem dX2_whoIsOn_4 : decode cX2_whoIsOn 4 = .ok (.getfield 39, 3) := by decide +kernel
theorem dX2_whoIsOn_7 : decode cX2_whoIsOn 7 = .ok (.if_icmp .ge 21, 3) := by decide +kernel
theorem dX2_whoIsOn_10 : decode cX2_whoIsOn 10 = .ok (.aload_n 0, 1) := by decide +kernel
theorem dX2_whoIsOn_11 : decode cX2_whoIsOn 11 = .ok (.iload_n 2, 1) := by decide +kernel
theorem dX2_whoIsOn_12 : decode cX2_whoIsOn 12 = .ok (.iconst 1, 1) := by decide +kernel
theorem dX2_whoIsOn_13 : decode cX2_whoIsOn 13 = .ok (.invokevirtual 86, 3) := by decide +kernel
theorem dX2_whoIsOn_16 : decode cX2_whoIsOn 16 = .ok (.iload_n 1, 1) := by decide +kernel
theorem dX2_whoIsOn_17 : decode cX2_whoIsOn 17 = .ok (.if_icmp .ne 5, 3) := by decide +kernel
theorem dX2_whoIsOn_20 : decode cX2_whoIsOn 20 = .ok (.iload_n 2, 1) := by decide +kernel
theorem dX2_whoIsOn_21 : decode cX2_whoIsOn 21 = .ok (.ireturn, 1) := by decide +kernel
theorem dX2_whoIsOn_22 : decode cX2_whoIsOn 22 = .ok (.iinc 2 1, 3) := by decide +kernel
theorem dX2_whoIsOn_25 : decode cX2_whoIsOn 25 = .ok (.goto (-23), 3) := by decide +kernel
theorem dX2_whoIsOn_28 : decode cX2_whoIsOn 28 = .ok (.iconst (-1), 1) := by decide +kernel
theorem dX2_whoIsOn_29 : decode cX2_whoIsOn 29 = .ok (.ireturn, 1) := by decide +kernel
set_option maxRecDepth 20000 in
theorem ggX2_living_X2_trait : GoodIn wsX2_living wsX2_trait := goodIn_r _ [6, 7, 12, 13, 14, 15, 16, 17, 18, 19] (by decide +kernel) (by decide +kernel)
set_option maxRecDepth 20000 in
theorem gX2_living_X2_trait : GoodIn wsX2_living (wsV RX2 86 RX2 yX2_trait wsX2_trait) := goodIn_app (goodIn_of _ (by decide +kernel)) ggX2_living_X2_trait
set_option maxRecDepth 20000 in
theorem ggX2_living_X2_isAlive : GoodIn wsX2_living wsX2_isAlive := goodIn_r _ [11, 2, 3, 4, 5, 6, 7, 12, 13, 14, 15, 16, 17, 18, 19] (by decide +kernel) (by decide +kernel)
set_option maxRecDepth 20000 in
theorem gX2_living_X2_isAlive : GoodIn wsX2_living (wsV RX2 117 RX2 yX2_isAlive wsX2_isAlive) := goodIn_app (goodIn_of _ (by decide +kernel)) ggX2_living_X2_isAlive
theorem dX2_living_0 : decode cX2_living 0 = .ok (.iconst 0, 1) := by decide +kernel
theorem dX2_living_1 : decode cX2_living 1 = .ok (.istore_n 2, 1) := by decide +kernel
theorem dX2_living_2 : decode cX2_living 2 = .ok (.iconst 0, 1) := by decide +kernel
theorem dX2_living_3 : decode cX2_living 3 = .ok (.istore_n 3, 1) := by decide +kernel
theorem dX2_living_4 : decode cX2_living 4 = .ok (.iload_n 3, 1) := by decide +kernel
theorem dX2_living_5 : decode cX2_living 5 = .ok (.aload_n 0, 1) := by decide +kernel
theorem dX2_living_6 : decode cX2_living 6 = .ok (.getfield 39, 3) := by decide +kernel
theorem dX2_living_9 : decode cX2_living 9 = .ok (.if_icmp .ge 30, 3) := by decide +kernel
theorem dX2_living_12 : decode cX2_living 12 = .ok (.aload_n 0, 1) := by decide +kernel
theorem dX2_living_13 : decode cX2_living 13 = .ok (.iload_n 3, 1) := by decide +kernel
theorem dX2_living_14 : decode cX2_living 14 = .ok (.iconst 0, 1) := by decide +kernel
theorem dX2_living_15 : decode cX2_living 15 = .ok (.invokevirtual 86, 3) := by decide +kernel
theorem dX2_living_18 : decode cX2_living 18 = .ok (.iload_n 1, 1) := by decide +kernel
theorem dX2_living_19 : decode cX2_living 19 = .ok (.if_icmp .ne 14, 3) := by decide +kernel
theorem dX2_living_22 : decode cX2_living 22 = .ok (.aload_n 0, 1) := by decide +kernel
theorem dX2_living_23 : decode cX2_living 23 = .ok (.iload_n 3, 1) := by decide +kernel
theorem dX2_living_24 : decode cX2_living 24 = .ok (.invokevirtual 117, 3) := by decide +kernel
theorem dX2_living_27 : decode cX2_living 27 = .ok (.ifCond .eq 6, 3) := by decide +kernel
theorem dX2_living_30 : decode cX2_living 30 = .ok (.iinc 2 1, 3) := by decide +kernel
theorem dX2_living_33 : decode cX2_living 33 = .ok (.iinc 3 1, 3) := by decide +kernel
theorem dX2_living_36 : decode cX2_living 36 = .ok (.goto (-32), 3) := by decide +kernel
theorem dX2_living_39 : decode cX2_living 39 = .ok (.iload_n 2, 1) := by decide +kernel
theorem dX2_living_40 : decode cX2_living 40 = .ok (.ireturn, 1) := by decide +kernel
set_option maxRecDepth 20000 in
theorem ggX2_lifeOf_X2_trait : GoodIn wsX2_lifeOf wsX2_trait := goodIn_r _ [6, 7, 8, 9, 10, 11, 12, 13, 14, 15] (by decide +kernel) (by decide +kernel)
set_option maxRecDepth 20000 in
theorem gX2_lifeOf_X2_trait : GoodIn wsX2_lifeOf (wsV RX2 86 RX2 yX2_trait wsX2_trait) := goodIn_app (goodIn_of _ (by decide +kernel)) ggX2_lifeOf_X2_trait
theorem dX2_lifeOf_0 : decode cX2_lifeOf 0 = .ok (.iconst 0, 1) := by decide +kernel
theorem dX2_lifeOf_1 : decode cX2_lifeOf 1 = .ok (.istore_n 2, 1) := by decide +kernel
theorem dX2_lifeOf_2 : decode cX2_lifeOf 2 = .ok (.iconst 0, 1) := by decide +kernel
theorem dX2_lifeOf_3 : decode cX2_lifeOf 3 = .ok (.istore_n 3, 1) := by decide +kernel
theorem dX2_lifeOf_4 : decode cX2_lifeOf 4 = .ok (.iload_n 3, 1) := by decide +kernel
theorem dX2_lifeOf_5 : decode cX2_lifeOf 5 = .ok (.aload_n 0, 1) := by decide +kernel
theorem dX2_lifeOf_6 : decode cX2_lifeOf 6 = .ok (.getfield 39, 3) := by decide +kernel
theorem dX2_lifeOf_9 : decode cX2_lifeOf 9 = .ok (.if_icmp .ge 28, 3) := by decide +kernel
theorem dX2_lifeOf_12 : decode cX2_lifeOf 12 = .ok (.aload_n 0, 1) := by decide +kernel
theorem dX2_lifeOf_13 : decode cX2_lifeOf 13 = .ok (.iload_n 3, 1) := by decide +kernel
theorem dX2_lifeOf_14 : decode cX2_lifeOf 14 = .ok (.iconst 0, 1) := by decide +kernel
theorem dX2_lifeOf_15 : decode cX2_lifeOf 15 = .ok (.invokevirtual 86, 3) := by decide +kernel
theorem dX2_lifeOf_18 : decode cX2_lifeOf 18 = .ok (.iload_n 1, 1) := by decide +kernel
theorem dX2_lifeOf_19 : decode cX2_lifeOf 19 = .ok (.if_icmp .ne 12, 3) := by decide +kernel
theorem dX2_lifeOf_22 : decode cX2_lifeOf 22 = .ok (.iload_n 2, 1) := by decide +kernel
theorem dX2_lifeOf_23 : decode cX2_lifeOf 23 = .ok (.aload_n 0, 1) := by decide +kernel
theorem dX2_lifeOf_24 : decode cX2_lifeOf 24 = .ok (.iload_n 3, 1) := by decide +kernel
theorem dX2_lifeOf_25 : decode cX2_lifeOf 25 = .ok (.iconst 2, 1) := by decide +kernel
theorem dX2_lifeOf_26 : decode cX2_lifeOf 26 = .ok (.invokevirtual 86, 3) := by decide +kernel
theorem dX2_lifeOf_29 : decode cX2_lifeOf 29 = .ok (.iadd, 1) := by decide +kernel
theorem dX2_lifeOf_30 : decode cX2_lifeOf 30 = .ok (.istore_n 2, 1) := by decide +kernel
theorem dX2_lifeOf_31 : decode cX2_lifeOf 31 = .ok (.iinc 3 1, 3) := by decide +kernel
theorem dX2_lifeOf_34 : decode cX2_lifeOf 34 = .ok (.goto (-30), 3) := by decide +kernel
theorem dX2_lifeOf_37 : decode cX2_lifeOf 37 = .ok (.iload_n 2, 1) := by decide +kernel
theorem dX2_lifeOf_38 : decode cX2_lifeOf 38 = .ok (.ireturn, 1) := by decide +kernel
set_option maxRecDepth 20000 in
theorem ggX2_whoseTurn_X2_isAlive : GoodIn wsX2_whoseTurn wsX2_isAlive := goodIn_r _ [6, 7, 8, 9, 5, 10, 11, 12, 13, 14, 15, 16, 17, 18, 19] (by decide +kernel) (by decide +kernel)
set_option maxRecDepth 20000 in
theorem gX2_whoseTurn_X2_isAlive : GoodIn wsX2_whoseTurn (wsV RX2 117 RX2 yX2_isAlive wsX2_isAlive) := goodIn_app (goodIn_of _ (by decide +kernel)) ggX2_whoseTurn_X2_isAlive
set_option maxRecDepth 20000 in
theorem ggX2_whoseTurn_X2_trait : GoodIn wsX2_whoseTurn wsX2_trait := goodIn_r _ [10, 11, 12, 13, 14, 15, 16, 17, 18, 19] (by decide +kernel) (by decide +kernel)
set_option maxRecDepth 20000 in
theorem gX2_whoseTurn_X2_trait : GoodIn wsX2_whoseTurn (wsV RX2 86 RX2 yX2_trait wsX2_trait) := goodIn_app (goodIn_of _ (by decide +kernel)) ggX2_whoseTurn_X2_trait
theorem dX2_whoseTurn_0 : decode cX2_whoseTurn 0 = .ok (.iconst (-1), 1) := by decide +kernel
theorem dX2_whoseTurn_1 : decode cX2_whoseTurn 1 = .ok (.istore_n 1, 1) := by decide +kernel
theorem dX2_whoseTurn_2 : decode cX2_whoseTurn 2 = .ok (.iconst 0, 1) := by decide +kernel
theorem dX2_whoseTurn_3 : decode cX2_whoseTurn 3 = .ok (.istore_n 2, 1) := by decide +kernel
theorem dX2_whoseTurn_4 : decode cX2_whoseTurn 4 = .ok (.iload_n 2, 1) := by decide +kernel
theorem dX2_whoseTurn_5 : decode cX2_whoseTurn 5 = .ok (.aload_n 0, 1) := by decide +kernel
theorem dX2_whoseTurn_6 : decode cX2_whoseTurn 6 = .ok (.getfield 39, 3) := by decide +kernel
theorem dX2_whoseTurn_9 : decode cX2_whoseTurn 9 = .ok (.if_icmp .ge 41, 3) := by decide +kernel
theorem dX2_whoseTurn_12 : decode cX2_whoseTurn 12 = .ok (.aload_n 0, 1) := by decide +kernel
theorem dX2_whoseTurn_13 : decode cX2_whoseTurn 13 = .ok (.iload_n 2, 1) := by decide +kernel
theorem dX2_whoseTurn_14 : decode cX2_whoseTurn 14 = .ok (.invokevirtual 117, 3) := by decide +kernel
theorem dX2_whoseTurn_17 : decode cX2_whoseTurn 17 = .ok (.ifCond .eq 27, 3) := by decide +kernel
theorem dX2_whoseTurn_20 : decode cX2_whoseTurn 20 = .ok (.iload_n 1, 1) := by decide +kernel
theorem dX2_whoseTurn_21 : decode cX2_whoseTurn 21 = .ok (.iconst (-1), 1) := by decide +kernel
theorem dX2_whoseTurn_22 : decode cX2_whoseTurn 22 = .ok (.if_icmp .eq 20, 3) := by decide +kernel
theorem dX2_whoseTurn_25 : decode cX2_whoseTurn 25 = .ok (.aload_n 0, 1) := by decide +kernel
theorem dX2_whoseTurn_26 : decode cX2_whoseTurn 26 = .ok (.iload_n 2, 1) := by decide +kernel
theorem dX2_whoseTurn_27 : decode cX2_whoseTurn 27 = .ok (.bipush 8, 2) := by decide +kernel
theorem dX2_whoseTurn_29 : decode cX2_whoseTurn 29 = .ok (.invokevirtual 86, 3) := by decide +kernel
theorem dX2_whoseTurn_32 : decode cX2_whoseTurn 32 = .ok (.aload_n 0, 1) := by decide +kernel
theorem dX2_whoseTurn_33 : decode cX2_whoseTurn 33 = .ok (.iload_n 1, 1) := by decide +kernel
theorem dX2_whoseTurn_34 : decode cX2_whoseTurn 34 = .ok (.bipush 8, 2) := by decide +kernel
theorem dX2_whoseTurn_36 : decode cX2_whoseTurn 36 = .ok (.invokevirtual 86, 3) := by decide +kernel
theorem dX2_whoseTurn_39 : decode cX2_whoseTurn 39 = .ok (.if_icmp .ge 5, 3) := by decide +kernel
theorem dX2_whoseTurn_42 : decode cX2_whoseTurn 42 = .ok (.iload_n 2, 1) := by decide +kernel
theorem dX2_whoseTurn_43 : decode cX2_whoseTurn 43 = .ok (.istore_n 1, 1) := by decide +kernel
theorem dX2_whoseTurn_44 : decode cX2_whoseTurn 44 = .ok (.iinc 2 1, 3) := by decide +kernel
theorem dX2_whoseTurn_47 : decode cX2_whoseTurn 47 = .ok (.goto (-43), 3) := by decide +kernel
theorem dX2_whoseTurn_50 : decode cX2_whoseTurn 50 = .ok (.iload_n 1, 1) := by decide +kernel
theorem dX2_whoseTurn_51 : decode cX2_whoseTurn 51 = .ok (.ireturn, 1) := by decide +kernel
set_option maxRecDepth 20000 in
theorem ggX2_isFoe_X2_trait : GoodIn wsX2_isFoe wsX2_trait := goodIn_r _ [5, 6, 7, 8, 9, 10, 11, 12, 13, 14] (by decide +kernel) (by decide +kernel)
set_option maxRecDepth 20000 in
theorem gX2_isFoe_X2_trait : GoodIn wsX2_isFoe (wsV RX2 86 RX2 yX2_trait wsX2_trait) := goodIn_app (goodIn_of _ (by decide +kernel)) ggX2_isFoe_X2_trait
theorem dX2_isFoe_0 : decode cX2_isFoe 0 = .ok (.aload_n 0, 1) := by decide +kernel
theorem dX2_isFoe_1 : decode cX2_isFoe 1 = .ok (.iload_n 2, 1) := by decide +kernel
theorem dX2_isFoe_2 : decode cX2_isFoe 2 = .ok (.iconst 2, 1) := by decide +kernel
theorem dX2_isFoe_3 : decode cX2_isFoe 3 = .ok (.invokevirtual 86, 3) := by decide +kernel
theorem dX2_isFoe_6 : decode cX2_isFoe 6 = .ok (.ifCond .le 22, 3) := by decide +kernel
theorem dX2_isFoe_9 : decode cX2_isFoe 9 = .ok (.aload_n 0, 1) := by decide +kernel
theorem dX2_isFoe_10 : decode cX2_isFoe 10 = .ok (.iload_n 2, 1) := by decide +kernel
theorem dX2_isFoe_11 : decode cX2_isFoe 11 = .ok (.iconst 0, 1) := by decide +kernel
theorem dX2_isFoe_12 : decode cX2_isFoe 12 = .ok (.invokevirtual 86, 3) := by decide +kernel
theorem dX2_isFoe_15 : decode cX2_isFoe 15 = .ok (.aload_n 0, 1) := by decide +kernel
theorem dX2_isFoe_16 : decode cX2_isFoe 16 = .ok (.iload_n 1, 1) := by decide +kernel
theorem dX2_isFoe_17 : decode cX2_isFoe 17 = .ok (.iconst 0, 1) := by decide +kernel
theorem dX2_isFoe_18 : decode cX2_isFoe 18 = .ok (.invokevirtual 86, 3) := by decide +kernel
theorem dX2_isFoe_21 : decode cX2_isFoe 21 = .ok (.if_icmp .eq 7, 3) := by decide +kernel
theorem dX2_isFoe_24 : decode cX2_isFoe 24 = .ok (.iconst 1, 1) := by decide +kernel
theorem dX2_isFoe_25 : decode cX2_isFoe 25 = .ok (.goto 4, 3) := by decide +kernel
theorem dX2_isFoe_28 : decode cX2_isFoe 28 = .ok (.iconst 0, 1) := by decide +kernel
theorem dX2_isFoe_29 : decode cX2_isFoe 29 = .ok (.ireturn, 1) := by decide +kernel
set_option maxRecDepth 20000 in
theorem ggX2_targetOf_X2_isAlive : GoodIn wsX2_targetOf wsX2_isAlive := goodIn_r _ [6, 7, 8, 9, 5, 10, 11, 45, 46, 47, 48, 49, 50, 51, 52] (by decide +kernel) (by decide +kernel)
set_option maxRecDepth 20000 in
theorem gX2_targetOf_X2_isAlive : GoodIn wsX2_targetOf (wsV RX2 117 RX2 yX2_isAlive wsX2_isAlive) := goodIn_app (goodIn_of _ (by decide +kernel)) ggX2_targetOf_X2_isAlive
set_option maxRecDepth 20000 in
theorem ggX2_targetOf_X2_trait : GoodIn wsX2_targetOf wsX2_trait := goodIn_r _ [10, 11, 45, 46, 47, 48, 49, 50, 51, 52] (by decide +kernel) (by decide +kernel)
set_option maxRecDepth 20000 in
theorem gX2_targetOf_X2_trait : GoodIn wsX2_targetOf (wsV RX2 86 RX2 yX2_trait wsX2_trait) := goodIn_app (goodIn_of _ (by decide +kernel)) ggX2_targetOf_X2_trait
set_option maxRecDepth 20000 in
theorem ggX2_targetOf_X2_isFoe : GoodIn wsX2_targetOf wsX2_isFoe := goodIn_r _ [15, 7, 8, 9, 5, 10, 11, 45, 46, 47, 48, 49, 50, 51, 52] (by decide +kernel) (by decide +kernel)
set_option maxRecDepth 20000 in
theorem gX2_targetOf_X2_isFoe : GoodIn wsX2_targetOf (wsV RX2 120 RX2 yX2_isFoe wsX2_isFoe) := goodIn_app (goodIn_of _ (by decide +kernel)) ggX2_targetOf_X2_isFoe
set_option maxRecDepth 20000 in
theorem ggX2_targetOf_X2_apart : GoodIn wsX2_targetOf wsX2_apart := goodIn_r _ [18, 19, 20, 21, 22, 23, 24, 25] (by decide +kernel) (by decide +kernel)
set_option maxRecDepth 20000 in
theorem gX2_targetOf_X2_apart : GoodIn wsX2_targetOf (va_wsS RX2 73 yX2_apart wsX2_apart) := goodIn_app (goodIn_of _ (by decide +kernel)) ggX2_targetOf_X2_apart
set_option maxRecDepth 20000 in
theorem ggX2_targetOf_X2_isSeenFrom : GoodIn wsX2_targetOf wsX2_isSeenFrom := goodIn_r _ [29, 16, 17, 5, 18, 19, 20, 21, 22, 23, 24, 25, 30, 31, 32, 33, 34, 35, 36, 37, 38, 39, 40, 41, 42, 43, 44, 45, 46, 47, 48, 49, 50, 51, 52] (by decide +kernel) (by decide +kernel)
set_option maxRecDepth 20000 in
theorem gX2_targetOf_X2_isSeenFrom : GoodIn wsX2_targetOf (wsV RX2 89 RX2 yX2_isSeenFrom wsX2_isSeenFrom) := goodIn_app (goodIn_of _ (by decide +kernel)) ggX2_targetOf_X2_isSeenFrom
theorem dX2_targetOf_0 : decode cX2_targetOf 0 = .ok (.aload_n 0, 1) := by decide +kernel
theorem dX2_targetOf_1 : decode cX2_targetOf 1 = .ok (.iload_n 1, 1) := by decide +kernel
theorem dX2_targetOf_2 : decode cX2_targetOf 2 = .ok (.invokevirtual 117, 3) := by decide +kernel
theorem dX2_targetOf_5 : decode cX2_targetOf 5 = .ok (.ifCond .ne 5, 3) := by decide +kernel
theorem dX2_targetOf_8 : decode cX2_targetOf 8 = .ok (.iconst (-1), 1) := by decide +kernel
theorem dX2_targetOf_9 : decode cX2_targetOf 9 = .ok (.ireturn, 1) := by decide +kernel
theorem dX2_targetOf_10 : decode cX2_targetOf 10 = .ok (.aload_n 0, 1) := by decide +kernel
theorem dX2_targetOf_11 : decode cX2_targetOf 11 = .ok (.iload_n 1, 1) := by decide +kernel
theorem dX2_targetOf_12 : decode cX2_targetOf 12 = .ok (.iconst 1, 1) := by decide +kernel
theorem dX2_targetOf_13 : decode cX2_targetOf 13 = .ok (.invokevirtual 86, 3) := by decide +kernel
theorem dX2_targetOf_16 : decode cX2_targetOf 16 = .ok (.istore_n 2, 1) := by decide +kernel
theorem dX2_targetOf_17 : decode cX2_targetOf 17 = .ok (.iconst (-1), 1) := by decide +kernel
theorem dX2_targetOf_18 : decode cX2_targetOf 18 = .ok (.istore_n 3, 1) := by decide +kernel
theorem dX2_targetOf_19 : decode cX2_targetOf 19 = .ok (.bipush 8, 2) := by decide +kernel
theorem dX2_targetOf_21 : decode cX2_targetOf 21 = .ok (.istore 4, 2) := by decide +kernel
theorem dX2_targetOf_23 : decode cX2_targetOf 23 = .ok (.iconst 0, 1) := by decide +kernel
theorem dX2_targetOf_24 : decode cX2_targetOf 24 = .ok (.istore 5, 2) := by decide +kernel
theorem dX2_targetOf_26 : decode cX2_targetOf 26 = .ok (.iload 5, 2) := by decide +kernel
theorem dX2_targetOf_28 : decode cX2_targetOf 28 = .ok (.aload_n 0, 1) := by decide +kernel
theorem dX2_targetOf_29 : decode cX2_targetOf 29 = .ok (.getfield 39, 3) := by decide +kernel
theorem dX2_targetOf_32 : decode cX2_targetOf 32 = .ok (.if_icmp .ge 60, 3) := by decide +kernel
theorem dX2_targetOf_35 : decode cX2_targetOf 35 = .ok (.aload_n 0, 1) := by decide +kernel
theorem dX2_targetOf_36 : decode cX2_targetOf 36 = .ok (.iload 5, 2) := by decide +kernel
theorem dX2_targetOf_38 : decode cX2_targetOf 38 = .ok (.iconst 1, 1) := by decide +kernel
theorem dX2_targetOf_39 : decode cX2_targetOf 39 = .ok (.invokevirtual 86, 3) := by decide +kernel
theorem dX2_targetOf_42 : decode cX2_targetOf 42 = .ok (.istore 6, 2) := by decide +kernel
theorem dX2_targetOf_44 : decode cX2_targetOf 44 = .ok (.aload_n 0, 1) := by decide +kernel
theorem dX2_targetOf_45 : decode cX2_targetOf 45 = .ok (.iload_n 1, 1) := by decide +kernel
theorem dX2_targetOf_46 : decode cX2_targetOf 46 = .ok (.iload 5, 2) := by decide +kernel
theorem dX2_targetOf_48 : decode cX2_targetOf 48 = .ok (.invokevirtual 120, 3) := by decide +kernel
theorem dX2_targetOf_51 : decode cX2_targetOf 51 = .ok (.ifCond .eq 35, 3) := by decide +kernel
theorem dX2_targetOf_54 : decode cX2_targetOf 54 = .ok (.iload_n 2, 1) := by decide +kernel
theorem dX2_targetOf_55 : decode cX2_targetOf 55 = .ok (.iload 6, 2) := by decide +kernel
theorem dX2_targetOf_57 : decode cX2_targetOf 57 = .ok (.invokestatic 73, 3) := by decide +kernel
theorem dX2_targetOf_60 : decode cX2_targetOf 60 = .ok (.iload 4, 2) := by decide +kernel
theorem dX2_targetOf_62 : decode cX2_targetOf 62 = .ok (.if_icmp .ge 24, 3) := by decide +kernel
theorem dX2_targetOf_65 : decode cX2_targetOf 65 = .ok (.aload_n 0, 1) := by decide +kernel
theorem dX2_targetOf_66 : decode cX2_targetOf 66 = .ok (.iload_n 2, 1) := by decide +kernel
theorem dX2_targetOf_67 : decode cX2_targetOf 67 = .ok (.iload 6, 2) := by decide +kernel
theorem dX2_targetOf_69 : decode cX2_targetOf 69 = .ok (.invokevirtual 89, 3) := by decide +kernel
theorem dX2_targetOf_72 : decode cX2_targetOf 72 = .ok (.ifCond .eq 14, 3) := by decide +kernel
theorem dX2_targetOf_75 : decode cX2_targetOf 75 = .ok (.iload 5, 2) := by decide +kernel
theorem dX2_targetOf_77 : decode cX2_targetOf 77 = .ok (.istore_n 3, 1) := by decide +kernel
theorem dX2_targetOf_78 : decode cX2_targetOf 78 = .ok (.iload_n 2, 1) := by decide +kernel
theorem dX2_targetOf_79 : decode cX2_targetOf 79 = .ok (.iload 6, 2) := by decide +kernel
theorem dX2_targetOf_81 : decode cX2_targetOf 81 = .ok (.invokestatic 73, 3) := by decide +kernel
theorem dX2_targetOf_84 : decode cX2_targetOf 84 = .ok (.istore 4, 2) := by decide +kernel
theorem dX2_targetOf_86 : decode cX2_targetOf 86 = .ok (.iinc 5 1, 3) := by decide +kernel
theorem dX2_targetOf_89 : decode cX2_targetOf 89 = .ok (.goto (-63), 3) := by decide +kernel
theorem dX2_targetOf_92 : decode cX2_targetOf 92 = .ok (.iload_n 3, 1) := by decide +kernel
theorem dX2_targetOf_93 : decode cX2_targetOf 93 = .ok (.ireturn, 1) := by decide +kernel
set_option maxRecDepth 20000 in
theorem ggX2_firstFoe_X2_isFoe : GoodIn wsX2_firstFoe wsX2_isFoe := goodIn_r _ [6, 7, 8, 9, 5, 10, 11, 12, 13, 14, 15, 16, 17, 18, 19] (by decide +kernel) (by decide +kernel)
set_option maxRecDepth 20000 in
theorem gX2_firstFoe_X2_isFoe : GoodIn wsX2_firstFoe (wsV RX2 120 RX2 yX2_isFoe wsX2_isFoe) := goodIn_app (goodIn_of _ (by decide +kernel)) ggX2_firstFoe_X2_isFoe
theorem dX2_firstFoe_0 : decode cX2_firstFoe 0 = .ok (.iconst 0, 1) := by decide +kernel
theorem dX2_firstFoe_1 : decode cX2_firstFoe 1 = .ok (.istore_n 2, 1) := by decide +kernel
theorem dX2_firstFoe_2 : decode cX2_firstFoe 2 = .ok (.iload_n 2, 1) := by decide +kernel
theorem dX2_firstFoe_3 : decode cX2_firstFoe 3 = .ok (.aload_n 0, 1) := by decide +kernel
theorem dX2_firstFoe_4 : decode cX2_firstFoe 4 = .ok (.getfield 39, 3) := by decide +kernel
theorem dX2_firstFoe_7 : decode cX2_firstFoe 7 = .ok (.if_icmp .ge 20, 3) := by decide +kernel
theorem dX2_firstFoe_10 : decode cX2_firstFoe 10 = .ok (.aload_n 0, 1) := by decide +kernel
theorem dX2_firstFoe_11 : decode cX2_firstFoe 11 = .ok (.iload_n 1, 1) := by decide +kernel
theorem dX2_firstFoe_12 : decode cX2_firstFoe 12 = .ok (.iload_n 2, 1) := by decide +kernel
theorem dX2_firstFoe_13 : decode cX2_firstFoe 13 = .ok (.invokevirtual 120, 3) := by decide +kernel
theorem dX2_firstFoe_16 : decode cX2_firstFoe 16 = .ok (.ifCond .eq 5, 3) := by decide +kernel
theorem dX2_firstFoe_19 : decode cX2_firstFoe 19 = .ok (.iload_n 2, 1) := by decide +kernel
theorem dX2_firstFoe_20 : decode cX2_firstFoe 20 = .ok (.ireturn, 1) := by decide +kernel
theorem dX2_firstFoe_21 : decode cX2_firstFoe 21 = .ok (.iinc 2 1, 3) := by decide +kernel
theorem dX2_firstFoe_24 : decode cX2_firstFoe 24 = .ok (.goto (-22), 3) := by decide +kernel
theorem dX2_firstFoe_27 : decode cX2_firstFoe 27 = .ok (.iconst (-1), 1) := by decide +kernel
theorem dX2_firstFoe_28 : decode cX2_firstFoe 28 = .ok (.ireturn, 1) := by decide +kernel
set_option maxRecDepth 20000 in
theorem ggX2_hasFoeBeside_X2_trait : GoodIn wsX2_hasFoeBeside wsX2_trait := goodIn_r _ [5, 6, 16, 17, 18, 19, 20, 21, 22, 23] (by decide +kernel) (by decide +kernel)
set_option maxRecDepth 20000 in
theorem gX2_hasFoeBeside_X2_trait : GoodIn wsX2_hasFoeBeside (wsV RX2 86 RX2 yX2_trait wsX2_trait) := goodIn_app (goodIn_of _ (by decide +kernel)) ggX2_hasFoeBeside_X2_trait
set_option maxRecDepth 20000 in
theorem ggX2_hasFoeBeside_X2_whoIsOn : GoodIn wsX2_hasFoeBeside wsX2_whoIsOn := goodIn_r _ [10, 11, 1, 2, 3, 4, 5, 6, 16, 17, 18, 19, 20, 21, 22, 23] (by decide +kernel) (by decide +kernel)
set_option maxRecDepth 20000 in
theorem gX2_hasFoeBeside_X2_whoIsOn : GoodIn wsX2_hasFoeBeside (wsV RX2 126 RX2 yX2_whoIsOn wsX2_whoIsOn) := goodIn_app (goodIn_of _ (by decide +kernel)) ggX2_hasFoeBeside_X2_whoIsOn
set_option maxRecDepth 20000 in
theorem ggX2_hasFoeBeside_X2_isFoe : GoodIn wsX2_hasFoeBeside wsX2_isFoe := goodIn_r _ [15, 1, 2, 3, 4, 5, 6, 16, 17, 18, 19, 20, 21, 22, 23] (by decide +kernel) (by decide +kernel)
set_option maxRecDepth 20000 in
theorem gX2_hasFoeBeside_X2_isFoe : GoodIn wsX2_hasFoeBeside (wsV RX2 120 RX2 yX2_isFoe wsX2_isFoe) := goodIn_app (goodIn_of _ (by decide +kernel)) ggX2_hasFoeBeside_X2_isFoe
theorem dX2_hasFoeBeside_0 : decode cX2_hasFoeBeside 0 = .ok (.iconst 0, 1) := by decide +kernel
theorem dX2_hasFoeBeside_1 : decode cX2_hasFoeBeside 1 = .ok (.istore_n 2, 1) := by decide +kernel
theorem dX2_hasFoeBeside_2 : decode cX2_hasFoeBeside 2 = .ok (.iload_n 2, 1) := by decide +kernel
theorem dX2_hasFoeBeside_3 : decode cX2_hasFoeBeside 3 = .ok (.getstatic 123, 3) := by decide +kernel
theorem dX2_hasFoeBeside_6 : decode cX2_hasFoeBeside 6 = .ok (.arraylength, 1) := by decide +kernel
theorem dX2_hasFoeBeside_7 : decode cX2_hasFoeBeside 7 = .ok (.if_icmp .ge 35, 3) := by decide +kernel
theorem dX2_hasFoeBeside_10 : decode cX2_hasFoeBeside 10 = .ok (.aload_n 0, 1) := by decide +kernel
theorem dX2_hasFoeBeside_11 : decode cX2_hasFoeBeside 11 = .ok (.iload_n 1, 1) := by decide +kernel
theorem dX2_hasFoeBeside_12 : decode cX2_hasFoeBeside 12 = .ok (.aload_n 0, 1) := by decide +kernel
theorem dX2_hasFoeBeside_13 : decode cX2_hasFoeBeside 13 = .ok (.aload_n 0, 1) := by decide +kernel
theorem dX2_hasFoeBeside_14 : decode cX2_hasFoeBeside 14 = .ok (.iload_n 1, 1) := by decide +kernel
theorem dX2_hasFoeBeside_15 : decode cX2_hasFoeBeside 15 = .ok (.iconst 1, 1) := by decide +kernel
theorem dX2_hasFoeBeside_16 : decode cX2_hasFoeBeside 16 = .ok (.invokevirtual 86, 3) := by decide +kernel
theorem dX2_hasFoeBeside_19 : decode cX2_hasFoeBeside 19 = .ok (.getstatic 123, 3) := by decide +kernel
theorem dX2_hasFoeBeside_22 : decode cX2_hasFoeBeside 22 = .ok (.iload_n 2, 1) := by decide +kernel
theorem dX2_hasFoeBeside_23 : decode cX2_hasFoeBeside 23 = .ok (.iaload, 1) := by decide +kernel
theorem dX2_hasFoeBeside_24 : decode cX2_hasFoeBeside 24 = .ok (.iadd, 1) := by decide +kernel
theorem dX2_hasFoeBeside_25 : decode cX2_hasFoeBeside 25 = .ok (.invokevirtual 126, 3) := by decide +kernel
theorem dX2_hasFoeBeside_28 : decode cX2_hasFoeBeside 28 = .ok (.invokevirtual 120, 3) := by decide +kernel
theorem dX2_hasFoeBeside_31 : decode cX2_hasFoeBeside 31 = .ok (.ifCond .eq 5, 3) := by decide +kernel
theorem dX2_hasFoeBeside_34 : decode cX2_hasFoeBeside 34 = .ok (.iconst 1, 1) := by decide +kernel
theorem dX2_hasFoeBeside_35 : decode cX2_hasFoeBeside 35 = .ok (.ireturn, 1) := by decide +kernel
theorem dX2_hasFoeBeside_36 : decode cX2_hasFoeBeside 36 = .ok (.iinc 2 1, 3) := by decide +kernel
theorem dX2_hasFoeBeside_39 : decode cX2_hasFoeBeside 39 = .ok (.goto (-37), 3) := by decide +kernel
theorem dX2_hasFoeBeside_42 : decode cX2_hasFoeBeside 42 = .ok (.iconst 0, 1) := by decide +kernel
theorem dX2_hasFoeBeside_43 : decode cX2_hasFoeBeside 43 = .ok (.ireturn, 1) := by decide +kernel
set_option maxRecDepth 20000 in
theorem ggX2_watchersOf_X2_isAlive : GoodIn wsX2_watchersOf wsX2_isAlive := goodIn_r _ [6, 7, 8, 9, 5, 10, 11, 41, 42, 43, 44, 45, 46, 47, 48] (by decide +kernel) (by decide +kernel)
set_option maxRecDepth 20000 in
theorem gX2_watchersOf_X2_isAlive : GoodIn wsX2_watchersOf (wsV RX2 117 RX2 yX2_isAlive wsX2_isAlive) := goodIn_app (goodIn_of _ (by decide +kernel)) ggX2_watchersOf_X2_isAlive
set_option maxRecDepth 20000 in
theorem ggX2_watchersOf_X2_trait : GoodIn wsX2_watchersOf wsX2_trait := goodIn_r _ [10, 11, 41, 42, 43, 44, 45, 46, 47, 48] (by decide +kernel) (by decide +kernel)
set_option maxRecDepth 20000 in
theorem gX2_watchersOf_X2_trait : GoodIn wsX2_watchersOf (wsV RX2 86 RX2 yX2_trait wsX2_trait) := goodIn_app (goodIn_of _ (by decide +kernel)) ggX2_watchersOf_X2_trait
set_option maxRecDepth 20000 in
theorem ggX2_watchersOf_X2_isSeenFrom : GoodIn wsX2_watchersOf wsX2_isSeenFrom := goodIn_r _ [15, 16, 17, 5, 18, 19, 20, 21, 22, 23, 24, 25, 26, 27, 28, 29, 30, 31, 32, 33, 34, 35, 36, 37, 38, 39, 40, 41, 42, 43, 44, 45, 46, 47, 48] (by decide +kernel) (by decide +kernel)
set_option maxRecDepth 20000 in
theorem gX2_watchersOf_X2_isSeenFrom : GoodIn wsX2_watchersOf (wsV RX2 89 RX2 yX2_isSeenFrom wsX2_isSeenFrom) := goodIn_app (goodIn_of _ (by decide +kernel)) ggX2_watchersOf_X2_isSeenFrom
theorem dX2_watchersOf_0 : decode cX2_watchersOf 0 = .ok (.iconst 0, 1) := by decide +kernel
theorem dX2_watchersOf_1 : decode cX2_watchersOf 1 = .ok (.istore_n 3, 1) := by decide +kernel
theorem dX2_watchersOf_2 : decode cX2_watchersOf 2 = .ok (.iconst 0, 1) := by decide +kernel
theorem dX2_watchersOf_3 : decode cX2_watchersOf 3 = .ok (.istore 4, 2) := by decide +kernel
theorem dX2_watchersOf_5 : decode cX2_watchersOf 5 = .ok (.iload 4, 2) := by decide +kernel
theorem dX2_watchersOf_7 : decode cX2_watchersOf 7 = .ok (.aload_n 0, 1) := by decide +kernel
theorem dX2_watchersOf_8 : decode cX2_watchersOf 8 = .ok (.getfield 39, 3) := by decide +kernel
theorem dX2_watchersOf_11 : decode cX2_watchersOf 11 = .ok (.if_icmp .ge 47, 3) := by decide +kernel
theorem dX2_watchersOf_14 : decode cX2_watchersOf 14 = .ok (.aload_n 0, 1) := by decide +kernel
theorem dX2_watchersOf_15 : decode cX2_watchersOf 15 = .ok (.iload 4, 2) := by decide +kernel
theorem dX2_watchersOf_17 : decode cX2_watchersOf 17 = .ok (.invokevirtual 117, 3) := by decide +kernel
theorem dX2_watchersOf_20 : decode cX2_watchersOf 20 = .ok (.ifCond .eq 32, 3) := by decide +kernel
theorem dX2_watchersOf_23 : decode cX2_watchersOf 23 = .ok (.aload_n 0, 1) := by decide +kernel
theorem dX2_watchersOf_24 : decode cX2_watchersOf 24 = .ok (.iload 4, 2) := by decide +kernel
theorem dX2_watchersOf_26 : decode cX2_watchersOf 26 = .ok (.iconst 0, 1) := by decide +kernel
theorem dX2_watchersOf_27 : decode cX2_watchersOf 27 = .ok (.invokevirtual 86, 3) := by decide +kernel
theorem dX2_watchersOf_30 : decode cX2_watchersOf 30 = .ok (.iload_n 1, 1) := by decide +kernel
theorem dX2_watchersOf_31 : decode cX2_watchersOf 31 = .ok (.if_icmp .eq 21, 3) := by decide +kernel
theorem dX2_watchersOf_34 : decode cX2_watchersOf 34 = .ok (.aload_n 0, 1) := by decide +kernel
theorem dX2_watchersOf_35 : decode cX2_watchersOf 35 = .ok (.aload_n 0, 1) := by decide +kernel
theorem dX2_watchersOf_36 : decode cX2_watchersOf 36 = .ok (.iload 4, 2) := by decide +kernel
theorem dX2_watchersOf_38 : decode cX2_watchersOf 38 = .ok (.iconst 1, 1) := by decide +kernel
theorem dX2_watchersOf_39 : decode cX2_watchersOf 39 = .ok (.invokevirtual 86, 3) := by decide +kernel
theorem dX2_watchersOf_42 : decode cX2_watchersOf 42 = .ok (.iload_n 2, 1) := by decide +kernel
theorem dX2_watchersOf_43 : decode cX2_watchersOf 43 = .ok (.invokevirtual 89, 3) := by decide +kernel
theorem dX2_watchersOf_46 : decode cX2_watchersOf 46 = .ok (.ifCond .eq 6, 3) := by decide +kernel
theorem dX2_watchersOf_49 : decode cX2_watchersOf 49 = .ok (.iinc 3 1, 3) := by decide +kernel
theorem dX2_watchersOf_52 : decode cX2_watchersOf 52 = .ok (.iinc 4 1, 3) := by decide +kernel
theorem dX2_watchersOf_55 : decode cX2_watchersOf 55 = .ok (.goto (-50), 3) := by decide +kernel
theorem dX2_watchersOf_58 : decode cX2_watchersOf 58 = .ok (.iload_n 3, 1) := by decide +kernel
theorem dX2_watchersOf_59 : decode cX2_watchersOf 59 = .ok (.ireturn, 1) := by decide +kernel
set_option maxRecDepth 20000 in
theorem ggX2_hitOf_X2_isAlive : GoodIn wsX2_hitOf wsX2_isAlive := goodIn_r _ [9, 10, 11, 12, 8, 13, 14, 20, 21, 22, 23, 24, 25, 26, 27] (by decide +kernel) (by decide +kernel)
set_option maxRecDepth 20000 in
theorem gX2_hitOf_X2_isAlive : GoodIn wsX2_hitOf (wsV RX2 117 RX2 yX2_isAlive wsX2_isAlive) := goodIn_app (goodIn_of _ (by decide +kernel)) ggX2_hitOf_X2_isAlive
set_option maxRecDepth 20000 in
theorem ggX2_hitOf_X2_trait : GoodIn wsX2_hitOf wsX2_trait := goodIn_r _ [13, 14, 20, 21, 22, 23, 24, 25, 26, 27] (by decide +kernel) (by decide +kernel)
set_option maxRecDepth 20000 in
theorem gX2_hitOf_X2_trait : GoodIn wsX2_hitOf (wsV RX2 86 RX2 yX2_trait wsX2_trait) := goodIn_app (goodIn_of _ (by decide +kernel)) ggX2_hitOf_X2_trait
set_option maxRecDepth 20000 in
theorem ggX2_hitOf_X2_stackOf : GoodIn wsX2_hitOf wsX2_stackOf := goodIn_r _ [18, 19, 20, 21, 22, 23, 24, 25, 26, 27] (by decide +kernel) (by decide +kernel)
set_option maxRecDepth 20000 in
theorem gX2_hitOf_X2_stackOf : GoodIn wsX2_hitOf (wsV RX2 92 RX2 yX2_stackOf wsX2_stackOf) := goodIn_app (goodIn_of _ (by decide +kernel)) ggX2_hitOf_X2_stackOf
theorem dX2_hitOf_0 : decode cX2_hitOf 0 = .ok (.aload_n 0, 1) := by decide +kernel
theorem dX2_hitOf_1 : decode cX2_hitOf 1 = .ok (.iload_n 1, 1) := by decide +kernel
theorem dX2_hitOf_2 : decode cX2_hitOf 2 = .ok (.invokevirtual 117, 3) := by decide +kernel
theorem dX2_hitOf_5 : decode cX2_hitOf 5 = .ok (.ifCond .eq 11, 3) := by decide +kernel
theorem dX2_hitOf_8 : decode cX2_hitOf 8 = .ok (.aload_n 0, 1) := by decide +kernel
theorem dX2_hitOf_9 : decode cX2_hitOf 9 = .ok (.iload_n 2, 1) := by decide +kernel
theorem dX2_hitOf_10 : decode cX2_hitOf 10 = .ok (.invokevirtual 117, 3) := by decide +kernel
theorem dX2_hitOf_13 : decode cX2_hitOf 13 = .ok (.ifCond .ne 5, 3) := by decide +kernel
theorem dX2_hitOf_16 : decode cX2_hitOf 16 = .ok (.iconst 0, 1) := by decide +kernel
theorem dX2_hitOf_17 : decode cX2_hitOf 17 = .ok (.ireturn, 1) := by decide +kernel
theorem dX2_hitOf_18 : decode cX2_hitOf 18 = .ok (.aload_n 0, 1) := by decide +kernel
theorem dX2_hitOf_19 : decode cX2_hitOf 19 = .ok (.iload_n 1, 1) := by decide +kernel
theorem dX2_hitOf_20 : decode cX2_hitOf 20 = .ok (.iconst 4, 1) := by decide +kernel
theorem dX2_hitOf_21 : decode cX2_hitOf 21 = .ok (.invokevirtual 86, 3) := by decide +kernel
theorem dX2_hitOf_24 : decode cX2_hitOf 24 = .ok (.aload_n 0, 1) := by decide +kernel
theorem dX2_hitOf_25 : decode cX2_hitOf 25 = .ok (.iload_n 1, 1) := by decide +kernel
theorem dX2_hitOf_26 : decode cX2_hitOf 26 = .ok (.iconst 2, 1) := by decide +kernel
theorem dX2_hitOf_27 : decode cX2_hitOf 27 = .ok (.invokevirtual 92, 3) := by decide +kernel
theorem dX2_hitOf_30 : decode cX2_hitOf 30 = .ok (.iadd, 1) := by decide +kernel
theorem dX2_hitOf_31 : decode cX2_hitOf 31 = .ok (.istore_n 3, 1) := by decide +kernel
theorem dX2_hitOf_32 : decode cX2_hitOf 32 = .ok (.aload_n 0, 1) := by decide +kernel
theorem dX2_hitOf_33 : decode cX2_hitOf 33 = .ok (.iload_n 2, 1) := by decide +kernel
theorem dX2_hitOf_34 : decode cX2_hitOf 34 = .ok (.iconst 5, 1) := by decide +kernel
theorem dX2_hitOf_35 : decode cX2_hitOf 35 = .ok (.invokevirtual 86, 3) := by decide +kernel
theorem dX2_hitOf_38 : decode cX2_hitOf 38 = .ok (.aload_n 0, 1) := by decide +kernel
theorem dX2_hitOf_39 : decode cX2_hitOf 39 = .ok (.iload_n 2, 1) := by decide +kernel
theorem dX2_hitOf_40 : decode cX2_hitOf 40 = .ok (.iconst 3, 1) := by decide +kernel
theorem dX2_hitOf_41 : decode cX2_hitOf 41 = .ok (.invokevirtual 92, 3) := by decide +kernel
theorem dX2_hitOf_44 : decode cX2_hitOf 44 = .ok (.iadd, 1) := by decide +kernel
theorem dX2_hitOf_45 : decode cX2_hitOf 45 = .ok (.istore 4, 2) := by decide +kernel
theorem dX2_hitOf_47 : decode cX2_hitOf 47 = .ok (.iload_n 3, 1) := by decide +kernel
theorem dX2_hitOf_48 : decode cX2_hitOf 48 = .ok (.iload 4, 2) := by decide +kernel
theorem dX2_hitOf_50 : decode cX2_hitOf 50 = .ok (.isub, 1) := by decide +kernel
theorem dX2_hitOf_51 : decode cX2_hitOf 51 = .ok (.iconst 1, 1) := by decide +kernel
theorem dX2_hitOf_52 : decode cX2_hitOf 52 = .ok (.invokestatic 66, 3) := by decide +kernel
theorem dX2_hitOf_55 : decode cX2_hitOf 55 = .ok (.ireturn, 1) := by decide +kernel
set_option maxRecDepth 20000 in
theorem ggX2_takeLife_X2_trait : GoodIn wsX2_takeLife wsX2_trait := goodIn_r _ [9, 10, 15, 16, 17, 18, 19, 20, 21, 22] (by decide +kernel) (by decide +kernel)
set_option maxRecDepth 20000 in
theorem gX2_takeLife_X2_trait : GoodIn wsX2_takeLife (wsV RX2 86 RX2 yX2_trait wsX2_trait) := goodIn_app (goodIn_of _ (by decide +kernel)) ggX2_takeLife_X2_trait
set_option maxRecDepth 20000 in
theorem ggX2_takeLife_X2_putTrait : GoodIn wsX2_takeLife wsX2_putTrait := goodIn_r _ [14, 10, 15, 16, 17, 18, 19, 20, 21, 22] (by decide +kernel) (by decide +kernel)
set_option maxRecDepth 20000 in
theorem gX2_takeLife_X2_putTrait : GoodIn wsX2_takeLife (wsV RX2 109 RX2 yX2_putTrait wsX2_putTrait) := goodIn_app (goodIn_of _ (by decide +kernel)) ggX2_takeLife_X2_putTrait
theorem dX2_takeLife_0 : decode cX2_takeLife 0 = .ok (.aload_n 0, 1) := by decide +kernel
theorem dX2_takeLife_1 : decode cX2_takeLife 1 = .ok (.iload_n 1, 1) := by decide +kernel
theorem dX2_takeLife_2 : decode cX2_takeLife 2 = .ok (.iconst 2, 1) := by decide +kernel
theorem dX2_takeLife_3 : decode cX2_takeLife 3 = .ok (.invokevirtual 86, 3) := by decide +kernel
theorem dX2_takeLife_6 : decode cX2_takeLife 6 = .ok (.istore_n 3, 1) := by decide +kernel
theorem dX2_takeLife_7 : decode cX2_takeLife 7 = .ok (.iload_n 2, 1) := by decide +kernel
theorem dX2_takeLife_8 : decode cX2_takeLife 8 = .ok (.iload_n 3, 1) := by decide +kernel
theorem dX2_takeLife_9 : decode cX2_takeLife 9 = .ok (.invokestatic 95, 3) := by decide +kernel
theorem dX2_takeLife_12 : decode cX2_takeLife 12 = .ok (.istore 4, 2) := by decide +kernel
theorem dX2_takeLife_14 : decode cX2_takeLife 14 = .ok (.aload_n 0, 1) := by decide +kernel
theorem dX2_takeLife_15 : decode cX2_takeLife 15 = .ok (.iload_n 1, 1) := by decide +kernel
theorem dX2_takeLife_16 : decode cX2_takeLife 16 = .ok (.iconst 2, 1) := by decide +kernel
theorem dX2_takeLife_17 : decode cX2_takeLife 17 = .ok (.iload_n 3, 1) := by decide +kernel
theorem dX2_takeLife_18 : decode cX2_takeLife 18 = .ok (.iload 4, 2) := by decide +kernel
theorem dX2_takeLife_20 : decode cX2_takeLife 20 = .ok (.isub, 1) := by decide +kernel
theorem dX2_takeLife_21 : decode cX2_takeLife 21 = .ok (.invokevirtual 109, 3) := by decide +kernel
theorem dX2_takeLife_24 : decode cX2_takeLife 24 = .ok (.iload_n 3, 1) := by decide +kernel
theorem dX2_takeLife_25 : decode cX2_takeLife 25 = .ok (.iload 4, 2) := by decide +kernel
theorem dX2_takeLife_27 : decode cX2_takeLife 27 = .ok (.isub, 1) := by decide +kernel
theorem dX2_takeLife_28 : decode cX2_takeLife 28 = .ok (.ifCond .ne 10, 3) := by decide +kernel
theorem dX2_takeLife_31 : decode cX2_takeLife 31 = .ok (.aload_n 0, 1) := by decide +kernel
theorem dX2_takeLife_32 : decode cX2_takeLife 32 = .ok (.iload_n 1, 1) := by decide +kernel
theorem dX2_takeLife_33 : decode cX2_takeLife 33 = .ok (.iconst 1, 1) := by decide +kernel
theorem dX2_takeLife_34 : decode cX2_takeLife 34 = .ok (.iconst (-1), 1) := by decide +kernel
theorem dX2_takeLife_35 : decode cX2_takeLife 35 = .ok (.invokevirtual 109, 3) := by decide +kernel
theorem dX2_takeLife_38 : decode cX2_takeLife 38 = .ok (.iload 4, 2) := by decide +kernel
theorem dX2_takeLife_40 : decode cX2_takeLife 40 = .ok (.ireturn, 1) := by decide +kernel
theorem dX4_isWithin_0 : decode cX4_isWithin 0 = .ok (.iload_n 0, 1) := by decide +kernel
theorem dX4_isWithin_1 : decode cX4_isWithin 1 = .ok (.iload_n 1, 1) := by decide +kernel
theorem dX4_isWithin_2 : decode cX4_isWithin 2 = .ok (.if_icmp .lt 12, 3) := by decide +kernel
theorem dX4_isWithin_5 : decode cX4_isWithin 5 = .ok (.iload_n 0, 1) := by decide +kernel
theorem dX4_isWithin_6 : decode cX4_isWithin 6 = .ok (.iload_n 2, 1) := by decide +kernel
theorem dX4_isWithin_7 : decode cX4_isWithin 7 = .ok (.if_icmp .gt 7, 3) := by decide +kernel
theorem dX4_isWithin_10 : decode cX4_isWithin 10 = .ok (.iconst 1, 1) := by decide +kernel
theorem dX4_isWithin_11 : decode cX4_isWithin 11 = .ok (.goto 4, 3) := by decide +kernel
theorem dX4_isWithin_14 : decode cX4_isWithin 14 = .ok (.iconst 0, 1) := by decide +kernel
theorem dX4_isWithin_15 : decode cX4_isWithin 15 = .ok (.ireturn, 1) := by decide +kernel
theorem dX4_isCell_0 : decode cX4_isCell 0 = .ok (.iload_n 0, 1) := by decide +kernel
theorem dX4_isCell_1 : decode cX4_isCell 1 = .ok (.ifCond .lt 14, 3) := by decide +kernel
theorem dX4_isCell_4 : decode cX4_isCell 4 = .ok (.iload_n 0, 1) := by decide +kernel
theorem dX4_isCell_5 : decode cX4_isCell 5 = .ok (.sipush 160, 3) := by decide +kernel
theorem dX4_isCell_8 : decode cX4_isCell 8 = .ok (.if_icmp .ge 7, 3) := by decide +kernel
theorem dX4_isCell_11 : decode cX4_isCell 11 = .ok (.iconst 1, 1) := by decide +kernel
theorem dX4_isCell_12 : decode cX4_isCell 12 = .ok (.goto 4, 3) := by decide +kernel
theorem dX4_isCell_15 : decode cX4_isCell 15 = .ok (.iconst 0, 1) := by decide +kernel
theorem dX4_isCell_16 : decode cX4_isCell 16 = .ok (.ireturn, 1) := by decide +kernel
theorem dX4_isSide_0 : decode cX4_isSide 0 = .ok (.iload_n 0, 1) := by decide +kernel
theorem dX4_isSide_1 : decode cX4_isSide 1 = .ok (.ifCond .eq 8, 3) := by decide +kernel
theorem dX4_isSide_4 : decode cX4_isSide 4 = .ok (.iload_n 0, 1) := by decide +kernel
theorem dX4_isSide_5 : decode cX4_isSide 5 = .ok (.iconst 1, 1) := by decide +kernel
theorem dX4_isSide_6 : decode cX4_isSide 6 = .ok (.if_icmp .ne 7, 3) := by decide +kernel
theorem dX4_isSide_9 : decode cX4_isSide 9 = .ok (.iconst 1, 1) := by decide +kernel
theorem dX4_isSide_10 : decode cX4_isSide 10 = .ok (.goto 4, 3) := by decide +kernel
theorem dX4_isSide_13 : decode cX4_isSide 13 = .ok (.iconst 0, 1) := by decide +kernel
theorem dX4_isSide_14 : decode cX4_isSide 14 = .ok (.ireturn, 1) := by decide +kernel
theorem dX4_isEdge_0 : decode cX4_isEdge 0 = .ok (.iload_n 0, 1) := by decide +kernel
theorem dX4_isEdge_1 : decode cX4_isEdge 1 = .ok (.bipush 16, 2) := by decide +kernel
theorem dX4_isEdge_3 : decode cX4_isEdge 3 = .ok (.irem, 1) := by decide +kernel
theorem dX4_isEdge_4 : decode cX4_isEdge 4 = .ok (.istore_n 1, 1) := by decide +kernel
theorem dX4_isEdge_5 : decode cX4_isEdge 5 = .ok (.iload_n 0, 1) := by decide +kernel
theorem dX4_isEdge_6 : decode cX4_isEdge 6 = .ok (.bipush 16, 2) := by decide +kernel
theorem dX4_isEdge_8 : decode cX4_isEdge 8 = .ok (.idiv, 1) := by decide +kernel
theorem dX4_isEdge_9 : decode cX4_isEdge 9 = .ok (.istore_n 2, 1) := by decide +kernel
theorem dX4_isEdge_10 : decode cX4_isEdge 10 = .ok (.iload_n 1, 1) := by decide +kernel
theorem dX4_isEdge_11 : decode cX4_isEdge 11 = .ok (.ifCond .eq 19, 3) := by decide +kernel
theorem dX4_isEdge_14 : decode cX4_isEdge 14 = .ok (.iload_n 1, 1) := by decide +kernel
theorem dX4_isEdge_15 : decode cX4_isEdge 15 = .ok (.bipush 15, 2) := by decide +kernel
theorem dX4_isEdge_17 : decode cX4_isEdge 17 = .ok (.if_icmp .eq 13, 3) := by decide +kernel
theorem dX4_isEdge_20 : decode cX4_isEdge 20 = .ok (.iload_n 2, 1) := by decide +kernel
theorem dX4_isEdge_21 : decode cX4_isEdge 21 = .ok (.ifCond .eq 9, 3) := by decide +kernel
theorem dX4_isEdge_24 : decode cX4_isEdge 24 = .ok (.iload_n 2, 1) := by decide +kernel
theorem dX4_isEdge_25 : decode cX4_isEdge 25 = .ok (.bipush 9, 2) := by decide +kernel
theorem dX4_isEdge_27 : decode cX4_isEdge 27 = .ok (.if_icmp .ne 7, 3) := by decide +kernel
theorem dX4_isEdge_30 : decode cX4_isEdge 30 = .ok (.iconst 1, 1) := by decide +kernel
theorem dX4_isEdge_31 : decode cX4_isEdge 31 = .ok (.goto 4, 3) := by decide +kernel
theorem dX4_isEdge_34 : decode cX4_isEdge 34 = .ok (.iconst 0, 1) := by decide +kernel
theorem dX4_isEdge_35 : decode cX4_isEdge 35 = .ok (.ireturn, 1) := by decide +kernel
theorem dX4_stopsSight_0 : decode cX4_stopsSight 0 = .ok (.iload_n 0, 1) := by decide +kernel
theorem dX4_stopsSight_1 : decode cX4_stopsSight 1 = .ok (.iconst 1, 1) := by decide +kernel
theorem dX4_stopsSight_2 : decode cX4_stopsSight 2 = .ok (.if_icmp .eq 8, 3) := by decide +kernel
theorem dX4_stopsSight_5 : decode cX4_stopsSight 5 = .ok (.iload_n 0, 1) := by decide +kernel
theorem dX4_stopsSight_6 : decode cX4_stopsSight 6 = .ok (.iconst 2, 1) := by decide +kernel
theorem dX4_stopsSight_7 : decode cX4_stopsSight 7 = .ok (.if_icmp .ne 7, 3) := by decide +kernel
theorem dX4_stopsSight_10 : decode cX4_stopsSight 10 = .ok (.iconst 1, 1) := by decide +kernel
theorem dX4_stopsSight_11 : decode cX4_stopsSight 11 = .ok (.goto 4, 3) := by decide +kernel
theorem dX4_stopsSight_14 : decode cX4_stopsSight 14 = .ok (.iconst 0, 1) := by decide +kernel
theorem dX4_stopsSight_15 : decode cX4_stopsSight 15 = .ok (.ireturn, 1) := by decide +kernel
theorem dJ9_floorDiv_7cf53_0 : decode cJ9_floorDiv_7cf53 0 = .ok (.iload_n 0, 1) := by decide +kernel
theorem dJ9_floorDiv_7cf53_1 : decode cJ9_floorDiv_7cf53 1 = .ok (.iload_n 1, 1) := by decide +kernel
theorem dJ9_floorDiv_7cf53_2 : decode cJ9_floorDiv_7cf53 2 = .ok (.idiv, 1) := by decide +kernel
theorem dJ9_floorDiv_7cf53_3 : decode cJ9_floorDiv_7cf53 3 = .ok (.istore_n 2, 1) := by decide +kernel
theorem dJ9_floorDiv_7cf53_4 : decode cJ9_floorDiv_7cf53 4 = .ok (.iload_n 0, 1) := by decide +kernel
theorem dJ9_floorDiv_7cf53_5 : decode cJ9_floorDiv_7cf53 5 = .ok (.iload_n 1, 1) := by decide +kernel
theorem dJ9_floorDiv_7cf53_6 : decode cJ9_floorDiv_7cf53 6 = .ok (.ixor, 1) := by decide +kernel
theorem dJ9_floorDiv_7cf53_7 : decode cJ9_floorDiv_7cf53 7 = .ok (.ifCond .ge 14, 3) := by decide +kernel
theorem dJ9_floorDiv_7cf53_10 : decode cJ9_floorDiv_7cf53 10 = .ok (.iload_n 2, 1) := by decide +kernel
theorem dJ9_floorDiv_7cf53_11 : decode cJ9_floorDiv_7cf53 11 = .ok (.iload_n 1, 1) := by decide +kernel
theorem dJ9_floorDiv_7cf53_12 : decode cJ9_floorDiv_7cf53 12 = .ok (.imul, 1) := by decide +kernel
theorem dJ9_floorDiv_7cf53_13 : decode cJ9_floorDiv_7cf53 13 = .ok (.iload_n 0, 1) := by decide +kernel
theorem dJ9_floorDiv_7cf53_14 : decode cJ9_floorDiv_7cf53 14 = .ok (.if_icmp .eq 7, 3) := by decide +kernel
theorem dJ9_floorDiv_7cf53_17 : decode cJ9_floorDiv_7cf53 17 = .ok (.iload_n 2, 1) := by decide +kernel
theorem dJ9_floorDiv_7cf53_18 : decode cJ9_floorDiv_7cf53 18 = .ok (.iconst 1, 1) := by decide +kernel
theorem dJ9_floorDiv_7cf53_19 : decode cJ9_floorDiv_7cf53 19 = .ok (.isub, 1) := by decide +kernel
theorem dJ9_floorDiv_7cf53_20 : decode cJ9_floorDiv_7cf53 20 = .ok (.ireturn, 1) := by decide +kernel
theorem dJ9_floorDiv_7cf53_21 : decode cJ9_floorDiv_7cf53 21 = .ok (.iload_n 2, 1) := by decide +kernel
theorem dJ9_floorDiv_7cf53_22 : decode cJ9_floorDiv_7cf53 22 = .ok (.ireturn, 1) := by decide +kernel
theorem dJ7_fill_53178_0 : decode cJ7_fill_53178 0 = .ok (.iconst 0, 1) := by decide +kernel
theorem dJ7_fill_53178_1 : decode cJ7_fill_53178 1 = .ok (.istore_n 2, 1) := by decide +kernel
theorem dJ7_fill_53178_2 : decode cJ7_fill_53178 2 = .ok (.aload_n 0, 1) := by decide +kernel
theorem dJ7_fill_53178_3 : decode cJ7_fill_53178 3 = .ok (.arraylength, 1) := by decide +kernel
theorem dJ7_fill_53178_4 : decode cJ7_fill_53178 4 = .ok (.istore_n 3, 1) := by decide +kernel
theorem dJ7_fill_53178_5 : decode cJ7_fill_53178 5 = .ok (.iload_n 2, 1) := by decide +kernel
theorem dJ7_fill_53178_6 : decode cJ7_fill_53178 6 = .ok (.iload_n 3, 1) := by decide +kernel
theorem dJ7_fill_53178_7 : decode cJ7_fill_53178 7 = .ok (.if_icmp .ge 13, 3) := by decide +kernel
theorem dJ7_fill_53178_10 : decode cJ7_fill_53178 10 = .ok (.aload_n 0, 1) := by decide +kernel
theorem dJ7_fill_53178_11 : decode cJ7_fill_53178 11 = .ok (.iload_n 2, 1) := by decide +kernel
theorem dJ7_fill_53178_12 : decode cJ7_fill_53178 12 = .ok (.iload_n 1, 1) := by decide +kernel
theorem dJ7_fill_53178_13 : decode cJ7_fill_53178 13 = .ok (.iastore, 1) := by decide +kernel
theorem dJ7_fill_53178_14 : decode cJ7_fill_53178 14 = .ok (.iinc 2 1, 3) := by decide +kernel
theorem dJ7_fill_53178_17 : decode cJ7_fill_53178 17 = .ok (.goto (-12), 3) := by decide +kernel
theorem dJ7_fill_53178_20 : decode cJ7_fill_53178 20 = .ok (.return_, 1) := by decide +kernel
end
section
-- ===== words for what a State of the class holds, and what the walks share =====
/-- a State: kinds, known, traits, stacks, turns (rows of 160, 160, 90, 50, 50), how many beings, actions, hits -/
abbrev SS : Type := (Nat → Int32) × (Nat → Int32) × (Nat → Int32) × (Nat → Int32) × (Nat → Int32) × Nat × Int32 × Int32
/-- its cells: the object at a 0, its rows at a 1 .. a 5 -/
abbrev sW (cI : ClassId) (a : Nat → Nat) (σ : SS) : va_W := [(a 0, .inr (2, [.ref (a 1), .ref (a 2), .ref (a 3), .ref (a 4), .ref (a 5), .int (nI σ.2.2.2.2.2.1), .int σ.2.2.2.2.2.2.1, .int σ.2.2.2.2.2.2.2])), (a 1, .inl (cI, 160, .inl σ.1)), (a 2, .inl (cI, 160, .inl σ.2.1)), (a 3, .inl (cI, 90, .inl σ.2.2.1)), (a 4, .inl (cI, 50, .inl σ.2.2.2.1)), (a 5, .inl (cI, 50, .inl σ.2.2.2.2.1))]
abbrev s_ki (σ : SS) : Nat → Int32 := σ.1
abbrev s_kn (σ : SS) : Nat → Int32 := σ.2.1
abbrev s_tr (σ : SS) : Nat → Int32 := σ.2.2.1
abbrev s_st (σ : SS) : Nat → Int32 := σ.2.2.2.1
abbrev s_tu (σ : SS) : Nat → Int32 := σ.2.2.2.2.1
abbrev s_n (σ : SS) : Nat := σ.2.2.2.2.2.1
abbrev s_ac (σ : SS) : Int32 := σ.2.2.2.2.2.2.1
abbrev s_hi (σ : SS) : Int32 := σ.2.2.2.2.2.2.2
/-- the links between the classes of one nest: what the tables say of them -/
def nest_1 : Cond := .methodLinkNest RX2 49 yX4_isEdge RX4
def nest_2 : Cond := .methodLinkNest RX2 79 yX4_stopsSight RX4
def nest_3 : Cond := .fieldLinkNest RX2 123 RX4 "STEPS" "[I" RX4
def nest_4 : Cond := .fieldLinkNest RX3 34 RX2 "beings" "I" RX4
def nest_5 : Cond := .fieldLinkNest RX3 65 RX4 "STEPS" "[I" RX4
def nest_6 : Cond := .fieldLinkNest RX1 43 RX4 "STEPS" "[I" RX4
def nest_7 : Cond := .fieldLinkNest RX1 66 RX2 "actions" "I" RX4
def nest_8 : Cond := .fieldLinkNest RX1 82 RX2 "hits" "I" RX4
def nest_9 : Cond := .fieldLinkNest RX4 234 RX2 "beings" "I" RX4
def nest_10 : Cond := .fieldLinkNest RX4 238 RX2 "actions" "I" RX4
def nest_11 : Cond := .fieldLinkNest RX4 241 RX2 "hits" "I" RX4
def EV (U : State) : Prop := va_Nw nest_1 U ∧ va_Nw nest_2 U ∧ va_Nw nest_3 U ∧ va_Nw nest_4 U ∧ va_Nw nest_5 U ∧ va_Nw nest_6 U ∧ va_Nw nest_7 U ∧ va_Nw nest_8 U ∧ va_Nw nest_9 U ∧ va_Nw nest_10 U ∧ va_Nw nest_11 U
theorem EV.warm {s U : State} (hW : s.WarmedH U.vm) (h : EV s) : EV U := by
  obtain ⟨h1, h2, h3, h4, h5, h6, h7, h8, h9, h10, h11⟩ := h
  exact ⟨va_Nw.warmM hW h1, va_Nw.warmM hW h2, va_Nw.warmF hW h3, va_Nw.warmF hW h4, va_Nw.warmF hW h5, va_Nw.warmF hW h6, va_Nw.warmF hW h7, va_Nw.warmF hW h8, va_Nw.warmF hW h9, va_Nw.warmF hW h10, va_Nw.warmF hW h11⟩
theorem EV.same {u U : State} (hv : u.vm = U.vm) (h : EV u) : EV U := by
  obtain ⟨h1, h2, h3, h4, h5, h6, h7, h8, h9, h10, h11⟩ := h
  exact ⟨va_Nw.same rfl hv h1, va_Nw.same rfl hv h2, va_Nw.same rfl hv h3, va_Nw.same rfl hv h4, va_Nw.same rfl hv h5, va_Nw.same rfl hv h6, va_Nw.same rfl hv h7, va_Nw.same rfl hv h8, va_Nw.same rfl hv h9, va_Nw.same rfl hv h10, va_Nw.same rfl hv h11⟩
/-- what a method that only reads asks of its start: the cells, the tables, the links of the nest -/
def preR (D : va_G) (cI : ClassId) (ws : va_W) (U : State) : Prop := va_P D vwCl ws U.heap ∧ va_K D vwCl [(cI, .int)] U ∧ EV U
theorem preR_blind {av : List Value} {D : va_G} {cI : ClassId} {ws : va_W} : FrameBlind (va_Pc av (preR D cI ws)) := fun a U g mk q => by
  obtain ⟨q0, qP, qK, qE⟩ := q
  exact ⟨q0, qP, va_K.moved (u := U) (U := U.calling g mk a) (Vm.Alike.refl U.vm) qK, EV.same (u := U) (U := U.calling g mk a) rfl qE⟩
theorem preR_of {D : va_G} {cI : ClassId} {ws : va_W} {s : State} {H : Heap} (hP : va_P D vwCl ws H) (hK : va_K D vwCl [(cI, .int)] s) (hE : EV s) (av : List Value) : ∀ U : State, U.heap = H → s.WarmedH U.vm → va_Pc av (preR D cI ws) av.toArray U := fun U hU hW => ⟨rfl, by rw [hU]; exact hP, va_K.moved hW.alike hK, EV.warm hW hE⟩
/-- what a method that writes asks: the cells are apart too, and the heap's size is known -/
def preM (D : va_G) (cI : ClassId) (ws : va_W) (sz : Nat) (U : State) : Prop := U.heap.size = sz ∧ va_P D vwCl ws U.heap ∧ va_K D vwCl [(cI, .int)] U ∧ EV U ∧ va_D (fun _ => True) ws
theorem preM_blind {av : List Value} {D : va_G} {cI : ClassId} {ws : va_W} {sz : Nat} : FrameBlind (va_Pc av (preM D cI ws sz)) := fun a U g mk q => by
  obtain ⟨q0, q1, qP, qK, qE, qD⟩ := q
  exact ⟨q0, q1, qP, va_K.moved (u := U) (U := U.calling g mk a) (Vm.Alike.refl U.vm) qK, EV.same (u := U) (U := U.calling g mk a) rfl qE, qD⟩
theorem preM_of {D : va_G} {cI : ClassId} {ws : va_W} {A : Nat → Prop} {s : State} {H : Heap} (hP : va_P D vwCl ws H) (hK : va_K D vwCl [(cI, .int)] s) (hE : EV s) (hD : va_D A ws) (av : List Value) : ∀ U : State, U.heap = H → s.WarmedH U.vm → va_Pc av (preM D cI ws H.size) av.toArray U := fun U hU hW => ⟨rfl, by rw [hU], by rw [hU]; exact hP, va_K.moved hW.alike hK, EV.warm hW hE, hD.weaken (fun _ _ _ _ => trivial)⟩
/-- what it leaves: the cells, the tables, apart -/
def posM (D : va_G) (cI : ClassId) (A : Nat → Prop) (ws : va_W) (t : State) : Prop := va_P D vwCl ws t.heap ∧ va_K D vwCl [(cI, .int)] t ∧ va_D A ws
theorem hnil {P : Loc → Prop} : ∀ q ∈ ([] : List Loc), P q := fun _ h => nomatch h
/-- an index that was looked at -/
theorem vin {i : Int32} {n : Nat} (hn : n < 2 ^ 31) (h0 : ¬ i < 0) (h1 : ¬ nI n ≤ i) : vp_in i n := by
  obtain ⟨j, hj, rfl⟩ := nI_of h0
  exact vp_in_nI (Nat.lt_of_not_le fun q => h1 (nI_le q hj)) hn
/-- a truth as an int -/
def bi (b : Bool) : Int32 := if b then 1 else 0
theorem bi_0 {b : Bool} : bi b = 0 ↔ b = false := by cases b <;> simp [bi]
theorem bi_n0 {b : Bool} : ¬ bi b = 0 ↔ b = true := by cases b <;> simp [bi]
theorem bi_nar (b : Bool) : narrow .boolean (.int (bi b)) = .int (bi b) := by cases b <;> rfl
section WB
variable {p : Program} {l : Launch} {e : Env} {R : Room} {s : State} {m : MethodId} {args : Array Value} {below : List Frame} {meth : Method} {c : Code} {H : Heap} {locs : List Loc} {cells slots : Nat} {Q : State → Prop}
variable {cc : ByteArray} {pc : Nat} {ls : Array Slot} {rest : List Value}
theorem w_bz (hexec : p.tables.exec = Jvm.exec) (hb : c.code = cc) {b : Bool} {off : Int} {tgt : Nat} (hdg : decode cc pc = .ok (.ifCond .eq off, 3)) (ht : (pc : Int) + off = (tgt : Int))
    (kt : b = false → W p l e R s m args below meth c H locs cells slots Q (F0 m tgt ls rest)) (kf : b = true → W p l e R s m args below meth c H locs cells slots Q (F0 m (pc + 3) ls rest)) : W p l e R s m args below meth c H locs cells slots Q (F0 m pc ls (.int (bi b) :: rest)) :=
  lv_if_eq hexec hb hdg ht (fun q => kt (bi_0.mp q)) (fun q => kf (bi_n0.mp q))
theorem w_bnz (hexec : p.tables.exec = Jvm.exec) (hb : c.code = cc) {b : Bool} {off : Int} {tgt : Nat} (hdg : decode cc pc = .ok (.ifCond .ne off, 3)) (ht : (pc : Int) + off = (tgt : Int))
    (kt : b = true → W p l e R s m args below meth c H locs cells slots Q (F0 m tgt ls rest)) (kf : b = false → W p l e R s m args below meth c H locs cells slots Q (F0 m (pc + 3) ls rest)) : W p l e R s m args below meth c H locs cells slots Q (F0 m pc ls (.int (bi b) :: rest)) :=
  lv_if_ne hexec hb hdg ht (fun q => kt (bi_n0.mp q)) (fun q => kf (bi_0.mp q))
end WB
abbrev w_ki (σ : SS) (f : Nat → Int32) : SS := (f, σ.2)
abbrev w_kn (σ : SS) (f : Nat → Int32) : SS := (σ.1, f, σ.2.2)
abbrev w_tr (σ : SS) (f : Nat → Int32) : SS := (σ.1, σ.2.1, f, σ.2.2.2)
abbrev w_st (σ : SS) (f : Nat → Int32) : SS := (σ.1, σ.2.1, σ.2.2.1, f, σ.2.2.2.2)
abbrev w_tu (σ : SS) (f : Nat → Int32) : SS := (σ.1, σ.2.1, σ.2.2.1, σ.2.2.2.1, f, σ.2.2.2.2.2)
abbrev w_n (σ : SS) (n : Nat) : SS := (σ.1, σ.2.1, σ.2.2.1, σ.2.2.2.1, σ.2.2.2.2.1, n, σ.2.2.2.2.2.2)
abbrev w_ac (σ : SS) (x : Int32) : SS := (σ.1, σ.2.1, σ.2.2.1, σ.2.2.2.1, σ.2.2.2.2.1, σ.2.2.2.2.2.1, x, σ.2.2.2.2.2.2.2)
abbrev w_hi (σ : SS) (x : Int32) : SS := (σ.1, σ.2.1, σ.2.2.1, σ.2.2.2.1, σ.2.2.2.2.1, σ.2.2.2.2.2.1, σ.2.2.2.2.2.2.1, x)
-- ===== what the methods of State answer, in the code's own words =====
/-- a row of n places read with a look at the index -/
def rd (f : Nat → Int32) (n : Nat) (d i : Int32) : Int32 := if i < 0 then d else if nI n ≤ i then d else f i.toNatClampNeg
def wr (f : Nat → Int32) (n : Nat) (i x : Int32) : Nat → Int32 := if i < 0 then f else if nI n ≤ i then f else upd f i.toNatClampNeg x
def kindF (σ : SS) (c : Int32) : Int32 := rd (s_ki σ) 160 1 c
def traitF (σ : SS) (b w : Int32) : Int32 := rd (s_tr σ) 90 0 (b * 9 + w)
def stackF (σ : SS) (b x : Int32) : Int32 := rd (s_st σ) 50 0 (b * 5 + x)
def turnsF (σ : SS) (b x : Int32) : Int32 := rd (s_tu σ) 50 0 (b * 5 + x)
def beingB (σ : SS) (b : Int32) : Bool := if b < 0 then false else if nI (s_n σ) ≤ b then false else true
def roomB (σ : SS) : Bool := if (10 : Int32) ≤ nI (s_n σ) then false else true
def aliveB (σ : SS) (b : Int32) : Bool := if traitF σ b 2 ≤ 0 then false else true
def afraidB (σ : SS) (b : Int32) : Bool := if traitF σ b 3 ≤ 3 * traitF σ b 2 then false else true
/-- the first of k, k + 1, .. (n of them) for which it holds, else -1 -/
def fstI (q : Nat → Bool) : Nat → Nat → Int32
  | 0, _ => -1
  | n + 1, k => if q k = true then nI k else fstI q n (k + 1)
def onF (σ : SS) (c : Int32) : Int32 := fstI (fun j => decide (traitF σ (nI j) 1 = c)) (s_n σ) 0
end
section
set_option maxHeartbeats 4000000 in
set_option maxRecDepth 100000 in
theorem c_X2_kindAt (l : Launch) (D : va_G) (cI : ClassId) (a : Nat → Nat) (σ : SS) (x : Int32) : Met l yX2_kindAt wsX2_kindAt ({ frames := 0, cells := 0, slots := 0, locals := 0 } : Room) (va_Pc [.ref (a 0), .int x] (preR D cI (sW cI a σ))) (vp_Si (fun r => r = kindF σ x)) 0 0 (fun _ => False) := by
  refine Met.ofW (cc := cX2_kindAt) (maxL := 2) (ret := (some .int)) (by decide) rfl ?_
  intro p e s m args below meth c s₁ B hml hv
  obtain ⟨rfl, hP, hK, hE⟩ := hv
  have hx := B.exec
  have hb := B.bytes
  have hr := B.returns
  have hts := atoms_spec (ws := wsX2_kindAt) B.pre
  have hown : s.vm.findClass RX2 = some m.cls := findClass_of_methodNamed B.named
  have hlocks := B.notSynchronized
  have hl := lv_entry ([.ref (a 0), .int x]) (n := 2) (Nat.le_of_ble_eq_true rfl)
  rw [lg_entry_eq]
  generalize (lg_sl ([.ref (a 0), .int x]) ++ List.replicate (2 - (lg_sl ([.ref (a 0), .int x])).length) Slot.unset).toArray = ls at hl ⊢
  have hl : lv_has ls 2 [(0, .ref (a 0)), (1, .int x)] := hl
  refine lv_iload_n hx hb dX2_kindAt_0 rfl (lv_at hl 1 rfl) ?_
  refine lv_if_lt (tgt := 22) hx hb dX2_kindAt_1 (by decide) (fun c_1 => ?_) (fun c_1 => ?_)
  · refine lv_iconst (v := 1) hx hb dX2_kindAt_22 (by decide) ?_
    exact W.iret (v := 1) hx hb hr (fun t ht _ => ⟨_, rfl, by first | rfl | (simp only [kindF, rd, if_pos c_1]; done) | (simp only [kindF, rd, if_pos c_1]; rfl) | (simp [kindF, rd, c_1]; done) | (simp [kindF, rd, c_1]; rfl), ht⟩) hnil dX2_kindAt_23
  · refine lv_iload_n hx hb dX2_kindAt_4 rfl (lv_at hl 1 rfl) ?_
    refine lv_aload_n hx hb dX2_kindAt_5 rfl (lv_at hl 0 rfl) ?_
    refine va_get (D := D) (ci := 2) (v := .ref (a 1)) (C := RX2) (T := TX2) (N := 8) hx hb hts (by decide +kernel) hown hK hP 0 rfl rfl 0 (by decide) (hts (.fieldLink RX2 9 "Warren$State" "kinds" "[I") (by decide +kernel)) (fun _ h9 => h9) rfl dX2_kindAt_6 ?_
    refine va_alen (v := nI 160) hx hb hK hP 1 0 rfl rfl rfl dX2_kindAt_9 ?_
    refine lv_icmp_ge (tgt := 22) hx hb dX2_kindAt_10 (by decide) (fun c_10 => ?_) (fun c_10 => ?_)
    · refine lv_iconst (v := 1) hx hb dX2_kindAt_22 (by decide) ?_
      exact W.iret (v := 1) hx hb hr (fun t ht _ => ⟨_, rfl, by first | rfl | (simp only [kindF, rd, if_neg c_1, if_pos c_10]; done) | (simp only [kindF, rd, if_neg c_1, if_pos c_10]; rfl) | (simp [kindF, rd, c_1, c_10]; done) | (simp [kindF, rd, c_1, c_10]; rfl), ht⟩) hnil dX2_kindAt_23
    · refine lv_aload_n hx hb dX2_kindAt_13 rfl (lv_at hl 0 rfl) ?_
      refine va_get (D := D) (ci := 2) (v := .ref (a 1)) (C := RX2) (T := TX2) (N := 8) hx hb hts (by decide +kernel) hown hK hP 0 rfl rfl 0 (by decide) (hts (.fieldLink RX2 9 "Warren$State" "kinds" "[I") (by decide +kernel)) (fun _ h9 => h9) rfl dX2_kindAt_14 ?_
      refine lv_iload_n hx hb dX2_kindAt_17 rfl (lv_at hl 1 rfl) ?_
      refine va_iald hx hb hK hP 1 0 rfl rfl (vin (by decide) (by assumption) (by assumption)) dX2_kindAt_18 ?_
      refine lv_goto (tgt := 23) hx hb dX2_kindAt_19 (by decide) ?_
      exact W.iret (v := ((s_ki σ) x.toNatClampNeg)) hx hb hr (fun t ht _ => ⟨_, rfl, by first | rfl | (simp only [kindF, rd, if_neg c_1, if_neg c_10]; done) | (simp only [kindF, rd, if_neg c_1, if_neg c_10]; rfl) | (simp [kindF, rd, c_1, c_10]; done) | (simp [kindF, rd, c_1, c_10]; rfl), ht⟩) hnil dX2_kindAt_23

set_option maxHeartbeats 4000000 in
set_option maxRecDepth 100000 in
theorem c_X2_trait (l : Launch) (D : va_G) (cI : ClassId) (a : Nat → Nat) (σ : SS) (x y : Int32) : Met l yX2_trait wsX2_trait ({ frames := 0, cells := 0, slots := 0, locals := 0 } : Room) (va_Pc [.ref (a 0), .int x, .int y] (preR D cI (sW cI a σ))) (vp_Si (fun r => r = traitF σ x y)) 0 0 (fun _ => False) := by
  refine Met.ofW (cc := cX2_trait) (maxL := 4) (ret := (some .int)) (by decide) rfl ?_
  intro p e s m args below meth c s₁ B hml hv
  obtain ⟨rfl, hP, hK, hE⟩ := hv
  have hx := B.exec
  have hb := B.bytes
  have hr := B.returns
  have hts := atoms_spec (ws := wsX2_trait) B.pre
  have hown : s.vm.findClass RX2 = some m.cls := findClass_of_methodNamed B.named
  have hlocks := B.notSynchronized
  have hl := lv_entry ([.ref (a 0), .int x, .int y]) (n := 4) (Nat.le_of_ble_eq_true rfl)
  rw [lg_entry_eq]
  generalize (lg_sl ([.ref (a 0), .int x, .int y]) ++ List.replicate (4 - (lg_sl ([.ref (a 0), .int x, .int y])).length) Slot.unset).toArray = ls at hl ⊢
  have hl : lv_has ls 4 [(0, .ref (a 0)), (1, .int x), (2, .int y)] := hl
  refine lv_iload_n hx hb dX2_trait_0 rfl (lv_at hl 1 rfl) ?_
  refine lv_bipush (v := 9) hx hb dX2_trait_1 (by decide) ?_
  refine lv_imul hx hb dX2_trait_3 ?_
  refine lv_iload_n hx hb dX2_trait_4 rfl (lv_at hl 2 rfl) ?_
  refine lv_iadd hx hb dX2_trait_5 ?_
  refine lv_istore_n (lv' := [(3, .int ((x * 9) + y)), (0, .ref (a 0)), (1, .int x), (2, .int y)]) hx hb dX2_trait_6 rfl hl (by decide) rfl (fun ls hl => ?_)
  refine lv_iload_n hx hb dX2_trait_7 rfl (lv_at hl 0 rfl) ?_
  refine lv_if_lt (tgt := 29) hx hb dX2_trait_8 (by decide) (fun c_8 => ?_) (fun c_8 => ?_)
  · refine lv_iconst (v := 0) hx hb dX2_trait_29 (by decide) ?_
    exact W.iret (v := 0) hx hb hr (fun t ht _ => ⟨_, rfl, by first | rfl | (simp only [traitF, rd, if_pos c_8]; done) | (simp only [traitF, rd, if_pos c_8]; rfl) | (simp [traitF, rd, c_8]; done) | (simp [traitF, rd, c_8]; rfl), ht⟩) hnil dX2_trait_30
  · refine lv_iload_n hx hb dX2_trait_11 rfl (lv_at hl 0 rfl) ?_
    refine lv_aload_n hx hb dX2_trait_12 rfl (lv_at hl 1 rfl) ?_
    refine va_get (D := D) (ci := 2) (v := .ref (a 3)) (C := RX2) (T := TX2) (N := 8) hx hb hts (by decide +kernel) hown hK hP 0 rfl rfl 2 (by decide) (hts (.fieldLink RX2 18 "Warren$State" "traits" "[I") (by decide +kernel)) (fun _ h9 => h9) rfl dX2_trait_13 ?_
    refine va_alen (v := nI 90) hx hb hK hP 3 0 rfl rfl rfl dX2_trait_16 ?_
    refine lv_icmp_ge (tgt := 29) hx hb dX2_trait_17 (by decide) (fun c_17 => ?_) (fun c_17 => ?_)
    · refine lv_iconst (v := 0) hx hb dX2_trait_29 (by decide) ?_
      exact W.iret (v := 0) hx hb hr (fun t ht _ => ⟨_, rfl, by first | rfl | (simp only [traitF, rd, if_neg c_8, if_pos c_17]; done) | (simp only [traitF, rd, if_neg c_8, if_pos c_17]; rfl) | (simp [traitF, rd, c_8, c_17]; done) | (simp [traitF, rd, c_8, c_17]; rfl), ht⟩) hnil dX2_trait_30
    · refine lv_aload_n hx hb dX2_trait_20 rfl (lv_at hl 1 rfl) ?_
      refine va_get (D := D) (ci := 2) (v := .ref (a 3)) (C := RX2) (T := TX2) (N := 8) hx hb hts (by decide +kernel) hown hK hP 0 rfl rfl 2 (by decide) (hts (.fieldLink RX2 18 "Warren$State" "traits" "[I") (by decide +kernel)) (fun _ h9 => h9) rfl dX2_trait_21 ?_
      refine lv_iload_n hx hb dX2_trait_24 rfl (lv_at hl 0 rfl) ?_
      refine va_iald hx hb hK hP 3 0 rfl rfl (vin (by decide) (by assumption) (by assumption)) dX2_trait_25 ?_
      refine lv_goto (tgt := 30) hx hb dX2_trait_26 (by decide) ?_
      exact W.iret (v := ((s_tr σ) ((x * 9) + y).toNatClampNeg)) hx hb hr (fun t ht _ => ⟨_, rfl, by first | rfl | (simp only [traitF, rd, if_neg c_8, if_neg c_17]; done) | (simp only [traitF, rd, if_neg c_8, if_neg c_17]; rfl) | (simp [traitF, rd, c_8, c_17]; done) | (simp [traitF, rd, c_8, c_17]; rfl), ht⟩) hnil dX2_trait_30

set_option maxHeartbeats 4000000 in
set_option maxRecDepth 100000 in
theorem c_X2_stackOf (l : Launch) (D : va_G) (cI : ClassId) (a : Nat → Nat) (σ : SS) (x y : Int32) : Met l yX2_stackOf wsX2_stackOf ({ frames := 0, cells := 0, slots := 0, locals := 0 } : Room) (va_Pc [.ref (a 0), .int x, .int y] (preR D cI (sW cI a σ))) (vp_Si (fun r => r = stackF σ x y)) 0 0 (fun _ => False) := by
  refine Met.ofW (cc := cX2_stackOf) (maxL := 4) (ret := (some .int)) (by decide) rfl ?_
  intro p e s m args below meth c s₁ B hml hv
  obtain ⟨rfl, hP, hK, hE⟩ := hv
  have hx := B.exec
  have hb := B.bytes
  have hr := B.returns
  have hts := atoms_spec (ws := wsX2_stackOf) B.pre
  have hown : s.vm.findClass RX2 = some m.cls := findClass_of_methodNamed B.named
  have hlocks := B.notSynchronized
  have hl := lv_entry ([.ref (a 0), .int x, .int y]) (n := 4) (Nat.le_of_ble_eq_true rfl)
  rw [lg_entry_eq]
  generalize (lg_sl ([.ref (a 0), .int x, .int y]) ++ List.replicate (4 - (lg_sl ([.ref (a 0), .int x, .int y])).length) Slot.unset).toArray = ls at hl ⊢
  have hl : lv_has ls 4 [(0, .ref (a 0)), (1, .int x), (2, .int y)] := hl
  refine lv_iload_n hx hb dX2_stackOf_0 rfl (lv_at hl 1 rfl) ?_
  refine lv_iconst (v := 5) hx hb dX2_stackOf_1 (by decide) ?_
  refine lv_imul hx hb dX2_stackOf_2 ?_
  refine lv_iload_n hx hb dX2_stackOf_3 rfl (lv_at hl 2 rfl) ?_
  refine lv_iadd hx hb dX2_stackOf_4 ?_
  refine lv_istore_n (lv' := [(3, .int ((x * 5) + y)), (0, .ref (a 0)), (1, .int x), (2, .int y)]) hx hb dX2_stackOf_5 rfl hl (by decide) rfl (fun ls hl => ?_)
  refine lv_iload_n hx hb dX2_stackOf_6 rfl (lv_at hl 0 rfl) ?_
  refine lv_if_lt (tgt := 28) hx hb dX2_stackOf_7 (by decide) (fun c_7 => ?_) (fun c_7 => ?_)
  · refine lv_iconst (v := 0) hx hb dX2_stackOf_28 (by decide) ?_
    exact W.iret (v := 0) hx hb hr (fun t ht _ => ⟨_, rfl, by first | rfl | (simp only [stackF, rd, if_pos c_7]; done) | (simp only [stackF, rd, if_pos c_7]; rfl) | (simp [stackF, rd, c_7]; done) | (simp [stackF, rd, c_7]; rfl), ht⟩) hnil dX2_stackOf_29
  · refine lv_iload_n hx hb dX2_stackOf_10 rfl (lv_at hl 0 rfl) ?_
    refine lv_aload_n hx hb dX2_stackOf_11 rfl (lv_at hl 1 rfl) ?_
    refine va_get (D := D) (ci := 2) (v := .ref (a 4)) (C := RX2) (T := TX2) (N := 8) hx hb hts (by decide +kernel) hown hK hP 0 rfl rfl 3 (by decide) (hts (.fieldLink RX2 21 "Warren$State" "stacks" "[I") (by decide +kernel)) (fun _ h9 => h9) rfl dX2_stackOf_12 ?_
    refine va_alen (v := nI 50) hx hb hK hP 4 0 rfl rfl rfl dX2_stackOf_15 ?_
    refine lv_icmp_ge (tgt := 28) hx hb dX2_stackOf_16 (by decide) (fun c_16 => ?_) (fun c_16 => ?_)
    · refine lv_iconst (v := 0) hx hb dX2_stackOf_28 (by decide) ?_
      exact W.iret (v := 0) hx hb hr (fun t ht _ => ⟨_, rfl, by first | rfl | (simp only [stackF, rd, if_neg c_7, if_pos c_16]; done) | (simp only [stackF, rd, if_neg c_7, if_pos c_16]; rfl) | (simp [stackF, rd, c_7, c_16]; done) | (simp [stackF, rd, c_7, c_16]; rfl), ht⟩) hnil dX2_stackOf_29
    · refine lv_aload_n hx hb dX2_stackOf_19 rfl (lv_at hl 1 rfl) ?_
      refine va_get (D := D) (ci := 2) (v := .ref (a 4)) (C := RX2) (T := TX2) (N := 8) hx hb hts (by decide +kernel) hown hK hP 0 rfl rfl 3 (by decide) (hts (.fieldLink RX2 21 "Warren$State" "stacks" "[I") (by decide +kernel)) (fun _ h9 => h9) rfl dX2_stackOf_20 ?_
      refine lv_iload_n hx hb dX2_stackOf_23 rfl (lv_at hl 0 rfl) ?_
      refine va_iald hx hb hK hP 4 0 rfl rfl (vin (by decide) (by assumption) (by assumption)) dX2_stackOf_24 ?_
      refine lv_goto (tgt := 29) hx hb dX2_stackOf_25 (by decide) ?_
      exact W.iret (v := ((s_st σ) ((x * 5) + y).toNatClampNeg)) hx hb hr (fun t ht _ => ⟨_, rfl, by first | rfl | (simp only [stackF, rd, if_neg c_7, if_neg c_16]; done) | (simp only [stackF, rd, if_neg c_7, if_neg c_16]; rfl) | (simp [stackF, rd, c_7, c_16]; done) | (simp [stackF, rd, c_7, c_16]; rfl), ht⟩) hnil dX2_stackOf_29

set_option maxHeartbeats 4000000 in
set_option maxRecDepth 100000 in
theorem c_X2_turnsOf (l : Launch) (D : va_G) (cI : ClassId) (a : Nat → Nat) (σ : SS) (x y : Int32) : Met l yX2_turnsOf wsX2_turnsOf ({ frames := 0, cells := 0, slots := 0, locals := 0 } : Room) (va_Pc [.ref (a 0), .int x, .int y] (preR D cI (sW cI a σ))) (vp_Si (fun r => r = turnsF σ x y)) 0 0 (fun _ => False) := by
  refine Met.ofW (cc := cX2_turnsOf) (maxL := 4) (ret := (some .int)) (by decide) rfl ?_
  intro p e s m args below meth c s₁ B hml hv
  obtain ⟨rfl, hP, hK, hE⟩ := hv
  have hx := B.exec
  have hb := B.bytes
  have hr := B.returns
  have hts := atoms_spec (ws := wsX2_turnsOf) B.pre
  have hown : s.vm.findClass RX2 = some m.cls := findClass_of_methodNamed B.named
  have hlocks := B.notSynchronized
  have hl := lv_entry ([.ref (a 0), .int x, .int y]) (n := 4) (Nat.le_of_ble_eq_true rfl)
  rw [lg_entry_eq]
  generalize (lg_sl ([.ref (a 0), .int x, .int y]) ++ List.replicate (4 - (lg_sl ([.ref (a 0), .int x, .int y])).length) Slot.unset).toArray = ls at hl ⊢
  have hl : lv_has ls 4 [(0, .ref (a 0)), (1, .int x), (2, .int y)] := hl
  refine lv_iload_n hx hb dX2_turnsOf_0 rfl (lv_at hl 1 rfl) ?_
  refine lv_iconst (v := 5) hx hb dX2_turnsOf_1 (by decide) ?_
  refine lv_imul hx hb dX2_turnsOf_2 ?_
  refine lv_iload_n hx hb dX2_turnsOf_3 rfl (lv_at hl 2 rfl) ?_
  refine lv_iadd hx hb dX2_turnsOf_4 ?_
  refine lv_istore_n (lv' := [(3, .int ((x * 5) + y)), (0, .ref (a 0)), (1, .int x), (2, .int y)]) hx hb dX2_turnsOf_5 rfl hl (by decide) rfl (fun ls hl => ?_)
  refine lv_iload_n hx hb dX2_turnsOf_6 rfl (lv_at hl 0 rfl) ?_
  refine lv_if_lt (tgt := 28) hx hb dX2_turnsOf_7 (by decide) (fun c_7 => ?_) (fun c_7 => ?_)
  · refine lv_iconst (v := 0) hx hb dX2_turnsOf_28 (by decide) ?_
    exact W.iret (v := 0) hx hb hr (fun t ht _ => ⟨_, rfl, by first | rfl | (simp only [turnsF, rd, if_pos c_7]; done) | (simp only [turnsF, rd, if_pos c_7]; rfl) | (simp [turnsF, rd, c_7]; done) | (simp [turnsF, rd, c_7]; rfl), ht⟩) hnil dX2_turnsOf_29
  · refine lv_iload_n hx hb dX2_turnsOf_10 rfl (lv_at hl 0 rfl) ?_
    refine lv_aload_n hx hb dX2_turnsOf_11 rfl (lv_at hl 1 rfl) ?_
    refine va_get (D := D) (ci := 2) (v := .ref (a 5)) (C := RX2) (T := TX2) (N := 8) hx hb hts (by decide +kernel) hown hK hP 0 rfl rfl 4 (by decide) (hts (.fieldLink RX2 24 "Warren$State" "turns" "[I") (by decide +kernel)) (fun _ h9 => h9) rfl dX2_turnsOf_12 ?_
    refine va_alen (v := nI 50) hx hb hK hP 5 0 rfl rfl rfl dX2_turnsOf_15 ?_
    refine lv_icmp_ge (tgt := 28) hx hb dX2_turnsOf_16 (by decide) (fun c_16 => ?_) (fun c_16 => ?_)
    · refine lv_iconst (v := 0) hx hb dX2_turnsOf_28 (by decide) ?_
      exact W.iret (v := 0) hx hb hr (fun t ht _ => ⟨_, rfl, by first | rfl | (simp only [turnsF, rd, if_neg c_7, if_pos c_16]; done) | (simp only [turnsF, rd, if_neg c_7, if_pos c_16]; rfl) | (simp [turnsF, rd, c_7, c_16]; done) | (simp [turnsF, rd, c_7, c_16]; rfl), ht⟩) hnil dX2_turnsOf_29
    · refine lv_aload_n hx hb dX2_turnsOf_19 rfl (lv_at hl 1 rfl) ?_
      refine va_get (D := D) (ci := 2) (v := .ref (a 5)) (C := RX2) (T := TX2) (N := 8) hx hb hts (by decide +kernel) hown hK hP 0 rfl rfl 4 (by decide) (hts (.fieldLink RX2 24 "Warren$State" "turns" "[I") (by decide +kernel)) (fun _ h9 => h9) rfl dX2_turnsOf_20 ?_
      refine lv_iload_n hx hb dX2_turnsOf_23 rfl (lv_at hl 0 rfl) ?_
      refine va_iald hx hb hK hP 5 0 rfl rfl (vin (by decide) (by assumption) (by assumption)) dX2_turnsOf_24 ?_
      refine lv_goto (tgt := 29) hx hb dX2_turnsOf_25 (by decide) ?_
      exact W.iret (v := ((s_tu σ) ((x * 5) + y).toNatClampNeg)) hx hb hr (fun t ht _ => ⟨_, rfl, by first | rfl | (simp only [turnsF, rd, if_neg c_7, if_neg c_16]; done) | (simp only [turnsF, rd, if_neg c_7, if_neg c_16]; rfl) | (simp [turnsF, rd, c_7, c_16]; done) | (simp [turnsF, rd, c_7, c_16]; rfl), ht⟩) hnil dX2_turnsOf_29

set_option maxHeartbeats 4000000 in
set_option maxRecDepth 100000 in
theorem c_X2_isBeing (l : Launch) (D : va_G) (cI : ClassId) (a : Nat → Nat) (σ : SS) (x : Int32) : Met l yX2_isBeing wsX2_isBeing ({ frames := 0, cells := 0, slots := 0, locals := 0 } : Room) (va_Pc [.ref (a 0), .int x] (preR D cI (sW cI a σ))) (vp_Si (fun r => r = bi (beingB σ x))) 0 0 (fun _ => False) := by
  refine Met.ofW (cc := cX2_isBeing) (maxL := 2) (ret := (some .boolean)) (by decide) rfl ?_
  intro p e s m args below meth c s₁ B hml hv
  obtain ⟨rfl, hP, hK, hE⟩ := hv
  have hx := B.exec
  have hb := B.bytes
  have hr := B.returns
  have hts := atoms_spec (ws := wsX2_isBeing) B.pre
  have hown : s.vm.findClass RX2 = some m.cls := findClass_of_methodNamed B.named
  have hlocks := B.notSynchronized
  have hl := lv_entry ([.ref (a 0), .int x]) (n := 2) (Nat.le_of_ble_eq_true rfl)
  rw [lg_entry_eq]
  generalize (lg_sl ([.ref (a 0), .int x]) ++ List.replicate (2 - (lg_sl ([.ref (a 0), .int x])).length) Slot.unset).toArray = ls at hl ⊢
  have hl : lv_has ls 2 [(0, .ref (a 0)), (1, .int x)] := hl
  refine lv_iload_n hx hb dX2_isBeing_0 rfl (lv_at hl 1 rfl) ?_
  refine lv_if_lt (tgt := 16) hx hb dX2_isBeing_1 (by decide) (fun c_1 => ?_) (fun c_1 => ?_)
  · refine lv_iconst (v := 0) hx hb dX2_isBeing_16 (by decide) ?_
    exact W.zret (v := 0) hx hb hr rfl (fun t ht _ => ⟨_, rfl, by first | rfl | (simp only [beingB, if_pos c_1]; done) | (simp only [beingB, if_pos c_1]; rfl) | (simp [beingB, c_1]; done) | (simp [beingB, c_1]; rfl), ht⟩) hnil dX2_isBeing_17
  · refine lv_iload_n hx hb dX2_isBeing_4 rfl (lv_at hl 1 rfl) ?_
    refine lv_aload_n hx hb dX2_isBeing_5 rfl (lv_at hl 0 rfl) ?_
    refine va_get (D := D) (ci := 2) (v := .int (nI (s_n σ))) (C := RX2) (T := TX2) (N := 8) hx hb hts (by decide +kernel) hown hK hP 0 rfl rfl 5 (by decide) (hts (.fieldLink RX2 39 "Warren$State" "beings" "I") (by decide +kernel)) (fun _ h9 => h9) rfl dX2_isBeing_6 ?_
    refine lv_icmp_ge (tgt := 16) hx hb dX2_isBeing_9 (by decide) (fun c_9 => ?_) (fun c_9 => ?_)
    · refine lv_iconst (v := 0) hx hb dX2_isBeing_16 (by decide) ?_
      exact W.zret (v := 0) hx hb hr rfl (fun t ht _ => ⟨_, rfl, by first | rfl | (simp only [beingB, if_neg c_1, if_pos c_9]; done) | (simp only [beingB, if_neg c_1, if_pos c_9]; rfl) | (simp [beingB, c_1, c_9]; done) | (simp [beingB, c_1, c_9]; rfl), ht⟩) hnil dX2_isBeing_17
    · refine lv_iconst (v := 1) hx hb dX2_isBeing_12 (by decide) ?_
      refine lv_goto (tgt := 17) hx hb dX2_isBeing_13 (by decide) ?_
      exact W.zret (v := 1) hx hb hr rfl (fun t ht _ => ⟨_, rfl, by first | rfl | (simp only [beingB, if_neg c_1, if_neg c_9]; done) | (simp only [beingB, if_neg c_1, if_neg c_9]; rfl) | (simp [beingB, c_1, c_9]; done) | (simp [beingB, c_1, c_9]; rfl), ht⟩) hnil dX2_isBeing_17

set_option maxHeartbeats 4000000 in
set_option maxRecDepth 100000 in
theorem c_X2_hasRoom (l : Launch) (D : va_G) (cI : ClassId) (a : Nat → Nat) (σ : SS) : Met l yX2_hasRoom wsX2_hasRoom ({ frames := 0, cells := 0, slots := 0, locals := 0 } : Room) (va_Pc [.ref (a 0)] (preR D cI (sW cI a σ))) (vp_Si (fun r => r = bi (roomB σ))) 0 0 (fun _ => False) := by
  refine Met.ofW (cc := cX2_hasRoom) (maxL := 1) (ret := (some .boolean)) (by decide) rfl ?_
  intro p e s m args below meth c s₁ B hml hv
  obtain ⟨rfl, hP, hK, hE⟩ := hv
  have hx := B.exec
  have hb := B.bytes
  have hr := B.returns
  have hts := atoms_spec (ws := wsX2_hasRoom) B.pre
  have hown : s.vm.findClass RX2 = some m.cls := findClass_of_methodNamed B.named
  have hlocks := B.notSynchronized
  have hl := lv_entry ([.ref (a 0)]) (n := 1) (Nat.le_of_ble_eq_true rfl)
  rw [lg_entry_eq]
  generalize (lg_sl ([.ref (a 0)]) ++ List.replicate (1 - (lg_sl ([.ref (a 0)])).length) Slot.unset).toArray = ls at hl ⊢
  have hl : lv_has ls 1 [(0, .ref (a 0))] := hl
  refine lv_aload_n hx hb dX2_hasRoom_0 rfl (lv_at hl 0 rfl) ?_
  refine va_get (D := D) (ci := 2) (v := .int (nI (s_n σ))) (C := RX2) (T := TX2) (N := 8) hx hb hts (by decide +kernel) hown hK hP 0 rfl rfl 5 (by decide) (hts (.fieldLink RX2 39 "Warren$State" "beings" "I") (by decide +kernel)) (fun _ h9 => h9) rfl dX2_hasRoom_1 ?_
  refine lv_bipush (v := 10) hx hb dX2_hasRoom_4 (by decide) ?_
  refine lv_icmp_ge (tgt := 13) hx hb dX2_hasRoom_6 (by decide) (fun c_6 => ?_) (fun c_6 => ?_)
  · refine lv_iconst (v := 0) hx hb dX2_hasRoom_13 (by decide) ?_
    exact W.zret (v := 0) hx hb hr rfl (fun t ht _ => ⟨_, rfl, by first | rfl | (simp only [roomB, if_pos c_6]; done) | (simp only [roomB, if_pos c_6]; rfl) | (simp [roomB, c_6]; done) | (simp [roomB, c_6]; rfl), ht⟩) hnil dX2_hasRoom_14
  · refine lv_iconst (v := 1) hx hb dX2_hasRoom_9 (by decide) ?_
    refine lv_goto (tgt := 14) hx hb dX2_hasRoom_10 (by decide) ?_
    exact W.zret (v := 1) hx hb hr rfl (fun t ht _ => ⟨_, rfl, by first | rfl | (simp only [roomB, if_neg c_6]; done) | (simp only [roomB, if_neg c_6]; rfl) | (simp [roomB, c_6]; done) | (simp [roomB, c_6]; rfl), ht⟩) hnil dX2_hasRoom_14

set_option maxHeartbeats 4000000 in
set_option maxRecDepth 100000 in
theorem c_X2_isAlive (l : Launch) (D : va_G) (cI : ClassId) (a : Nat → Nat) (σ : SS) (x : Int32) : Met l yX2_isAlive wsX2_isAlive ({ frames := 1, cells := 0, slots := 0, locals := 23 } : Room) (va_Pc [.ref (a 0), .int x] (preR D cI (sW cI a σ))) (vp_Si (fun r => r = bi (aliveB σ x))) 0 0 (fun _ => False) := by
  refine Met.ofW (cc := cX2_isAlive) (maxL := 2) (ret := (some .boolean)) (by decide) rfl ?_
  intro p e s m args below meth c s₁ B hml hv
  obtain ⟨rfl, hP, hK, hE⟩ := hv
  have hx := B.exec
  have hb := B.bytes
  have hr := B.returns
  have hts := atoms_spec (ws := wsX2_isAlive) B.pre
  have hown : s.vm.findClass RX2 = some m.cls := findClass_of_methodNamed B.named
  have hlocks := B.notSynchronized
  have hl := lv_entry ([.ref (a 0), .int x]) (n := 2) (Nat.le_of_ble_eq_true rfl)
  rw [lg_entry_eq]
  generalize (lg_sl ([.ref (a 0), .int x]) ++ List.replicate (2 - (lg_sl ([.ref (a 0), .int x])).length) Slot.unset).toArray = ls at hl ⊢
  have hl : lv_has ls 2 [(0, .ref (a 0)), (1, .int x)] := hl
  refine lv_aload_n hx hb dX2_isAlive_0 rfl (lv_at hl 0 rfl) ?_
  refine lv_iload_n hx hb dX2_isAlive_1 rfl (lv_at hl 1 rfl) ?_
  refine lv_iconst (v := 2) hx hb dX2_isAlive_2 (by decide) ?_
  refine vp_callSi (va_Run.run (va_runV (As := [.int x, .int 2]) (rest := []) ⟨hx, hb, hml, hown, hts⟩ (c_X2_trait l D cI a σ x 2) (cwV 2 hts gX2_isAlive_X2_trait rfl rfl rfl (by decide +kernel) ⟨Nat.le_of_ble_eq_true rfl, Nat.le_of_ble_eq_true rfl⟩) ⟨preR_blind, va_recv hK hP (ci := 2) (q0 := 0) rfl rfl, preR_of hP hK hE [.ref (a 0), .int x, .int 2]⟩ rfl rfl hl.1 rfl (lv_room (Nat.le_of_ble_eq_true rfl)) dX2_isAlive_3 ⟨Nat.zero_le _, Nat.zero_le _⟩)) (fun r hr9 => ?_)
  subst hr9
  refine lv_if_le (tgt := 13) hx hb dX2_isAlive_6 (by decide) (fun c_6 => ?_) (fun c_6 => ?_)
  · refine lv_iconst (v := 0) hx hb dX2_isAlive_13 (by decide) ?_
    exact W.zret (v := 0) hx hb hr rfl (fun t ht _ => ⟨_, rfl, by first | rfl | (simp only [aliveB, if_pos c_6]; done) | (simp only [aliveB, if_pos c_6]; rfl) | (simp [aliveB, c_6]; done) | (simp [aliveB, c_6]; rfl), ht⟩) hnil dX2_isAlive_14
  · refine lv_iconst (v := 1) hx hb dX2_isAlive_9 (by decide) ?_
    refine lv_goto (tgt := 14) hx hb dX2_isAlive_10 (by decide) ?_
    exact W.zret (v := 1) hx hb hr rfl (fun t ht _ => ⟨_, rfl, by first | rfl | (simp only [aliveB, if_neg c_6]; done) | (simp only [aliveB, if_neg c_6]; rfl) | (simp [aliveB, c_6]; done) | (simp [aliveB, c_6]; rfl), ht⟩) hnil dX2_isAlive_14

set_option maxHeartbeats 4000000 in
set_option maxRecDepth 100000 in
theorem c_X2_isAfraid (l : Launch) (D : va_G) (cI : ClassId) (a : Nat → Nat) (σ : SS) (x : Int32) : Met l yX2_isAfraid wsX2_isAfraid ({ frames := 1, cells := 0, slots := 0, locals := 23 } : Room) (va_Pc [.ref (a 0), .int x] (preR D cI (sW cI a σ))) (vp_Si (fun r => r = bi (afraidB σ x))) 0 0 (fun _ => False) := by
  refine Met.ofW (cc := cX2_isAfraid) (maxL := 2) (ret := (some .boolean)) (by decide) rfl ?_
  intro p e s m args below meth c s₁ B hml hv
  obtain ⟨rfl, hP, hK, hE⟩ := hv
  have hx := B.exec
  have hb := B.bytes
  have hr := B.returns
  have hts := atoms_spec (ws := wsX2_isAfraid) B.pre
  have hown : s.vm.findClass RX2 = some m.cls := findClass_of_methodNamed B.named
  have hlocks := B.notSynchronized
  have hl := lv_entry ([.ref (a 0), .int x]) (n := 2) (Nat.le_of_ble_eq_true rfl)
  rw [lg_entry_eq]
  generalize (lg_sl ([.ref (a 0), .int x]) ++ List.replicate (2 - (lg_sl ([.ref (a 0), .int x])).length) Slot.unset).toArray = ls at hl ⊢
  have hl : lv_has ls 2 [(0, .ref (a 0)), (1, .int x)] := hl
  refine lv_iconst (v := 3) hx hb dX2_isAfraid_0 (by decide) ?_
  refine lv_aload_n hx hb dX2_isAfraid_1 rfl (lv_at hl 0 rfl) ?_
  refine lv_iload_n hx hb dX2_isAfraid_2 rfl (lv_at hl 1 rfl) ?_
  refine lv_iconst (v := 2) hx hb dX2_isAfraid_3 (by decide) ?_
  refine vp_callSi (va_Run.run (va_runV (As := [.int x, .int 2]) (rest := [.int 3]) ⟨hx, hb, hml, hown, hts⟩ (c_X2_trait l D cI a σ x 2) (cwV 2 hts gX2_isAfraid_X2_trait rfl rfl rfl (by decide +kernel) ⟨Nat.le_of_ble_eq_true rfl, Nat.le_of_ble_eq_true rfl⟩) ⟨preR_blind, va_recv hK hP (ci := 2) (q0 := 0) rfl rfl, preR_of hP hK hE [.ref (a 0), .int x, .int 2]⟩ rfl rfl hl.1 rfl (lv_room (Nat.le_of_ble_eq_true rfl)) dX2_isAfraid_4 ⟨Nat.zero_le _, Nat.zero_le _⟩)) (fun r hr9 => ?_)
  subst hr9
  refine lv_imul hx hb dX2_isAfraid_7 ?_
  refine lv_aload_n hx hb dX2_isAfraid_8 rfl (lv_at hl 0 rfl) ?_
  refine lv_iload_n hx hb dX2_isAfraid_9 rfl (lv_at hl 1 rfl) ?_
  refine lv_iconst (v := 3) hx hb dX2_isAfraid_10 (by decide) ?_
  refine vp_callSi (va_Run.run (va_runV (As := [.int x, .int 3]) (rest := [.int (3 * (traitF σ x 2))]) ⟨hx, hb, hml, hown, hts⟩ (c_X2_trait l D cI a σ x 3) (cwV 2 hts gX2_isAfraid_X2_trait rfl rfl rfl (by decide +kernel) ⟨Nat.le_of_ble_eq_true rfl, Nat.le_of_ble_eq_true rfl⟩) ⟨preR_blind, va_recv hK hP (ci := 2) (q0 := 0) rfl rfl, preR_of hP hK hE [.ref (a 0), .int x, .int 3]⟩ rfl rfl hl.1 rfl (lv_room (Nat.le_of_ble_eq_true rfl)) dX2_isAfraid_11 ⟨Nat.zero_le _, Nat.zero_le _⟩)) (fun r hr9 => ?_)
  subst hr9
  refine lv_icmp_ge (tgt := 21) hx hb dX2_isAfraid_14 (by decide) (fun c_14 => ?_) (fun c_14 => ?_)
  · refine lv_iconst (v := 0) hx hb dX2_isAfraid_21 (by decide) ?_
    exact W.zret (v := 0) hx hb hr rfl (fun t ht _ => ⟨_, rfl, by first | rfl | (simp only [afraidB, if_pos c_14]; done) | (simp only [afraidB, if_pos c_14]; rfl) | (simp [afraidB, c_14]; done) | (simp [afraidB, c_14]; rfl), ht⟩) hnil dX2_isAfraid_22
  · refine lv_iconst (v := 1) hx hb dX2_isAfraid_17 (by decide) ?_
    refine lv_goto (tgt := 22) hx hb dX2_isAfraid_18 (by decide) ?_
    exact W.zret (v := 1) hx hb hr rfl (fun t ht _ => ⟨_, rfl, by first | rfl | (simp only [afraidB, if_neg c_14]; done) | (simp only [afraidB, if_neg c_14]; rfl) | (simp [afraidB, c_14]; done) | (simp [afraidB, c_14]; rfl), ht⟩) hnil dX2_isAfraid_22

set_option maxHeartbeats 4000000 in
set_option maxRecDepth 100000 in
theorem c_X2_whoIsOn (l : Launch) (D : va_G) (cI : ClassId) (a : Nat → Nat) (σ : SS) (x : Int32) (hn : s_n σ ≤ 10) : Met l yX2_whoIsOn wsX2_whoIsOn ({ frames := 1, cells := 0, slots := 0, locals := 23 } : Room) (va_Pc [.ref (a 0), .int x] (preR D cI (sW cI a σ))) (vp_Si (fun r => r = onF σ x)) 0 0 (fun _ => False) := by
  refine Met.ofW (cc := cX2_whoIsOn) (maxL := 3) (ret := (some .int)) (by decide) rfl ?_
  intro p e s m args below meth c s₁ B hml hv
  obtain ⟨rfl, hP, hK, hE⟩ := hv
  have hx := B.exec
  have hb := B.bytes
  have hr := B.returns
  have hts := atoms_spec (ws := wsX2_whoIsOn) B.pre
  have hown : s.vm.findClass RX2 = some m.cls := findClass_of_methodNamed B.named
  have hlocks := B.notSynchronized
  have hl := lv_entry ([.ref (a 0), .int x]) (n := 3) (Nat.le_of_ble_eq_true rfl)
  rw [lg_entry_eq]
  generalize (lg_sl ([.ref (a 0), .int x]) ++ List.replicate (3 - (lg_sl ([.ref (a 0), .int x])).length) Slot.unset).toArray = ls at hl ⊢
  have hl : lv_has ls 3 [(0, .ref (a 0)), (1, .int x)] := hl
  refine lv_iconst (v := 0) hx hb dX2_whoIsOn_0 (by decide) ?_
  refine lv_istore_n (lv' := [(2, .int 0), (0, .ref (a 0)), (1, .int x)]) hx hb dX2_whoIsOn_1 rfl hl (by decide) rfl (fun ls hl => ?_)
  have L2 : ∀ (n k : Nat) (hk : k + n = s_n σ) (hsp : onF σ x = fstI (fun j => decide (traitF σ (nI j) 1 = x)) n k) (ls : Array Slot), lv_has ls 3 [(2, .int (nI k)), (0, .ref (a 0)), (1, .int x)] → W p l e ({ frames := 1, cells := 0, slots := 0, locals := 23 } : Room) s m ([.ref (a 0), .int x] : List Value).toArray below meth c s.heap [] 0 0 (MQ below (vp_Si (fun r => r = onF σ x)) ([.ref (a 0), .int x] : List Value).toArray s 0 0 (fun _ => False)) (F0 m 2 ls []) := by
    intro n
    induction n with
    | zero =>
      intro k hk hsp ls hl
      refine lv_iload_n hx hb dX2_whoIsOn_2 rfl (lv_at hl 0 rfl) ?_
      refine lv_aload_n hx hb dX2_whoIsOn_3 rfl (lv_at hl 1 rfl) ?_
      refine va_get (D := D) (ci := 2) (v := .int (nI (s_n σ))) (C := RX2) (T := TX2) (N := 8) hx hb hts (by decide +kernel) hown hK hP 0 rfl rfl 5 (by decide) (hts (.fieldLink RX2 39 "Warren$State" "beings" "I") (by decide +kernel)) (fun _ h9 => h9) rfl dX2_whoIsOn_4 ?_
      refine lv_icmp_ge (tgt := 28) hx hb dX2_whoIsOn_7 (by decide) (fun c_7 => ?_) (fun c_7 => absurd (nI_le (by omega) (by omega)) c_7)
      refine lv_iconst (v := (-1)) hx hb dX2_whoIsOn_28 (by decide) ?_
      exact W.iret (v := (-1)) hx hb hr (fun t ht _ => ⟨_, rfl, by rw [hsp]; rfl, ht⟩) hnil dX2_whoIsOn_29
    | succ n ih2 =>
      intro k hk hsp ls hl
      refine lv_iload_n hx hb dX2_whoIsOn_2 rfl (lv_at hl 0 rfl) ?_
      refine lv_aload_n hx hb dX2_whoIsOn_3 rfl (lv_at hl 1 rfl) ?_
      refine va_get (D := D) (ci := 2) (v := .int (nI (s_n σ))) (C := RX2) (T := TX2) (N := 8) hx hb hts (by decide +kernel) hown hK hP 0 rfl rfl 5 (by decide) (hts (.fieldLink RX2 39 "Warren$State" "beings" "I") (by decide +kernel)) (fun _ h9 => h9) rfl dX2_whoIsOn_4 ?_
      refine lv_icmp_ge (tgt := 28) hx hb dX2_whoIsOn_7 (by decide) (fun c_7 => absurd c_7 (nI_ge (by omega) (by omega))) (fun c_7 => ?_)
      refine lv_aload_n hx hb dX2_whoIsOn_10 rfl (lv_at hl 1 rfl) ?_
      refine lv_iload_n hx hb dX2_whoIsOn_11 rfl (lv_at hl 0 rfl) ?_
      refine lv_iconst (v := 1) hx hb dX2_whoIsOn_12 (by decide) ?_
      refine vp_callSi (va_Run.run (va_runV (As := [.int (nI k), .int 1]) (rest := []) ⟨hx, hb, hml, hown, hts⟩ (c_X2_trait l D cI a σ (nI k) 1) (cwV 2 hts gX2_whoIsOn_X2_trait rfl rfl rfl (by decide +kernel) ⟨Nat.le_of_ble_eq_true rfl, Nat.le_of_ble_eq_true rfl⟩) ⟨preR_blind, va_recv hK hP (ci := 2) (q0 := 0) rfl rfl, preR_of hP hK hE [.ref (a 0), .int (nI k), .int 1]⟩ rfl rfl hl.1 rfl (lv_room (Nat.le_of_ble_eq_true rfl)) dX2_whoIsOn_13 ⟨Nat.zero_le _, Nat.zero_le _⟩)) (fun r hr9 => ?_)
      subst hr9
      refine lv_iload_n hx hb dX2_whoIsOn_16 rfl (lv_at hl 2 rfl) ?_
      refine lv_icmp_ne (tgt := 22) hx hb dX2_whoIsOn_17 (by decide) (fun c_17 => ?_) (fun c_17 => ?_)
      · refine lv_iinc (v := (nI (k + 1))) (lv' := [(2, .int (nI (k + 1))), (0, .ref (a 0)), (1, .int x)]) hx hb dX2_whoIsOn_22 hl (k := 0) rfl (nI_1 k) (by decide) rfl (fun ls hl => ?_)
        refine lv_goto (tgt := 2) hx hb dX2_whoIsOn_25 (by decide) ?_
        exact ih2 (k + 1) (by omega) (by rw [hsp]; simp [fstI, c_17]) ls (lv_sub hl [0, 1, 2] rfl)
      · refine lv_iload_n hx hb dX2_whoIsOn_20 rfl (lv_at hl 0 rfl) ?_
        exact W.iret (v := (nI k)) hx hb hr (fun t ht _ => ⟨_, rfl, by rw [hsp]; simp [fstI, c_17], ht⟩) hnil dX2_whoIsOn_21
  exact L2 (s_n σ) 0 (by omega) rfl ls (lv_sub hl [0, 1, 2] rfl)
end
section
-- ===== reads, on =====
def remI (x y : Int32) : Int32 := x - x / y * y
def colI (c : Int32) : Int32 := remI c 16
def rowI (c : Int32) : Int32 := c / 16
def absI (x : Int32) : Int32 := if 0 ≤ x then x else 0 - x
def maxI (x y : Int32) : Int32 := if x < y then y else x
def minI (x y : Int32) : Int32 := if y < x then y else x
def stopsB (k : Int32) : Bool := if k = 1 then true else if k = 2 then true else false
def edgeB (c : Int32) : Bool := if colI c = 0 then true else if colI c = 15 then true else if rowI c = 0 then true else if rowI c = 9 then true else false
def apartF (x y : Int32) : Int32 := maxI (absI (colI y - colI x)) (absI (rowI y - rowI x))
def floorF (x y : Int32) : Int32 := if 0 ≤ x ^^^ y then x / y else if x / y * y = x then x / y else x / y - 1
def nearF (p w : Int32) : Int32 := if w ≤ 0 then 0 else floorF (2 * p + w) (2 * w)
def lineC (x y n k : Int32) : Int32 := x + nearF (k * (colI y - colI x)) n + 16 * nearF (k * (rowI y - rowI x)) n
def seenL (σ : SS) (x y n : Int32) : Nat → Nat → Bool
  | 0, _ => true
  | m + 1, k => if stopsB (kindF σ (lineC x y n (nI k))) = true then false else seenL σ x y n m (k + 1)
def seenB (σ : SS) (x y : Int32) : Bool := if apartF x y ≤ 7 then seenL σ x y (apartF x y) ((apartF x y).toNatClampNeg - 1) 1 else false
def knownB (σ : SS) (s c : Int32) : Bool := if c < 0 then false else if nI 160 ≤ c then false else if s_kn σ c.toNatClampNeg &&& ((1 : Int32) <<< (s &&& 31)) = 0 then false else true
def knownL (σ : SS) (s : Int32) : Nat → Nat → Int32 → Int32
  | 0, _, t => t
  | m + 1, k, t => knownL σ s m (k + 1) (if knownB σ s (nI k) = true then t + 1 else t)
def knownF (σ : SS) (s : Int32) : Int32 := knownL σ s 160 0 0
def livingL (σ : SS) (s : Int32) : Nat → Nat → Int32 → Int32
  | 0, _, t => t
  | m + 1, k, t => livingL σ s m (k + 1) (if traitF σ (nI k) 0 = s then if aliveB σ (nI k) = true then t + 1 else t else t)
def livingF (σ : SS) (s : Int32) : Int32 := livingL σ s (s_n σ) 0 0
def lifeL (σ : SS) (s : Int32) : Nat → Nat → Int32 → Int32
  | 0, _, t => t
  | m + 1, k, t => lifeL σ s m (k + 1) (if traitF σ (nI k) 0 = s then t + traitF σ (nI k) 2 else t)
def lifeF (σ : SS) (s : Int32) : Int32 := lifeL σ s (s_n σ) 0 0
def turnL (σ : SS) : Nat → Nat → Int32 → Int32
  | 0, _, t => t
  | m + 1, k, t => turnL σ m (k + 1) (if aliveB σ (nI k) = true then if t = -1 then nI k else if traitF σ t 8 ≤ traitF σ (nI k) 8 then t else nI k else t)
def turnF (σ : SS) : Int32 := turnL σ (s_n σ) 0 (-1)
def foeB (σ : SS) (b o : Int32) : Bool := if traitF σ o 2 ≤ 0 then false else if traitF σ o 0 = traitF σ b 0 then false else true
def targetL (σ : SS) (b f : Int32) : Nat → Nat → Int32 → Int32 → Int32
  | 0, _, t, _ => t
  | m + 1, k, t, z => if foeB σ b (nI k) = true then
      if z ≤ apartF f (traitF σ (nI k) 1) then targetL σ b f m (k + 1) t z
      else if seenB σ f (traitF σ (nI k) 1) = true then targetL σ b f m (k + 1) (nI k) (apartF f (traitF σ (nI k) 1)) else targetL σ b f m (k + 1) t z
    else targetL σ b f m (k + 1) t z
def targetF (σ : SS) (b : Int32) : Int32 := if aliveB σ b = true then targetL σ b (traitF σ b 1) (s_n σ) 0 (-1) 8 else -1
def firstFoeF (σ : SS) (b : Int32) : Int32 := fstI (fun j => foeB σ b (nI j)) (s_n σ) 0
def stF : Nat → Int32
  | 0 => -16
  | 1 => 1
  | 2 => 16
  | _ => -1
def besideL (σ : SS) (b : Int32) : Nat → Nat → Bool
  | 0, _ => false
  | m + 1, k => if foeB σ b (onF σ (traitF σ b 1 + stF k)) = true then true else besideL σ b m (k + 1)
def besideB (σ : SS) (b : Int32) : Bool := besideL σ b 4 0
def watchL (σ : SS) (s c : Int32) : Nat → Nat → Int32 → Int32
  | 0, _, t => t
  | m + 1, k, t => watchL σ s c m (k + 1) (if aliveB σ (nI k) = true then if traitF σ (nI k) 0 = s then t else if seenB σ (traitF σ (nI k) 1) c = true then t + 1 else t else t)
def watchF (σ : SS) (s c : Int32) : Int32 := watchL σ s c (s_n σ) 0 0
def hitF (σ : SS) (b o : Int32) : Int32 := if aliveB σ b = true then if aliveB σ o = true then maxI (traitF σ b 4 + stackF σ b 2 - (traitF σ o 5 + stackF σ o 3)) 1 else 0 else 0
theorem rem_eq (x y : Int32) : x - x / y * y = remI x y := rfl
/-- the table of steps -/
def stV (j : Nat) : Value := .int (stF j)
def preS4 (t : Nat) (U : State) : Prop := va_Z RX4 "STEPS" "[I" (.ref t) (fun _ => False) U U.heap ∧ va_T .int t 4 stV (fun _ => False) U U.heap
theorem nz2 {j : Nat} (h : ¬ nI j ≤ 0) (hj : j ≤ 7) : ¬ 2 * nI j = 0 := by
  have h1 : 0 < j := by
    rcases Nat.eq_zero_or_pos j with q | q
    · subst q; exact absurd (by decide) h
    · exact q
  have e : (2 : Int32) * nI j = nI (2 * j) := pk_mul 2 j
  rw [e]
  exact nI_ne0 (by omega) (by omega)
theorem abs_nn {x : Int32} (h : x ≠ -2147483648) : ¬ absI x < 0 := by
  unfold absI
  split
  · rename_i q
    exact fun z => absurd (Int32.lt_of_lt_of_le z q) (by simp)
  · rename_i q
    intro z
    have h1 : x.toInt < 0 := by
      have := mt (fun w => (Int32.le_iff_toInt_le (x := 0) (y := x)).mpr w) q
      simp at this; omega
    have h2 : (0 - x).toInt < 0 := by
      have := Int32.lt_iff_toInt_lt.mp z
      simpa using this
    have h3 : x.toInt ≠ -2147483648 := fun w => h (Int32.toInt_inj.mp (by rw [w]; rfl))
    have h4 : -2147483648 ≤ x.toInt := Int32.le_toInt x
    have h5 : (0 - x).toInt = 0 - x.toInt := by
      rw [Int32.toInt_sub]
      simp only [Int32.toInt_zero]
      exact Int.bmod_eq_of_le (by omega) (by omega)
    omega
theorem row_ne (x y : Int32) : rowI y - rowI x ≠ -2147483648 := by
  have hd : ∀ z : Int32, (rowI z).toInt = z.toInt.tdiv 16 := by
    intro z
    unfold rowI
    rw [Int32.toInt_div_of_ne_right z 16 (by decide)]
    rfl
  intro h
  have h1 := congrArg Int32.toInt h
  rw [Int32.toInt_sub, hd, hd] at h1
  have a1 : -2147483648 ≤ x.toInt := Int32.le_toInt x
  have a2 : x.toInt < 2147483648 := Int32.toInt_lt x
  have b1 : -2147483648 ≤ y.toInt := Int32.le_toInt y
  have b2 : y.toInt < 2147483648 := Int32.toInt_lt y
  have e1 : (x.toInt.tdiv 16).natAbs = x.toInt.natAbs / 16 := Int.natAbs_tdiv x.toInt 16
  have e2 : (y.toInt.tdiv 16).natAbs = y.toInt.natAbs / 16 := Int.natAbs_tdiv y.toInt 16
  rw [Int.bmod_eq_of_le (by omega) (by omega)] at h1
  have : ((-2147483648 : Int32)).toInt = -2147483648 := by decide
  omega
theorem apart_nn (x y : Int32) : ¬ apartF x y < 0 := by
  unfold apartF maxI
  split
  · exact abs_nn (row_ne x y)
  · rename_i q
    have h := abs_nn (row_ne x y)
    exact fun z => h (Int32.lt_of_le_of_lt (Int32.not_lt.mp q) z)
theorem apart_le {x y : Int32} (h : apartF x y ≤ 7) : ∃ j : Nat, j ≤ 7 ∧ apartF x y = nI j := nI_of2 (M := 7) (n := 7) (by decide) (apart_nn x y) h
/-- the walk of a method of a class of whose methods some are run by an entry of the machine's, but not this one -/
theorem w_ofWF {l : Launch} {y : MethodName} {ws ws' : List Cond} {rm : Room} {Pc : Array Value → State → Prop} {Qc : Array Value → State → Outcome → State → Prop} {mc ms : Nat} {free : Addr → Prop} {cc : ByteArray} {maxL : Nat} {ret : Option FieldType}
    (hy : plainFor y = true) (hw : ws = Cond.code y cc maxL ret :: ws')
    (body : ∀ p e s m args below meth c s₁, BodyLoose p l y (headSpec ws rm) cc maxL ret e s m args below meth c s₁ → c.maxLocals = maxL → Pc args s →
      W p l e (headSpec ws rm).room s m args below meth c s.heap [] 0 0 (MQ below Qc args s mc ms free) (entryFrame m args maxL)) : Met l y ws rm Pc Qc mc ms free := by
  refine MetFree.of_bodySF (code := cc) (maxLocals := maxL) (ret := ret) hy ?_ ?_
  · intro args s m h hn
    obtain ⟨meth, c, h1, h2, h3, h4, h5, h6, -, -⟩ := Cond.code_spec hn (atoms_spec (ws := ws) h _ (by rw [hw]; exact List.mem_cons_self))
    exact ⟨meth, c, h1, h2, h3, h4, h5, h6⟩
  · intro p e s m args below meth c s₁ B hml hP _
    have hh0 : s₁.heap = s.heap := by rw [B.state]; rfl
    obtain ⟨t, a1, o, b1, b2, b3⟩ := body p e s m args below meth c s₁ B hml hP s₁ hh0 (Stand.of_body B)
    exact ⟨t, o, a1, b1, b2, ⟨b3.1, b3.2⟩⟩
end
section
set_option maxHeartbeats 4000000 in
set_option maxRecDepth 100000 in
theorem c_X4_stopsSight (l : Launch) (x : Int32) : Met l yX4_stopsSight wsX4_stopsSight ({ frames := 0, cells := 0, slots := 0, locals := 0 } : Room) (va_Pc [.int x] (fun _ => True)) (vp_Si (fun r => r = bi (stopsB x))) 0 0 (fun _ => False) := by
  refine Met.ofW (cc := cX4_stopsSight) (maxL := 1) (ret := (some .boolean)) (by decide) rfl ?_
  intro p e s m args below meth c s₁ B hml hv
  obtain ⟨rfl, -⟩ := hv
  have hx := B.exec
  have hb := B.bytes
  have hr := B.returns
  have hts := atoms_spec (ws := wsX4_stopsSight) B.pre
  have hown : s.vm.findClass RX4 = some m.cls := findClass_of_methodNamed B.named
  have hlocks := B.notSynchronized
  have hl := lv_entry ([.int x]) (n := 1) (Nat.le_of_ble_eq_true rfl)
  rw [lg_entry_eq]
  generalize (lg_sl ([.int x]) ++ List.replicate (1 - (lg_sl ([.int x])).length) Slot.unset).toArray = ls at hl ⊢
  have hl : lv_has ls 1 [(0, .int x)] := hl
  refine lv_iload_n hx hb dX4_stopsSight_0 rfl (lv_at hl 0 rfl) ?_
  refine lv_iconst (v := 1) hx hb dX4_stopsSight_1 (by decide) ?_
  refine lv_icmp_eq (tgt := 10) hx hb dX4_stopsSight_2 (by decide) (fun c_2 => ?_) (fun c_2 => ?_)
  · refine lv_iconst (v := 1) hx hb dX4_stopsSight_10 (by decide) ?_
    refine lv_goto (tgt := 15) hx hb dX4_stopsSight_11 (by decide) ?_
    exact W.zret (v := 1) hx hb hr rfl (fun t ht _ => ⟨_, rfl, by first | rfl | (simp only [stopsB, if_pos c_2]; done) | (simp only [stopsB, if_pos c_2]; rfl) | (simp [stopsB, c_2]; done) | (simp [stopsB, c_2]; rfl), ht⟩) hnil dX4_stopsSight_15
  · refine lv_iload_n hx hb dX4_stopsSight_5 rfl (lv_at hl 0 rfl) ?_
    refine lv_iconst (v := 2) hx hb dX4_stopsSight_6 (by decide) ?_
    refine lv_icmp_ne (tgt := 14) hx hb dX4_stopsSight_7 (by decide) (fun c_7 => ?_) (fun c_7 => ?_)
    · refine lv_iconst (v := 0) hx hb dX4_stopsSight_14 (by decide) ?_
      exact W.zret (v := 0) hx hb hr rfl (fun t ht _ => ⟨_, rfl, by first | rfl | (simp only [stopsB, if_neg c_2, if_neg c_7]; done) | (simp only [stopsB, if_neg c_2, if_neg c_7]; rfl) | (simp [stopsB, c_2, c_7]; done) | (simp [stopsB, c_2, c_7]; rfl), ht⟩) hnil dX4_stopsSight_15
    · refine lv_iconst (v := 1) hx hb dX4_stopsSight_10 (by decide) ?_
      refine lv_goto (tgt := 15) hx hb dX4_stopsSight_11 (by decide) ?_
      exact W.zret (v := 1) hx hb hr rfl (fun t ht _ => ⟨_, rfl, by first | rfl | (simp only [stopsB, if_neg c_2, if_pos c_7]; done) | (simp only [stopsB, if_neg c_2, if_pos c_7]; rfl) | (simp [stopsB, c_2, c_7]; done) | (simp [stopsB, c_2, c_7]; rfl), ht⟩) hnil dX4_stopsSight_15

set_option maxHeartbeats 4000000 in
set_option maxRecDepth 100000 in
theorem c_X4_isEdge (l : Launch) (x : Int32) : Met l yX4_isEdge wsX4_isEdge ({ frames := 0, cells := 0, slots := 0, locals := 0 } : Room) (va_Pc [.int x] (fun _ => True)) (vp_Si (fun r => r = bi (edgeB x))) 0 0 (fun _ => False) := by
  refine Met.ofW (cc := cX4_isEdge) (maxL := 3) (ret := (some .boolean)) (by decide) rfl ?_
  intro p e s m args below meth c s₁ B hml hv
  obtain ⟨rfl, -⟩ := hv
  have hx := B.exec
  have hb := B.bytes
  have hr := B.returns
  have hts := atoms_spec (ws := wsX4_isEdge) B.pre
  have hown : s.vm.findClass RX4 = some m.cls := findClass_of_methodNamed B.named
  have hlocks := B.notSynchronized
  have hl := lv_entry ([.int x]) (n := 3) (Nat.le_of_ble_eq_true rfl)
  rw [lg_entry_eq]
  generalize (lg_sl ([.int x]) ++ List.replicate (3 - (lg_sl ([.int x])).length) Slot.unset).toArray = ls at hl ⊢
  have hl : lv_has ls 3 [(0, .int x)] := hl
  refine lv_iload_n hx hb dX4_isEdge_0 rfl (lv_at hl 0 rfl) ?_
  refine lv_bipush (v := 16) hx hb dX4_isEdge_1 (by decide) ?_
  refine lv_irem hx hb dX4_isEdge_3 (by decide) ?_
  refine lv_istore_n (lv' := [(1, .int (remI x 16)), (0, .int x)]) hx hb dX4_isEdge_4 rfl hl (by decide) rfl (fun ls hl => ?_)
  refine lv_iload_n hx hb dX4_isEdge_5 rfl (lv_at hl 1 rfl) ?_
  refine lv_bipush (v := 16) hx hb dX4_isEdge_6 (by decide) ?_
  refine lv_idiv hx hb dX4_isEdge_8 (by decide) ?_
  refine lv_istore_n (lv' := [(2, .int (x / 16)), (1, .int (remI x 16)), (0, .int x)]) hx hb dX4_isEdge_9 rfl hl (by decide) rfl (fun ls hl => ?_)
  refine lv_iload_n hx hb dX4_isEdge_10 rfl (lv_at hl 1 rfl) ?_
  refine lv_if_eq (tgt := 30) hx hb dX4_isEdge_11 (by decide) (fun c_11 => ?_) (fun c_11 => ?_)
  · refine lv_iconst (v := 1) hx hb dX4_isEdge_30 (by decide) ?_
    refine lv_goto (tgt := 35) hx hb dX4_isEdge_31 (by decide) ?_
    exact W.zret (v := 1) hx hb hr rfl (fun t ht _ => ⟨_, rfl, by first | rfl | (simp only [edgeB, colI, rowI, if_pos c_11]; done) | (simp only [edgeB, colI, rowI, if_pos c_11]; rfl) | (simp [edgeB, colI, rowI, c_11]; done) | (simp [edgeB, colI, rowI, c_11]; rfl), ht⟩) hnil dX4_isEdge_35
  · refine lv_iload_n hx hb dX4_isEdge_14 rfl (lv_at hl 1 rfl) ?_
    refine lv_bipush (v := 15) hx hb dX4_isEdge_15 (by decide) ?_
    refine lv_icmp_eq (tgt := 30) hx hb dX4_isEdge_17 (by decide) (fun c_17 => ?_) (fun c_17 => ?_)
    · refine lv_iconst (v := 1) hx hb dX4_isEdge_30 (by decide) ?_
      refine lv_goto (tgt := 35) hx hb dX4_isEdge_31 (by decide) ?_
      exact W.zret (v := 1) hx hb hr rfl (fun t ht _ => ⟨_, rfl, by first | rfl | (simp only [edgeB, colI, rowI, if_neg c_11, if_pos c_17]; done) | (simp only [edgeB, colI, rowI, if_neg c_11, if_pos c_17]; rfl) | (simp [edgeB, colI, rowI, c_11, c_17]; done) | (simp [edgeB, colI, rowI, c_11, c_17]; rfl), ht⟩) hnil dX4_isEdge_35
    · refine lv_iload_n hx hb dX4_isEdge_20 rfl (lv_at hl 0 rfl) ?_
      refine lv_if_eq (tgt := 30) hx hb dX4_isEdge_21 (by decide) (fun c_21 => ?_) (fun c_21 => ?_)
      · refine lv_iconst (v := 1) hx hb dX4_isEdge_30 (by decide) ?_
        refine lv_goto (tgt := 35) hx hb dX4_isEdge_31 (by decide) ?_
        exact W.zret (v := 1) hx hb hr rfl (fun t ht _ => ⟨_, rfl, by first | rfl | (simp only [edgeB, colI, rowI, if_neg c_11, if_neg c_17, if_pos c_21]; done) | (simp only [edgeB, colI, rowI, if_neg c_11, if_neg c_17, if_pos c_21]; rfl) | (simp [edgeB, colI, rowI, c_11, c_17, c_21]; done) | (simp [edgeB, colI, rowI, c_11, c_17, c_21]; rfl), ht⟩) hnil dX4_isEdge_35
      · refine lv_iload_n hx hb dX4_isEdge_24 rfl (lv_at hl 0 rfl) ?_
        refine lv_bipush (v := 9) hx hb dX4_isEdge_25 (by decide) ?_
        refine lv_icmp_ne (tgt := 34) hx hb dX4_isEdge_27 (by decide) (fun c_27 => ?_) (fun c_27 => ?_)
        · refine lv_iconst (v := 0) hx hb dX4_isEdge_34 (by decide) ?_
          exact W.zret (v := 0) hx hb hr rfl (fun t ht _ => ⟨_, rfl, by first | rfl | (simp only [edgeB, colI, rowI, if_neg c_11, if_neg c_17, if_neg c_21, if_neg c_27]; done) | (simp only [edgeB, colI, rowI, if_neg c_11, if_neg c_17, if_neg c_21, if_neg c_27]; rfl) | (simp [edgeB, colI, rowI, c_11, c_17, c_21, c_27]; done) | (simp [edgeB, colI, rowI, c_11, c_17, c_21, c_27]; rfl), ht⟩) hnil dX4_isEdge_35
        · refine lv_iconst (v := 1) hx hb dX4_isEdge_30 (by decide) ?_
          refine lv_goto (tgt := 35) hx hb dX4_isEdge_31 (by decide) ?_
          exact W.zret (v := 1) hx hb hr rfl (fun t ht _ => ⟨_, rfl, by first | rfl | (simp only [edgeB, colI, rowI, if_neg c_11, if_neg c_17, if_neg c_21, if_pos c_27]; done) | (simp only [edgeB, colI, rowI, if_neg c_11, if_neg c_17, if_neg c_21, if_pos c_27]; rfl) | (simp [edgeB, colI, rowI, c_11, c_17, c_21, c_27]; done) | (simp [edgeB, colI, rowI, c_11, c_17, c_21, c_27]; rfl), ht⟩) hnil dX4_isEdge_35

set_option maxHeartbeats 4000000 in
set_option maxRecDepth 100000 in
theorem c_J9_floorDiv_7cf53 (l : Launch) (x y : Int32) (hy : ¬ y = 0) : Met l yJ9_floorDiv_7cf53 wsJ9_floorDiv_7cf53 ({ frames := 0, cells := 0, slots := 0, locals := 0 } : Room) (va_Pc [.int x, .int y] (fun _ => True)) (vp_Si (fun r => r = floorF x y)) 0 0 (fun _ => False) := by
  refine w_ofWF (cc := cJ9_floorDiv_7cf53) (maxL := 3) (ret := (some .int)) (by decide +kernel) rfl ?_
  intro p e s m args below meth c s₁ B hml hv
  obtain ⟨rfl, -⟩ := hv
  have hx := B.exec
  have hb := B.bytes
  have hr := B.returns
  have hts := atoms_spec (ws := wsJ9_floorDiv_7cf53) B.pre
  have hown : s.vm.findClass RJ9 = some m.cls := findClass_of_methodNamed B.named
  have hlocks := B.notSynchronized
  have hl := lv_entry ([.int x, .int y]) (n := 3) (Nat.le_of_ble_eq_true rfl)
  rw [lg_entry_eq]
  generalize (lg_sl ([.int x, .int y]) ++ List.replicate (3 - (lg_sl ([.int x, .int y])).length) Slot.unset).toArray = ls at hl ⊢
  have hl : lv_has ls 3 [(0, .int x), (1, .int y)] := hl
  refine lv_iload_n hx hb dJ9_floorDiv_7cf53_0 rfl (lv_at hl 0 rfl) ?_
  refine lv_iload_n hx hb dJ9_floorDiv_7cf53_1 rfl (lv_at hl 1 rfl) ?_
  refine lv_idiv hx hb dJ9_floorDiv_7cf53_2 hy ?_
  refine lv_istore_n (lv' := [(2, .int (x / y)), (0, .int x), (1, .int y)]) hx hb dJ9_floorDiv_7cf53_3 rfl hl (by decide) rfl (fun ls hl => ?_)
  refine lv_iload_n hx hb dJ9_floorDiv_7cf53_4 rfl (lv_at hl 1 rfl) ?_
  refine lv_iload_n hx hb dJ9_floorDiv_7cf53_5 rfl (lv_at hl 2 rfl) ?_
  refine lv_ixor hx hb dJ9_floorDiv_7cf53_6 ?_
  refine lv_if_ge (tgt := 21) hx hb dJ9_floorDiv_7cf53_7 (by decide) (fun c_7 => ?_) (fun c_7 => ?_)
  · refine lv_iload_n hx hb dJ9_floorDiv_7cf53_21 rfl (lv_at hl 0 rfl) ?_
    exact W.iret (v := (x / y)) hx hb hr (fun t ht _ => ⟨_, rfl, by first | rfl | (simp only [floorF, if_pos c_7]; done) | (simp only [floorF, if_pos c_7]; rfl) | (simp [floorF, c_7]; done) | (simp [floorF, c_7]; rfl), ht⟩) hnil dJ9_floorDiv_7cf53_22
  · refine lv_iload_n hx hb dJ9_floorDiv_7cf53_10 rfl (lv_at hl 0 rfl) ?_
    refine lv_iload_n hx hb dJ9_floorDiv_7cf53_11 rfl (lv_at hl 2 rfl) ?_
    refine lv_imul hx hb dJ9_floorDiv_7cf53_12 ?_
    refine lv_iload_n hx hb dJ9_floorDiv_7cf53_13 rfl (lv_at hl 1 rfl) ?_
    refine lv_icmp_eq (tgt := 21) hx hb dJ9_floorDiv_7cf53_14 (by decide) (fun c_14 => ?_) (fun c_14 => ?_)
    · refine lv_iload_n hx hb dJ9_floorDiv_7cf53_21 rfl (lv_at hl 0 rfl) ?_
      exact W.iret (v := (x / y)) hx hb hr (fun t ht _ => ⟨_, rfl, by first | rfl | (simp only [floorF, if_neg c_7, if_pos c_14]; done) | (simp only [floorF, if_neg c_7, if_pos c_14]; rfl) | (simp [floorF, c_7, c_14]; done) | (simp [floorF, c_7, c_14]; rfl), ht⟩) hnil dJ9_floorDiv_7cf53_22
    · refine lv_iload_n hx hb dJ9_floorDiv_7cf53_17 rfl (lv_at hl 0 rfl) ?_
      refine lv_iconst (v := 1) hx hb dJ9_floorDiv_7cf53_18 (by decide) ?_
      refine lv_isub hx hb dJ9_floorDiv_7cf53_19 ?_
      exact W.iret (v := ((x / y) - 1)) hx hb hr (fun t ht _ => ⟨_, rfl, by first | rfl | (simp only [floorF, if_neg c_7, if_neg c_14]; done) | (simp only [floorF, if_neg c_7, if_neg c_14]; rfl) | (simp [floorF, c_7, c_14]; done) | (simp [floorF, c_7, c_14]; rfl), ht⟩) hnil dJ9_floorDiv_7cf53_20

set_option maxHeartbeats 4000000 in
set_option maxRecDepth 100000 in
theorem c_X2_apart (l : Launch) (x y : Int32) : Met l yX2_apart wsX2_apart ({ frames := 1, cells := 0, slots := 0, locals := 13 } : Room) (va_Pc [.int x, .int y] (fun _ => True)) (vp_Si (fun r => r = apartF x y)) 0 0 (fun _ => False) := by
  refine Met.ofW (cc := cX2_apart) (maxL := 4) (ret := (some .int)) (by decide) rfl ?_
  intro p e s m args below meth c s₁ B hml hv
  obtain ⟨rfl, -⟩ := hv
  have hx := B.exec
  have hb := B.bytes
  have hr := B.returns
  have hts := atoms_spec (ws := wsX2_apart) B.pre
  have hown : s.vm.findClass RX2 = some m.cls := findClass_of_methodNamed B.named
  have hlocks := B.notSynchronized
  have hl := lv_entry ([.int x, .int y]) (n := 4) (Nat.le_of_ble_eq_true rfl)
  rw [lg_entry_eq]
  generalize (lg_sl ([.int x, .int y]) ++ List.replicate (4 - (lg_sl ([.int x, .int y])).length) Slot.unset).toArray = ls at hl ⊢
  have hl : lv_has ls 4 [(0, .int x), (1, .int y)] := hl
  refine lv_iload_n hx hb dX2_apart_0 rfl (lv_at hl 1 rfl) ?_
  refine lv_bipush (v := 16) hx hb dX2_apart_1 (by decide) ?_
  refine lv_irem hx hb dX2_apart_3 (by decide) ?_
  refine lv_iload_n hx hb dX2_apart_4 rfl (lv_at hl 0 rfl) ?_
  refine lv_bipush (v := 16) hx hb dX2_apart_5 (by decide) ?_
  refine lv_irem hx hb dX2_apart_7 (by decide) ?_
  refine lv_isub hx hb dX2_apart_8 ?_
  refine va_mabs hx hb (hml.trans hl.1.symm) hown (hts (.methodLink RX2 61 Lib.Math.abs.name) (by decide +kernel)) (hts (.static Lib.Math.abs.name) (by decide +kernel)) (hts (.initialized "java/lang/Math") (by decide +kernel)) (hts (.code Lib.Math.abs.name Lib.Math.abs.code 1 (some .int)) (by decide +kernel)) (Nat.le_of_ble_eq_true rfl) (Nat.le_of_ble_eq_true rfl) (Nat.zero_le _) (Nat.zero_le _) dX2_apart_9 ?_
  refine lv_istore_n (lv' := [(2, .int (absI ((remI y 16) - (remI x 16)))), (0, .int x), (1, .int y)]) hx hb dX2_apart_12 rfl hl (by decide) rfl (fun ls hl => ?_)
  refine lv_iload_n hx hb dX2_apart_13 rfl (lv_at hl 2 rfl) ?_
  refine lv_bipush (v := 16) hx hb dX2_apart_14 (by decide) ?_
  refine lv_idiv hx hb dX2_apart_16 (by decide) ?_
  refine lv_iload_n hx hb dX2_apart_17 rfl (lv_at hl 1 rfl) ?_
  refine lv_bipush (v := 16) hx hb dX2_apart_18 (by decide) ?_
  refine lv_idiv hx hb dX2_apart_20 (by decide) ?_
  refine lv_isub hx hb dX2_apart_21 ?_
  refine va_mabs hx hb (hml.trans hl.1.symm) hown (hts (.methodLink RX2 61 Lib.Math.abs.name) (by decide +kernel)) (hts (.static Lib.Math.abs.name) (by decide +kernel)) (hts (.initialized "java/lang/Math") (by decide +kernel)) (hts (.code Lib.Math.abs.name Lib.Math.abs.code 1 (some .int)) (by decide +kernel)) (Nat.le_of_ble_eq_true rfl) (Nat.le_of_ble_eq_true rfl) (Nat.zero_le _) (Nat.zero_le _) dX2_apart_22 ?_
  refine lv_istore_n (lv' := [(3, .int (absI ((y / 16) - (x / 16)))), (2, .int (absI ((remI y 16) - (remI x 16)))), (0, .int x), (1, .int y)]) hx hb dX2_apart_25 rfl hl (by decide) rfl (fun ls hl => ?_)
  refine lv_iload_n hx hb dX2_apart_26 rfl (lv_at hl 1 rfl) ?_
  refine lv_iload_n hx hb dX2_apart_27 rfl (lv_at hl 0 rfl) ?_
  refine va_mmax hx hb (hml.trans hl.1.symm) hown (hts (.methodLink RX2 66 Lib.Math.max.name) (by decide +kernel)) (hts (.static Lib.Math.max.name) (by decide +kernel)) (hts (.initialized "java/lang/Math") (by decide +kernel)) (hts (.code Lib.Math.max.name Lib.Math.max.code 2 (some .int)) (by decide +kernel)) (Nat.le_of_ble_eq_true rfl) (Nat.le_of_ble_eq_true rfl) (Nat.zero_le _) (Nat.zero_le _) dX2_apart_28 ?_
  exact W.iret (v := (maxI (absI ((remI y 16) - (remI x 16))) (absI ((y / 16) - (x / 16))))) hx hb hr (fun t ht _ => ⟨_, rfl, by first | rfl | (simp only [apartF, colI, rowI]; done) | (simp only [apartF, colI, rowI]; rfl) | (simp [apartF, colI, rowI]; done) | (simp [apartF, colI, rowI]; rfl), ht⟩) hnil dX2_apart_31

set_option maxHeartbeats 4000000 in
set_option maxRecDepth 100000 in
theorem c_X2_nearest (l : Launch) (x : Int32) (j : Nat) (hj : j ≤ 7) : Met l yX2_nearest wsX2_nearest ({ frames := 1, cells := 0, slots := 0, locals := 22 } : Room) (va_Pc [.int x, .int (nI j)] (fun _ => True)) (vp_Si (fun r => r = nearF x (nI j))) 0 0 (fun _ => False) := by
  refine Met.ofW (cc := cX2_nearest) (maxL := 2) (ret := (some .int)) (by decide) rfl ?_
  intro p e s m args below meth c s₁ B hml hv
  obtain ⟨rfl, -⟩ := hv
  have hx := B.exec
  have hb := B.bytes
  have hr := B.returns
  have hts := atoms_spec (ws := wsX2_nearest) B.pre
  have hown : s.vm.findClass RX2 = some m.cls := findClass_of_methodNamed B.named
  have hlocks := B.notSynchronized
  have hl := lv_entry ([.int x, .int (nI j)]) (n := 2) (Nat.le_of_ble_eq_true rfl)
  rw [lg_entry_eq]
  generalize (lg_sl ([.int x, .int (nI j)]) ++ List.replicate (2 - (lg_sl ([.int x, .int (nI j)])).length) Slot.unset).toArray = ls at hl ⊢
  have hl : lv_has ls 2 [(0, .int x), (1, .int (nI j))] := hl
  refine lv_iload_n hx hb dX2_nearest_0 rfl (lv_at hl 1 rfl) ?_
  refine lv_if_le (tgt := 18) hx hb dX2_nearest_1 (by decide) (fun c_1 => ?_) (fun c_1 => ?_)
  · refine lv_iconst (v := 0) hx hb dX2_nearest_18 (by decide) ?_
    exact W.iret (v := 0) hx hb hr (fun t ht _ => ⟨_, rfl, by first | rfl | (simp only [nearF, if_pos c_1]; done) | (simp only [nearF, if_pos c_1]; rfl) | (simp [nearF, c_1]; done) | (simp [nearF, c_1]; rfl), ht⟩) hnil dX2_nearest_19
  · refine lv_iconst (v := 2) hx hb dX2_nearest_4 (by decide) ?_
    refine lv_iload_n hx hb dX2_nearest_5 rfl (lv_at hl 0 rfl) ?_
    refine lv_imul hx hb dX2_nearest_6 ?_
    refine lv_iload_n hx hb dX2_nearest_7 rfl (lv_at hl 1 rfl) ?_
    refine lv_iadd hx hb dX2_nearest_8 ?_
    refine lv_iconst (v := 2) hx hb dX2_nearest_9 (by decide) ?_
    refine lv_iload_n hx hb dX2_nearest_10 rfl (lv_at hl 1 rfl) ?_
    refine lv_imul hx hb dX2_nearest_11 ?_
    refine vp_callSi (va_Run.run (va_runS (As := [.int ((2 * x) + (nI j)), .int (2 * (nI j))]) (rest := []) ⟨hx, hb, hml, hown, hts⟩ (c_J9_floorDiv_7cf53 l ((2 * x) + (nI j)) (2 * (nI j)) (nz2 (by assumption) hj)) (va_cwS 2 hts gX2_nearest_J9_floorDiv_7cf53 rfl rfl rfl (by decide +kernel) ⟨Nat.le_of_ble_eq_true rfl, Nat.le_of_ble_eq_true rfl⟩) ⟨fun _ _ _ _ q => q, fun _ _ _ => ⟨rfl, trivial⟩⟩ rfl rfl hl.1 rfl (lv_room (Nat.le_of_ble_eq_true rfl)) dX2_nearest_12 ⟨Nat.zero_le _, Nat.zero_le _⟩)) (fun r hr9 => ?_)
    subst hr9
    refine lv_goto (tgt := 19) hx hb dX2_nearest_15 (by decide) ?_
    exact W.iret (v := (floorF ((2 * x) + (nI j)) (2 * (nI j)))) hx hb hr (fun t ht _ => ⟨_, rfl, by first | rfl | (simp only [nearF, if_neg c_1]; done) | (simp only [nearF, if_neg c_1]; rfl) | (simp [nearF, c_1]; done) | (simp [nearF, c_1]; rfl), ht⟩) hnil dX2_nearest_19

set_option maxHeartbeats 4000000 in
set_option maxRecDepth 100000 in
theorem c_X2_isSeenFrom (l : Launch) (D : va_G) (cI : ClassId) (a : Nat → Nat) (σ : SS) (x y : Int32) : Met l yX2_isSeenFrom wsX2_isSeenFrom ({ frames := 2, cells := 0, slots := 0, locals := 43 } : Room) (va_Pc [.ref (a 0), .int x, .int y] (preR D cI (sW cI a σ))) (vp_Si (fun r => r = bi (seenB σ x y))) 0 0 (fun _ => False) := by
  refine Met.ofW (cc := cX2_isSeenFrom) (maxL := 8) (ret := (some .boolean)) (by decide) rfl ?_
  intro p e s m args below meth c s₁ B hml hv
  obtain ⟨rfl, hP, hK, hE⟩ := hv
  have hx := B.exec
  have hb := B.bytes
  have hr := B.returns
  have hts := atoms_spec (ws := wsX2_isSeenFrom) B.pre
  have hown : s.vm.findClass RX2 = some m.cls := findClass_of_methodNamed B.named
  have hlocks := B.notSynchronized
  have hl := lv_entry ([.ref (a 0), .int x, .int y]) (n := 8) (Nat.le_of_ble_eq_true rfl)
  rw [lg_entry_eq]
  generalize (lg_sl ([.ref (a 0), .int x, .int y]) ++ List.replicate (8 - (lg_sl ([.ref (a 0), .int x, .int y])).length) Slot.unset).toArray = ls at hl ⊢
  have hl : lv_has ls 8 [(0, .ref (a 0)), (1, .int x), (2, .int y)] := hl
  refine lv_iload_n hx hb dX2_isSeenFrom_0 rfl (lv_at hl 1 rfl) ?_
  refine lv_iload_n hx hb dX2_isSeenFrom_1 rfl (lv_at hl 2 rfl) ?_
  refine vp_callSi (va_Run.run (va_runS (As := [.int x, .int y]) (rest := []) ⟨hx, hb, hml, hown, hts⟩ (c_X2_apart l x y) (va_cwS 2 hts gX2_isSeenFrom_X2_apart rfl rfl rfl (by decide +kernel) ⟨Nat.le_of_ble_eq_true rfl, Nat.le_of_ble_eq_true rfl⟩) ⟨fun _ _ _ _ q => q, fun _ _ _ => ⟨rfl, trivial⟩⟩ rfl rfl hl.1 rfl (lv_room (Nat.le_of_ble_eq_true rfl)) dX2_isSeenFrom_2 ⟨Nat.zero_le _, Nat.zero_le _⟩)) (fun r hr9 => ?_)
  subst hr9
  refine lv_istore_n (lv' := [(3, .int (apartF x y)), (0, .ref (a 0)), (1, .int x), (2, .int y)]) hx hb dX2_isSeenFrom_5 rfl hl (by decide) rfl (fun ls hl => ?_)
  refine lv_iload_n hx hb dX2_isSeenFrom_6 rfl (lv_at hl 0 rfl) ?_
  refine lv_bipush (v := 7) hx hb dX2_isSeenFrom_7 (by decide) ?_
  refine lv_icmp_le (tgt := 14) hx hb dX2_isSeenFrom_9 (by decide) (fun c_9 => ?_) (fun c_9 => ?_)
  · obtain ⟨j, hj, ej⟩ := apart_le c_9
    rw [ej] at hl
    have hsp0 : seenB σ x y = seenL σ x y (nI j) (j - 1) 1 := by unfold seenB; rw [if_pos c_9, ej, nI_clamp (by omega)]
    refine lv_iload_n hx hb dX2_isSeenFrom_14 rfl (lv_at hl 3 rfl) ?_
    refine lv_bipush (v := 16) hx hb dX2_isSeenFrom_15 (by decide) ?_
    refine lv_irem hx hb dX2_isSeenFrom_17 (by decide) ?_
    refine lv_iload_n hx hb dX2_isSeenFrom_18 rfl (lv_at hl 2 rfl) ?_
    refine lv_bipush (v := 16) hx hb dX2_isSeenFrom_19 (by decide) ?_
    refine lv_irem hx hb dX2_isSeenFrom_21 (by decide) ?_
    refine lv_isub hx hb dX2_isSeenFrom_22 ?_
    refine lv_istore (lv' := [(4, .int ((remI y 16) - (remI x 16))), (3, .int (nI j)), (0, .ref (a 0)), (1, .int x), (2, .int y)]) hx hb dX2_isSeenFrom_23 hl (by decide) rfl (fun ls hl => ?_)
    refine lv_iload_n hx hb dX2_isSeenFrom_25 rfl (lv_at hl 4 rfl) ?_
    refine lv_bipush (v := 16) hx hb dX2_isSeenFrom_26 (by decide) ?_
    refine lv_idiv hx hb dX2_isSeenFrom_28 (by decide) ?_
    refine lv_iload_n hx hb dX2_isSeenFrom_29 rfl (lv_at hl 3 rfl) ?_
    refine lv_bipush (v := 16) hx hb dX2_isSeenFrom_30 (by decide) ?_
    refine lv_idiv hx hb dX2_isSeenFrom_32 (by decide) ?_
    refine lv_isub hx hb dX2_isSeenFrom_33 ?_
    refine lv_istore (lv' := [(5, .int ((y / 16) - (x / 16))), (4, .int ((remI y 16) - (remI x 16))), (3, .int (nI j)), (0, .ref (a 0)), (1, .int x), (2, .int y)]) hx hb dX2_isSeenFrom_34 hl (by decide) rfl (fun ls hl => ?_)
    refine lv_iconst (v := 1) hx hb dX2_isSeenFrom_36 (by decide) ?_
    refine lv_istore (lv' := [(6, .int 1), (5, .int ((y / 16) - (x / 16))), (4, .int ((remI y 16) - (remI x 16))), (3, .int (nI j)), (0, .ref (a 0)), (1, .int x), (2, .int y)]) hx hb dX2_isSeenFrom_37 hl (by decide) rfl (fun ls hl => ?_)
    have L39 : ∀ (n k : Nat) (hk : n = j - k) (hk1 : 1 ≤ k) (hk2 : k ≤ 8) (hsp : seenB σ x y = seenL σ x y (nI j) n k) (ls : Array Slot), lv_has ls 8 [(6, .int (nI k)), (5, .int ((y / 16) - (x / 16))), (4, .int ((remI y 16) - (remI x 16))), (3, .int (nI j)), (0, .ref (a 0)), (1, .int x), (2, .int y)] → W p l e ({ frames := 2, cells := 0, slots := 0, locals := 43 } : Room) s m ([.ref (a 0), .int x, .int y] : List Value).toArray below meth c s.heap [] 0 0 (MQ below (vp_Si (fun r => r = bi (seenB σ x y))) ([.ref (a 0), .int x, .int y] : List Value).toArray s 0 0 (fun _ => False)) (F0 m 39 ls []) := by
      intro n
      induction n with
      | zero =>
        intro k hk hk1 hk2 hsp ls hl
        refine lv_iload hx hb dX2_isSeenFrom_39 (lv_at hl 0 rfl) ?_
        refine lv_iload_n hx hb dX2_isSeenFrom_41 rfl (lv_at hl 3 rfl) ?_
        refine lv_icmp_ge (tgt := 91) hx hb dX2_isSeenFrom_42 (by decide) (fun c_42 => ?_) (fun c_42 => absurd (nI_le (by omega) (by omega)) c_42)
        refine lv_iconst (v := 1) hx hb dX2_isSeenFrom_91 (by decide) ?_
        exact W.zret (v := 1) hx hb hr rfl (fun t ht _ => ⟨_, rfl, by rw [hsp]; rfl, ht⟩) hnil dX2_isSeenFrom_92
      | succ n ih39 =>
        intro k hk hk1 hk2 hsp ls hl
        refine lv_iload hx hb dX2_isSeenFrom_39 (lv_at hl 0 rfl) ?_
        refine lv_iload_n hx hb dX2_isSeenFrom_41 rfl (lv_at hl 3 rfl) ?_
        refine lv_icmp_ge (tgt := 91) hx hb dX2_isSeenFrom_42 (by decide) (fun c_42 => absurd c_42 (nI_ge (by omega) (by omega))) (fun c_42 => ?_)
        refine lv_iload_n hx hb dX2_isSeenFrom_45 rfl (lv_at hl 5 rfl) ?_
        refine lv_iload hx hb dX2_isSeenFrom_46 (lv_at hl 0 rfl) ?_
        refine lv_iload hx hb dX2_isSeenFrom_48 (lv_at hl 2 rfl) ?_
        refine lv_imul hx hb dX2_isSeenFrom_50 ?_
        refine lv_iload_n hx hb dX2_isSeenFrom_51 rfl (lv_at hl 3 rfl) ?_
        refine vp_callSi (va_Run.run (va_runS (As := [.int ((nI k) * ((remI y 16) - (remI x 16))), .int (nI j)]) (rest := [.int x]) ⟨hx, hb, hml, hown, hts⟩ (c_X2_nearest l ((nI k) * ((remI y 16) - (remI x 16))) j hj) (va_cwS 2 hts gX2_isSeenFrom_X2_nearest rfl rfl rfl (by decide +kernel) ⟨Nat.le_of_ble_eq_true rfl, Nat.le_of_ble_eq_true rfl⟩) ⟨fun _ _ _ _ q => q, fun _ _ _ => ⟨rfl, trivial⟩⟩ rfl rfl hl.1 rfl (lv_room (Nat.le_of_ble_eq_true rfl)) dX2_isSeenFrom_52 ⟨Nat.zero_le _, Nat.zero_le _⟩)) (fun r hr9 => ?_)
        subst hr9
        refine lv_iadd hx hb dX2_isSeenFrom_55 ?_
        refine lv_bipush (v := 16) hx hb dX2_isSeenFrom_56 (by decide) ?_
        refine lv_iload hx hb dX2_isSeenFrom_58 (lv_at hl 0 rfl) ?_
        refine lv_iload hx hb dX2_isSeenFrom_60 (lv_at hl 1 rfl) ?_
        refine lv_imul hx hb dX2_isSeenFrom_62 ?_
        refine lv_iload_n hx hb dX2_isSeenFrom_63 rfl (lv_at hl 3 rfl) ?_
        refine vp_callSi (va_Run.run (va_runS (As := [.int ((nI k) * ((y / 16) - (x / 16))), .int (nI j)]) (rest := [.int 16, .int (x + (nearF ((nI k) * ((remI y 16) - (remI x 16))) (nI j)))]) ⟨hx, hb, hml, hown, hts⟩ (c_X2_nearest l ((nI k) * ((y / 16) - (x / 16))) j hj) (va_cwS 2 hts gX2_isSeenFrom_X2_nearest rfl rfl rfl (by decide +kernel) ⟨Nat.le_of_ble_eq_true rfl, Nat.le_of_ble_eq_true rfl⟩) ⟨fun _ _ _ _ q => q, fun _ _ _ => ⟨rfl, trivial⟩⟩ rfl rfl hl.1 rfl (lv_room (Nat.le_of_ble_eq_true rfl)) dX2_isSeenFrom_64 ⟨Nat.zero_le _, Nat.zero_le _⟩)) (fun r hr9 => ?_)
        subst hr9
        refine lv_imul hx hb dX2_isSeenFrom_67 ?_
        refine lv_iadd hx hb dX2_isSeenFrom_68 ?_
        refine lv_istore (lv' := [(7, .int ((x + (nearF ((nI k) * ((remI y 16) - (remI x 16))) (nI j))) + (16 * (nearF ((nI k) * ((y / 16) - (x / 16))) (nI j))))), (6, .int (nI k)), (5, .int ((y / 16) - (x / 16))), (4, .int ((remI y 16) - (remI x 16))), (3, .int (nI j)), (0, .ref (a 0)), (1, .int x), (2, .int y)]) hx hb dX2_isSeenFrom_69 hl (by decide) rfl (fun ls hl => ?_)
        refine lv_aload_n hx hb dX2_isSeenFrom_71 rfl (lv_at hl 5 rfl) ?_
        refine lv_iload hx hb dX2_isSeenFrom_72 (lv_at hl 0 rfl) ?_
        refine vp_callSi (va_Run.run (va_runV (As := [.int ((x + (nearF ((nI k) * ((remI y 16) - (remI x 16))) (nI j))) + (16 * (nearF ((nI k) * ((y / 16) - (x / 16))) (nI j))))]) (rest := []) ⟨hx, hb, hml, hown, hts⟩ (c_X2_kindAt l D cI a σ ((x + (nearF ((nI k) * ((remI y 16) - (remI x 16))) (nI j))) + (16 * (nearF ((nI k) * ((y / 16) - (x / 16))) (nI j))))) (cwV 1 hts gX2_isSeenFrom_X2_kindAt rfl rfl rfl (by decide +kernel) ⟨Nat.le_of_ble_eq_true rfl, Nat.le_of_ble_eq_true rfl⟩) ⟨preR_blind, va_recv hK hP (ci := 2) (q0 := 0) rfl rfl, preR_of hP hK hE [.ref (a 0), .int ((x + (nearF ((nI k) * ((remI y 16) - (remI x 16))) (nI j))) + (16 * (nearF ((nI k) * ((y / 16) - (x / 16))) (nI j))))]⟩ rfl rfl hl.1 rfl (lv_room (Nat.le_of_ble_eq_true rfl)) dX2_isSeenFrom_74 ⟨Nat.zero_le _, Nat.zero_le _⟩)) (fun r hr9 => ?_)
        subst hr9
        refine vp_callSi (va_Run.run (va_runSN (As := [.int (kindF σ ((x + (nearF ((nI k) * ((remI y 16) - (remI x 16))) (nI j))) + (16 * (nearF ((nI k) * ((y / 16) - (x / 16))) (nI j)))))]) (rest := []) ⟨hx, hb, hml, hown, hts⟩ (c_X4_stopsSight l (kindF σ ((x + (nearF ((nI k) * ((remI y 16) - (remI x 16))) (nI j))) + (16 * (nearF ((nI k) * ((y / 16) - (x / 16))) (nI j)))))) ⟨va_cnB 1 hts gX2_isSeenFrom_X4_stopsSight_n79 rfl rfl rfl hE.2.1 (hts _ (by decide +kernel : Cond.initialized yX4_stopsSight.cls ∈ _)) (by decide +kernel) ⟨Nat.le_of_ble_eq_true rfl, Nat.le_of_ble_eq_true rfl⟩, (hts _ (by decide +kernel : Cond.static yX4_stopsSight ∈ _)), trivial⟩ ⟨fun _ _ _ _ q => q, fun _ _ _ => ⟨rfl, trivial⟩⟩ rfl rfl hl.1 rfl (lv_room (Nat.le_of_ble_eq_true rfl)) dX2_isSeenFrom_77 ⟨Nat.zero_le _, Nat.zero_le _⟩)) (fun r hr9 => ?_)
        subst hr9
        refine w_bz (tgt := 85) hx hb dX2_isSeenFrom_80 (by decide) (fun c_80 => ?_) (fun c_80 => ?_)
        · refine lv_iinc (v := (nI (k + 1))) (lv' := [(6, .int (nI (k + 1))), (7, .int ((x + (nearF ((nI k) * ((remI y 16) - (remI x 16))) (nI j))) + (16 * (nearF ((nI k) * ((y / 16) - (x / 16))) (nI j))))), (5, .int ((y / 16) - (x / 16))), (4, .int ((remI y 16) - (remI x 16))), (3, .int (nI j)), (0, .ref (a 0)), (1, .int x), (2, .int y)]) hx hb dX2_isSeenFrom_85 hl (k := 1) rfl (nI_1 k) (by decide) rfl (fun ls hl => ?_)
          refine lv_goto (tgt := 39) hx hb dX2_isSeenFrom_88 (by decide) ?_
          exact ih39 (k + 1) (by omega) (by omega) (by omega) (by rw [hsp]; simp [seenL, lineC, colI, rowI, c_80]) ls (lv_sub hl [0, 2, 3, 4, 5, 6, 7] rfl)
        · refine lv_iconst (v := 0) hx hb dX2_isSeenFrom_83 (by decide) ?_
          exact W.zret (v := 0) hx hb hr rfl (fun t ht _ => ⟨_, rfl, by rw [hsp]; simp [seenL, lineC, colI, rowI, c_80, bi], ht⟩) hnil dX2_isSeenFrom_84
    exact L39 (j - 1) 1 rfl (by omega) (by omega) hsp0 ls (lv_sub hl [0, 1, 2, 3, 4, 5, 6] rfl)
  · refine lv_iconst (v := 0) hx hb dX2_isSeenFrom_12 (by decide) ?_
    exact W.zret (v := 0) hx hb hr rfl (fun t ht _ => ⟨_, rfl, by first | rfl | (simp only [seenB, if_neg c_9]; done) | (simp only [seenB, if_neg c_9]; rfl) | (simp [seenB, c_9]; done) | (simp [seenB, c_9]; rfl), ht⟩) hnil dX2_isSeenFrom_13

set_option maxHeartbeats 4000000 in
set_option maxRecDepth 100000 in
theorem c_X2_isKnown (l : Launch) (D : va_G) (cI : ClassId) (a : Nat → Nat) (σ : SS) (x y : Int32) : Met l yX2_isKnown wsX2_isKnown ({ frames := 0, cells := 0, slots := 0, locals := 0 } : Room) (va_Pc [.ref (a 0), .int x, .int y] (preR D cI (sW cI a σ))) (vp_Si (fun r => r = bi (knownB σ x y))) 0 0 (fun _ => False) := by
  refine Met.ofW (cc := cX2_isKnown) (maxL := 3) (ret := (some .boolean)) (by decide) rfl ?_
  intro p e s m args below meth c s₁ B hml hv
  obtain ⟨rfl, hP, hK, hE⟩ := hv
  have hx := B.exec
  have hb := B.bytes
  have hr := B.returns
  have hts := atoms_spec (ws := wsX2_isKnown) B.pre
  have hown : s.vm.findClass RX2 = some m.cls := findClass_of_methodNamed B.named
  have hlocks := B.notSynchronized
  have hl := lv_entry ([.ref (a 0), .int x, .int y]) (n := 3) (Nat.le_of_ble_eq_true rfl)
  rw [lg_entry_eq]
  generalize (lg_sl ([.ref (a 0), .int x, .int y]) ++ List.replicate (3 - (lg_sl ([.ref (a 0), .int x, .int y])).length) Slot.unset).toArray = ls at hl ⊢
  have hl : lv_has ls 3 [(0, .ref (a 0)), (1, .int x), (2, .int y)] := hl
  refine lv_iload_n hx hb dX2_isKnown_0 rfl (lv_at hl 2 rfl) ?_
  refine lv_if_lt (tgt := 30) hx hb dX2_isKnown_1 (by decide) (fun c_1 => ?_) (fun c_1 => ?_)
  · refine lv_iconst (v := 0) hx hb dX2_isKnown_30 (by decide) ?_
    exact W.zret (v := 0) hx hb hr rfl (fun t ht _ => ⟨_, rfl, by first | rfl | (simp only [knownB, if_pos c_1]; done) | (simp only [knownB, if_pos c_1]; rfl) | (simp [knownB, c_1]; done) | (simp [knownB, c_1]; rfl), ht⟩) hnil dX2_isKnown_31
  · refine lv_iload_n hx hb dX2_isKnown_4 rfl (lv_at hl 2 rfl) ?_
    refine lv_aload_n hx hb dX2_isKnown_5 rfl (lv_at hl 0 rfl) ?_
    refine va_get (D := D) (ci := 2) (v := .ref (a 2)) (C := RX2) (T := TX2) (N := 8) hx hb hts (by decide +kernel) hown hK hP 0 rfl rfl 1 (by decide) (hts (.fieldLink RX2 15 "Warren$State" "known" "[I") (by decide +kernel)) (fun _ h9 => h9) rfl dX2_isKnown_6 ?_
    refine va_alen (v := nI 160) hx hb hK hP 2 0 rfl rfl rfl dX2_isKnown_9 ?_
    refine lv_icmp_ge (tgt := 30) hx hb dX2_isKnown_10 (by decide) (fun c_10 => ?_) (fun c_10 => ?_)
    · refine lv_iconst (v := 0) hx hb dX2_isKnown_30 (by decide) ?_
      exact W.zret (v := 0) hx hb hr rfl (fun t ht _ => ⟨_, rfl, by first | rfl | (simp only [knownB, if_neg c_1, if_pos c_10]; done) | (simp only [knownB, if_neg c_1, if_pos c_10]; rfl) | (simp [knownB, c_1, c_10]; done) | (simp [knownB, c_1, c_10]; rfl), ht⟩) hnil dX2_isKnown_31
    · refine lv_aload_n hx hb dX2_isKnown_13 rfl (lv_at hl 0 rfl) ?_
      refine va_get (D := D) (ci := 2) (v := .ref (a 2)) (C := RX2) (T := TX2) (N := 8) hx hb hts (by decide +kernel) hown hK hP 0 rfl rfl 1 (by decide) (hts (.fieldLink RX2 15 "Warren$State" "known" "[I") (by decide +kernel)) (fun _ h9 => h9) rfl dX2_isKnown_14 ?_
      refine lv_iload_n hx hb dX2_isKnown_17 rfl (lv_at hl 2 rfl) ?_
      refine va_iald hx hb hK hP 2 0 rfl rfl (vin (by decide) (by assumption) (by assumption)) dX2_isKnown_18 ?_
      refine lv_iconst (v := 1) hx hb dX2_isKnown_19 (by decide) ?_
      refine lv_iload_n hx hb dX2_isKnown_20 rfl (lv_at hl 1 rfl) ?_
      refine lv_ishl hx hb dX2_isKnown_21 ?_
      refine lv_iand hx hb dX2_isKnown_22 ?_
      refine lv_if_eq (tgt := 30) hx hb dX2_isKnown_23 (by decide) (fun c_23 => ?_) (fun c_23 => ?_)
      · refine lv_iconst (v := 0) hx hb dX2_isKnown_30 (by decide) ?_
        exact W.zret (v := 0) hx hb hr rfl (fun t ht _ => ⟨_, rfl, by first | rfl | (simp only [knownB, if_neg c_1, if_neg c_10, if_pos c_23]; done) | (simp only [knownB, if_neg c_1, if_neg c_10, if_pos c_23]; rfl) | (simp [knownB, c_1, c_10, c_23]; done) | (simp [knownB, c_1, c_10, c_23]; rfl), ht⟩) hnil dX2_isKnown_31
      · refine lv_iconst (v := 1) hx hb dX2_isKnown_26 (by decide) ?_
        refine lv_goto (tgt := 31) hx hb dX2_isKnown_27 (by decide) ?_
        exact W.zret (v := 1) hx hb hr rfl (fun t ht _ => ⟨_, rfl, by first | rfl | (simp only [knownB, if_neg c_1, if_neg c_10, if_neg c_23]; done) | (simp only [knownB, if_neg c_1, if_neg c_10, if_neg c_23]; rfl) | (simp [knownB, c_1, c_10, c_23]; done) | (simp [knownB, c_1, c_10, c_23]; rfl), ht⟩) hnil dX2_isKnown_31

set_option maxHeartbeats 4000000 in
set_option maxRecDepth 100000 in
theorem c_X2_knownCells (l : Launch) (D : va_G) (cI : ClassId) (a : Nat → Nat) (σ : SS) (x : Int32) : Met l yX2_knownCells wsX2_knownCells ({ frames := 1, cells := 0, slots := 0, locals := 22 } : Room) (va_Pc [.ref (a 0), .int x] (preR D cI (sW cI a σ))) (vp_Si (fun r => r = knownF σ x)) 0 0 (fun _ => False) := by
  refine Met.ofW (cc := cX2_knownCells) (maxL := 4) (ret := (some .int)) (by decide) rfl ?_
  intro p e s m args below meth c s₁ B hml hv
  obtain ⟨rfl, hP, hK, hE⟩ := hv
  have hx := B.exec
  have hb := B.bytes
  have hr := B.returns
  have hts := atoms_spec (ws := wsX2_knownCells) B.pre
  have hown : s.vm.findClass RX2 = some m.cls := findClass_of_methodNamed B.named
  have hlocks := B.notSynchronized
  have hl := lv_entry ([.ref (a 0), .int x]) (n := 4) (Nat.le_of_ble_eq_true rfl)
  rw [lg_entry_eq]
  generalize (lg_sl ([.ref (a 0), .int x]) ++ List.replicate (4 - (lg_sl ([.ref (a 0), .int x])).length) Slot.unset).toArray = ls at hl ⊢
  have hl : lv_has ls 4 [(0, .ref (a 0)), (1, .int x)] := hl
  refine lv_iconst (v := 0) hx hb dX2_knownCells_0 (by decide) ?_
  refine lv_istore_n (lv' := [(2, .int 0), (0, .ref (a 0)), (1, .int x)]) hx hb dX2_knownCells_1 rfl hl (by decide) rfl (fun ls hl => ?_)
  refine lv_iconst (v := 0) hx hb dX2_knownCells_2 (by decide) ?_
  refine lv_istore_n (lv' := [(3, .int 0), (2, .int 0), (0, .ref (a 0)), (1, .int x)]) hx hb dX2_knownCells_3 rfl hl (by decide) rfl (fun ls hl => ?_)
  have L4 : ∀ (n k : Nat) (t : Int32) (hk : k + n = 160) (hsp : knownF σ x = knownL σ x n k t) (ls : Array Slot), lv_has ls 4 [(3, .int (nI k)), (2, .int t), (0, .ref (a 0)), (1, .int x)] → W p l e ({ frames := 1, cells := 0, slots := 0, locals := 22 } : Room) s m ([.ref (a 0), .int x] : List Value).toArray below meth c s.heap [] 0 0 (MQ below (vp_Si (fun r => r = knownF σ x)) ([.ref (a 0), .int x] : List Value).toArray s 0 0 (fun _ => False)) (F0 m 4 ls []) := by
    intro n
    induction n with
    | zero =>
      intro k t hk hsp ls hl
      refine lv_iload_n hx hb dX2_knownCells_4 rfl (lv_at hl 0 rfl) ?_
      refine lv_aload_n hx hb dX2_knownCells_5 rfl (lv_at hl 2 rfl) ?_
      refine va_get (D := D) (ci := 2) (v := .ref (a 2)) (C := RX2) (T := TX2) (N := 8) hx hb hts (by decide +kernel) hown hK hP 0 rfl rfl 1 (by decide) (hts (.fieldLink RX2 15 "Warren$State" "known" "[I") (by decide +kernel)) (fun _ h9 => h9) rfl dX2_knownCells_6 ?_
      refine va_alen (v := nI 160) hx hb hK hP 2 0 rfl rfl rfl dX2_knownCells_9 ?_
      refine lv_icmp_ge (tgt := 31) hx hb dX2_knownCells_10 (by decide) (fun c_10 => ?_) (fun c_10 => absurd (nI_le (by omega) (by omega)) c_10)
      refine lv_iload_n hx hb dX2_knownCells_31 rfl (lv_at hl 1 rfl) ?_
      exact W.iret (v := t) hx hb hr (fun t ht _ => ⟨_, rfl, by rw [hsp]; rfl, ht⟩) hnil dX2_knownCells_32
    | succ n ih4 =>
      intro k t hk hsp ls hl
      refine lv_iload_n hx hb dX2_knownCells_4 rfl (lv_at hl 0 rfl) ?_
      refine lv_aload_n hx hb dX2_knownCells_5 rfl (lv_at hl 2 rfl) ?_
      refine va_get (D := D) (ci := 2) (v := .ref (a 2)) (C := RX2) (T := TX2) (N := 8) hx hb hts (by decide +kernel) hown hK hP 0 rfl rfl 1 (by decide) (hts (.fieldLink RX2 15 "Warren$State" "known" "[I") (by decide +kernel)) (fun _ h9 => h9) rfl dX2_knownCells_6 ?_
      refine va_alen (v := nI 160) hx hb hK hP 2 0 rfl rfl rfl dX2_knownCells_9 ?_
      refine lv_icmp_ge (tgt := 31) hx hb dX2_knownCells_10 (by decide) (fun c_10 => absurd c_10 (nI_ge (by omega) (by omega))) (fun c_10 => ?_)
      refine lv_aload_n hx hb dX2_knownCells_13 rfl (lv_at hl 2 rfl) ?_
      refine lv_iload_n hx hb dX2_knownCells_14 rfl (lv_at hl 3 rfl) ?_
      refine lv_iload_n hx hb dX2_knownCells_15 rfl (lv_at hl 0 rfl) ?_
      refine vp_callSi (va_Run.run (va_runV (As := [.int x, .int (nI k)]) (rest := []) ⟨hx, hb, hml, hown, hts⟩ (c_X2_isKnown l D cI a σ x (nI k)) (cwV 2 hts gX2_knownCells_X2_isKnown rfl rfl rfl (by decide +kernel) ⟨Nat.le_of_ble_eq_true rfl, Nat.le_of_ble_eq_true rfl⟩) ⟨preR_blind, va_recv hK hP (ci := 2) (q0 := 0) rfl rfl, preR_of hP hK hE [.ref (a 0), .int x, .int (nI k)]⟩ rfl rfl hl.1 rfl (lv_room (Nat.le_of_ble_eq_true rfl)) dX2_knownCells_16 ⟨Nat.zero_le _, Nat.zero_le _⟩)) (fun r hr9 => ?_)
      subst hr9
      refine w_bz (tgt := 25) hx hb dX2_knownCells_19 (by decide) (fun c_19 => ?_) (fun c_19 => ?_)
      · refine lv_iinc (v := (nI (k + 1))) (lv' := [(3, .int (nI (k + 1))), (2, .int t), (0, .ref (a 0)), (1, .int x)]) hx hb dX2_knownCells_25 hl (k := 0) rfl (nI_1 k) (by decide) rfl (fun ls hl => ?_)
        refine lv_goto (tgt := 4) hx hb dX2_knownCells_28 (by decide) ?_
        exact ih4 (k + 1) t (by omega) (by rw [hsp]; simp [knownL, c_10, c_19]) ls (lv_sub hl [0, 1, 2, 3] rfl)
      · refine lv_iinc (v := (t + 1)) (lv' := [(2, .int (t + 1)), (3, .int (nI k)), (0, .ref (a 0)), (1, .int x)]) hx hb dX2_knownCells_22 hl (k := 1) rfl rfl (by decide) rfl (fun ls hl => ?_)
        refine lv_iinc (v := (nI (k + 1))) (lv' := [(3, .int (nI (k + 1))), (2, .int (t + 1)), (0, .ref (a 0)), (1, .int x)]) hx hb dX2_knownCells_25 hl (k := 1) rfl (nI_1 k) (by decide) rfl (fun ls hl => ?_)
        refine lv_goto (tgt := 4) hx hb dX2_knownCells_28 (by decide) ?_
        exact ih4 (k + 1) (t + 1) (by omega) (by rw [hsp]; simp [knownL, c_10, c_19]) ls (lv_sub hl [0, 1, 2, 3] rfl)
  exact L4 (160) 0 0 (by omega) rfl ls (lv_sub hl [0, 1, 2, 3] rfl)

set_option maxHeartbeats 4000000 in
set_option maxRecDepth 100000 in
theorem c_X2_living (l : Launch) (D : va_G) (cI : ClassId) (a : Nat → Nat) (σ : SS) (x : Int32) (hn : s_n σ ≤ 10) : Met l yX2_living wsX2_living ({ frames := 2, cells := 0, slots := 0, locals := 44 } : Room) (va_Pc [.ref (a 0), .int x] (preR D cI (sW cI a σ))) (vp_Si (fun r => r = livingF σ x)) 0 0 (fun _ => False) := by
  refine Met.ofW (cc := cX2_living) (maxL := 4) (ret := (some .int)) (by decide) rfl ?_
  intro p e s m args below meth c s₁ B hml hv
  obtain ⟨rfl, hP, hK, hE⟩ := hv
  have hx := B.exec
  have hb := B.bytes
  have hr := B.returns
  have hts := atoms_spec (ws := wsX2_living) B.pre
  have hown : s.vm.findClass RX2 = some m.cls := findClass_of_methodNamed B.named
  have hlocks := B.notSynchronized
  have hl := lv_entry ([.ref (a 0), .int x]) (n := 4) (Nat.le_of_ble_eq_true rfl)
  rw [lg_entry_eq]
  generalize (lg_sl ([.ref (a 0), .int x]) ++ List.replicate (4 - (lg_sl ([.ref (a 0), .int x])).length) Slot.unset).toArray = ls at hl ⊢
  have hl : lv_has ls 4 [(0, .ref (a 0)), (1, .int x)] := hl
  refine lv_iconst (v := 0) hx hb dX2_living_0 (by decide) ?_
  refine lv_istore_n (lv' := [(2, .int 0), (0, .ref (a 0)), (1, .int x)]) hx hb dX2_living_1 rfl hl (by decide) rfl (fun ls hl => ?_)
  refine lv_iconst (v := 0) hx hb dX2_living_2 (by decide) ?_
  refine lv_istore_n (lv' := [(3, .int 0), (2, .int 0), (0, .ref (a 0)), (1, .int x)]) hx hb dX2_living_3 rfl hl (by decide) rfl (fun ls hl => ?_)
  have L4 : ∀ (n k : Nat) (t : Int32) (hk : k + n = s_n σ) (hsp : livingF σ x = livingL σ x n k t) (ls : Array Slot), lv_has ls 4 [(3, .int (nI k)), (2, .int t), (0, .ref (a 0)), (1, .int x)] → W p l e ({ frames := 2, cells := 0, slots := 0, locals := 44 } : Room) s m ([.ref (a 0), .int x] : List Value).toArray below meth c s.heap [] 0 0 (MQ below (vp_Si (fun r => r = livingF σ x)) ([.ref (a 0), .int x] : List Value).toArray s 0 0 (fun _ => False)) (F0 m 4 ls []) := by
    intro n
    induction n with
    | zero =>
      intro k t hk hsp ls hl
      refine lv_iload_n hx hb dX2_living_4 rfl (lv_at hl 0 rfl) ?_
      refine lv_aload_n hx hb dX2_living_5 rfl (lv_at hl 2 rfl) ?_
      refine va_get (D := D) (ci := 2) (v := .int (nI (s_n σ))) (C := RX2) (T := TX2) (N := 8) hx hb hts (by decide +kernel) hown hK hP 0 rfl rfl 5 (by decide) (hts (.fieldLink RX2 39 "Warren$State" "beings" "I") (by decide +kernel)) (fun _ h9 => h9) rfl dX2_living_6 ?_
      refine lv_icmp_ge (tgt := 39) hx hb dX2_living_9 (by decide) (fun c_9 => ?_) (fun c_9 => absurd (nI_le (by omega) (by omega)) c_9)
      refine lv_iload_n hx hb dX2_living_39 rfl (lv_at hl 1 rfl) ?_
      exact W.iret (v := t) hx hb hr (fun t ht _ => ⟨_, rfl, by rw [hsp]; rfl, ht⟩) hnil dX2_living_40
    | succ n ih4 =>
      intro k t hk hsp ls hl
      refine lv_iload_n hx hb dX2_living_4 rfl (lv_at hl 0 rfl) ?_
      refine lv_aload_n hx hb dX2_living_5 rfl (lv_at hl 2 rfl) ?_
      refine va_get (D := D) (ci := 2) (v := .int (nI (s_n σ))) (C := RX2) (T := TX2) (N := 8) hx hb hts (by decide +kernel) hown hK hP 0 rfl rfl 5 (by decide) (hts (.fieldLink RX2 39 "Warren$State" "beings" "I") (by decide +kernel)) (fun _ h9 => h9) rfl dX2_living_6 ?_
      refine lv_icmp_ge (tgt := 39) hx hb dX2_living_9 (by decide) (fun c_9 => absurd c_9 (nI_ge (by omega) (by omega))) (fun c_9 => ?_)
      refine lv_aload_n hx hb dX2_living_12 rfl (lv_at hl 2 rfl) ?_
      refine lv_iload_n hx hb dX2_living_13 rfl (lv_at hl 0 rfl) ?_
      refine lv_iconst (v := 0) hx hb dX2_living_14 (by decide) ?_
      refine vp_callSi (va_Run.run (va_runV (As := [.int (nI k), .int 0]) (rest := []) ⟨hx, hb, hml, hown, hts⟩ (c_X2_trait l D cI a σ (nI k) 0) (cwV 2 hts gX2_living_X2_trait rfl rfl rfl (by decide +kernel) ⟨Nat.le_of_ble_eq_true rfl, Nat.le_of_ble_eq_true rfl⟩) ⟨preR_blind, va_recv hK hP (ci := 2) (q0 := 0) rfl rfl, preR_of hP hK hE [.ref (a 0), .int (nI k), .int 0]⟩ rfl rfl hl.1 rfl (lv_room (Nat.le_of_ble_eq_true rfl)) dX2_living_15 ⟨Nat.zero_le _, Nat.zero_le _⟩)) (fun r hr9 => ?_)
      subst hr9
      refine lv_iload_n hx hb dX2_living_18 rfl (lv_at hl 3 rfl) ?_
      refine lv_icmp_ne (tgt := 33) hx hb dX2_living_19 (by decide) (fun c_19 => ?_) (fun c_19 => ?_)
      · refine lv_iinc (v := (nI (k + 1))) (lv' := [(3, .int (nI (k + 1))), (2, .int t), (0, .ref (a 0)), (1, .int x)]) hx hb dX2_living_33 hl (k := 0) rfl (nI_1 k) (by decide) rfl (fun ls hl => ?_)
        refine lv_goto (tgt := 4) hx hb dX2_living_36 (by decide) ?_
        exact ih4 (k + 1) t (by omega) (by rw [hsp]; simp [livingL, c_9, c_19]) ls (lv_sub hl [0, 1, 2, 3] rfl)
      · refine lv_aload_n hx hb dX2_living_22 rfl (lv_at hl 2 rfl) ?_
        refine lv_iload_n hx hb dX2_living_23 rfl (lv_at hl 0 rfl) ?_
        refine vp_callSi (va_Run.run (va_runV (As := [.int (nI k)]) (rest := []) ⟨hx, hb, hml, hown, hts⟩ (c_X2_isAlive l D cI a σ (nI k)) (cwV 1 hts gX2_living_X2_isAlive rfl rfl rfl (by decide +kernel) ⟨Nat.le_of_ble_eq_true rfl, Nat.le_of_ble_eq_true rfl⟩) ⟨preR_blind, va_recv hK hP (ci := 2) (q0 := 0) rfl rfl, preR_of hP hK hE [.ref (a 0), .int (nI k)]⟩ rfl rfl hl.1 rfl (lv_room (Nat.le_of_ble_eq_true rfl)) dX2_living_24 ⟨Nat.zero_le _, Nat.zero_le _⟩)) (fun r hr9 => ?_)
        subst hr9
        refine w_bz (tgt := 33) hx hb dX2_living_27 (by decide) (fun c_27 => ?_) (fun c_27 => ?_)
        · refine lv_iinc (v := (nI (k + 1))) (lv' := [(3, .int (nI (k + 1))), (2, .int t), (0, .ref (a 0)), (1, .int x)]) hx hb dX2_living_33 hl (k := 0) rfl (nI_1 k) (by decide) rfl (fun ls hl => ?_)
          refine lv_goto (tgt := 4) hx hb dX2_living_36 (by decide) ?_
          exact ih4 (k + 1) t (by omega) (by rw [hsp]; simp [livingL, c_9, c_19, c_27]) ls (lv_sub hl [0, 1, 2, 3] rfl)
        · refine lv_iinc (v := (t + 1)) (lv' := [(2, .int (t + 1)), (3, .int (nI k)), (0, .ref (a 0)), (1, .int x)]) hx hb dX2_living_30 hl (k := 1) rfl rfl (by decide) rfl (fun ls hl => ?_)
          refine lv_iinc (v := (nI (k + 1))) (lv' := [(3, .int (nI (k + 1))), (2, .int (t + 1)), (0, .ref (a 0)), (1, .int x)]) hx hb dX2_living_33 hl (k := 1) rfl (nI_1 k) (by decide) rfl (fun ls hl => ?_)
          refine lv_goto (tgt := 4) hx hb dX2_living_36 (by decide) ?_
          exact ih4 (k + 1) (t + 1) (by omega) (by rw [hsp]; simp [livingL, c_9, c_19, c_27]) ls (lv_sub hl [0, 1, 2, 3] rfl)
  exact L4 (s_n σ) 0 0 (by omega) rfl ls (lv_sub hl [0, 1, 2, 3] rfl)

set_option maxHeartbeats 4000000 in
set_option maxRecDepth 100000 in
theorem c_X2_lifeOf (l : Launch) (D : va_G) (cI : ClassId) (a : Nat → Nat) (σ : SS) (x : Int32) (hn : s_n σ ≤ 10) : Met l yX2_lifeOf wsX2_lifeOf ({ frames := 1, cells := 0, slots := 0, locals := 23 } : Room) (va_Pc [.ref (a 0), .int x] (preR D cI (sW cI a σ))) (vp_Si (fun r => r = lifeF σ x)) 0 0 (fun _ => False) := by
  refine Met.ofW (cc := cX2_lifeOf) (maxL := 4) (ret := (some .int)) (by decide) rfl ?_
  intro p e s m args below meth c s₁ B hml hv
  obtain ⟨rfl, hP, hK, hE⟩ := hv
  have hx := B.exec
  have hb := B.bytes
  have hr := B.returns
  have hts := atoms_spec (ws := wsX2_lifeOf) B.pre
  have hown : s.vm.findClass RX2 = some m.cls := findClass_of_methodNamed B.named
  have hlocks := B.notSynchronized
  have hl := lv_entry ([.ref (a 0), .int x]) (n := 4) (Nat.le_of_ble_eq_true rfl)
  rw [lg_entry_eq]
  generalize (lg_sl ([.ref (a 0), .int x]) ++ List.replicate (4 - (lg_sl ([.ref (a 0), .int x])).length) Slot.unset).toArray = ls at hl ⊢
  have hl : lv_has ls 4 [(0, .ref (a 0)), (1, .int x)] := hl
  refine lv_iconst (v := 0) hx hb dX2_lifeOf_0 (by decide) ?_
  refine lv_istore_n (lv' := [(2, .int 0), (0, .ref (a 0)), (1, .int x)]) hx hb dX2_lifeOf_1 rfl hl (by decide) rfl (fun ls hl => ?_)
  refine lv_iconst (v := 0) hx hb dX2_lifeOf_2 (by decide) ?_
  refine lv_istore_n (lv' := [(3, .int 0), (2, .int 0), (0, .ref (a 0)), (1, .int x)]) hx hb dX2_lifeOf_3 rfl hl (by decide) rfl (fun ls hl => ?_)
  have L4 : ∀ (n k : Nat) (t : Int32) (hk : k + n = s_n σ) (hsp : lifeF σ x = lifeL σ x n k t) (ls : Array Slot), lv_has ls 4 [(3, .int (nI k)), (2, .int t), (0, .ref (a 0)), (1, .int x)] → W p l e ({ frames := 1, cells := 0, slots := 0, locals := 23 } : Room) s m ([.ref (a 0), .int x] : List Value).toArray below meth c s.heap [] 0 0 (MQ below (vp_Si (fun r => r = lifeF σ x)) ([.ref (a 0), .int x] : List Value).toArray s 0 0 (fun _ => False)) (F0 m 4 ls []) := by
    intro n
    induction n with
    | zero =>
      intro k t hk hsp ls hl
      refine lv_iload_n hx hb dX2_lifeOf_4 rfl (lv_at hl 0 rfl) ?_
      refine lv_aload_n hx hb dX2_lifeOf_5 rfl (lv_at hl 2 rfl) ?_
      refine va_get (D := D) (ci := 2) (v := .int (nI (s_n σ))) (C := RX2) (T := TX2) (N := 8) hx hb hts (by decide +kernel) hown hK hP 0 rfl rfl 5 (by decide) (hts (.fieldLink RX2 39 "Warren$State" "beings" "I") (by decide +kernel)) (fun _ h9 => h9) rfl dX2_lifeOf_6 ?_
      refine lv_icmp_ge (tgt := 37) hx hb dX2_lifeOf_9 (by decide) (fun c_9 => ?_) (fun c_9 => absurd (nI_le (by omega) (by omega)) c_9)
      refine lv_iload_n hx hb dX2_lifeOf_37 rfl (lv_at hl 1 rfl) ?_
      exact W.iret (v := t) hx hb hr (fun t ht _ => ⟨_, rfl, by rw [hsp]; rfl, ht⟩) hnil dX2_lifeOf_38
    | succ n ih4 =>
      intro k t hk hsp ls hl
      refine lv_iload_n hx hb dX2_lifeOf_4 rfl (lv_at hl 0 rfl) ?_
      refine lv_aload_n hx hb dX2_lifeOf_5 rfl (lv_at hl 2 rfl) ?_
      refine va_get (D := D) (ci := 2) (v := .int (nI (s_n σ))) (C := RX2) (T := TX2) (N := 8) hx hb hts (by decide +kernel) hown hK hP 0 rfl rfl 5 (by decide) (hts (.fieldLink RX2 39 "Warren$State" "beings" "I") (by decide +kernel)) (fun _ h9 => h9) rfl dX2_lifeOf_6 ?_
      refine lv_icmp_ge (tgt := 37) hx hb dX2_lifeOf_9 (by decide) (fun c_9 => absurd c_9 (nI_ge (by omega) (by omega))) (fun c_9 => ?_)
      refine lv_aload_n hx hb dX2_lifeOf_12 rfl (lv_at hl 2 rfl) ?_
      refine lv_iload_n hx hb dX2_lifeOf_13 rfl (lv_at hl 0 rfl) ?_
      refine lv_iconst (v := 0) hx hb dX2_lifeOf_14 (by decide) ?_
      refine vp_callSi (va_Run.run (va_runV (As := [.int (nI k), .int 0]) (rest := []) ⟨hx, hb, hml, hown, hts⟩ (c_X2_trait l D cI a σ (nI k) 0) (cwV 2 hts gX2_lifeOf_X2_trait rfl rfl rfl (by decide +kernel) ⟨Nat.le_of_ble_eq_true rfl, Nat.le_of_ble_eq_true rfl⟩) ⟨preR_blind, va_recv hK hP (ci := 2) (q0 := 0) rfl rfl, preR_of hP hK hE [.ref (a 0), .int (nI k), .int 0]⟩ rfl rfl hl.1 rfl (lv_room (Nat.le_of_ble_eq_true rfl)) dX2_lifeOf_15 ⟨Nat.zero_le _, Nat.zero_le _⟩)) (fun r hr9 => ?_)
      subst hr9
      refine lv_iload_n hx hb dX2_lifeOf_18 rfl (lv_at hl 3 rfl) ?_
      refine lv_icmp_ne (tgt := 31) hx hb dX2_lifeOf_19 (by decide) (fun c_19 => ?_) (fun c_19 => ?_)
      · refine lv_iinc (v := (nI (k + 1))) (lv' := [(3, .int (nI (k + 1))), (2, .int t), (0, .ref (a 0)), (1, .int x)]) hx hb dX2_lifeOf_31 hl (k := 0) rfl (nI_1 k) (by decide) rfl (fun ls hl => ?_)
        refine lv_goto (tgt := 4) hx hb dX2_lifeOf_34 (by decide) ?_
        exact ih4 (k + 1) t (by omega) (by rw [hsp]; simp [lifeL, c_9, c_19]) ls (lv_sub hl [0, 1, 2, 3] rfl)
      · refine lv_iload_n hx hb dX2_lifeOf_22 rfl (lv_at hl 1 rfl) ?_
        refine lv_aload_n hx hb dX2_lifeOf_23 rfl (lv_at hl 2 rfl) ?_
        refine lv_iload_n hx hb dX2_lifeOf_24 rfl (lv_at hl 0 rfl) ?_
        refine lv_iconst (v := 2) hx hb dX2_lifeOf_25 (by decide) ?_
        refine vp_callSi (va_Run.run (va_runV (As := [.int (nI k), .int 2]) (rest := [.int t]) ⟨hx, hb, hml, hown, hts⟩ (c_X2_trait l D cI a σ (nI k) 2) (cwV 2 hts gX2_lifeOf_X2_trait rfl rfl rfl (by decide +kernel) ⟨Nat.le_of_ble_eq_true rfl, Nat.le_of_ble_eq_true rfl⟩) ⟨preR_blind, va_recv hK hP (ci := 2) (q0 := 0) rfl rfl, preR_of hP hK hE [.ref (a 0), .int (nI k), .int 2]⟩ rfl rfl hl.1 rfl (lv_room (Nat.le_of_ble_eq_true rfl)) dX2_lifeOf_26 ⟨Nat.zero_le _, Nat.zero_le _⟩)) (fun r hr9 => ?_)
        subst hr9
        refine lv_iadd hx hb dX2_lifeOf_29 ?_
        refine lv_istore_n (lv' := [(2, .int (t + (traitF σ (nI k) 2))), (3, .int (nI k)), (0, .ref (a 0)), (1, .int x)]) hx hb dX2_lifeOf_30 rfl hl (by decide) rfl (fun ls hl => ?_)
        refine lv_iinc (v := (nI (k + 1))) (lv' := [(3, .int (nI (k + 1))), (2, .int (t + (traitF σ (nI k) 2))), (0, .ref (a 0)), (1, .int x)]) hx hb dX2_lifeOf_31 hl (k := 1) rfl (nI_1 k) (by decide) rfl (fun ls hl => ?_)
        refine lv_goto (tgt := 4) hx hb dX2_lifeOf_34 (by decide) ?_
        exact ih4 (k + 1) (t + (traitF σ (nI k) 2)) (by omega) (by rw [hsp]; simp [lifeL, c_9, c_19]) ls (lv_sub hl [0, 1, 2, 3] rfl)
  exact L4 (s_n σ) 0 0 (by omega) rfl ls (lv_sub hl [0, 1, 2, 3] rfl)

set_option maxHeartbeats 4000000 in
set_option maxRecDepth 100000 in
theorem c_X2_whoseTurn (l : Launch) (D : va_G) (cI : ClassId) (a : Nat → Nat) (σ : SS) (hn : s_n σ ≤ 10) : Met l yX2_whoseTurn wsX2_whoseTurn ({ frames := 2, cells := 0, slots := 0, locals := 44 } : Room) (va_Pc [.ref (a 0)] (preR D cI (sW cI a σ))) (vp_Si (fun r => r = turnF σ)) 0 0 (fun _ => False) := by
  refine Met.ofW (cc := cX2_whoseTurn) (maxL := 3) (ret := (some .int)) (by decide) rfl ?_
  intro p e s m args below meth c s₁ B hml hv
  obtain ⟨rfl, hP, hK, hE⟩ := hv
  have hx := B.exec
  have hb := B.bytes
  have hr := B.returns
  have hts := atoms_spec (ws := wsX2_whoseTurn) B.pre
  have hown : s.vm.findClass RX2 = some m.cls := findClass_of_methodNamed B.named
  have hlocks := B.notSynchronized
  have hl := lv_entry ([.ref (a 0)]) (n := 3) (Nat.le_of_ble_eq_true rfl)
  rw [lg_entry_eq]
  generalize (lg_sl ([.ref (a 0)]) ++ List.replicate (3 - (lg_sl ([.ref (a 0)])).length) Slot.unset).toArray = ls at hl ⊢
  have hl : lv_has ls 3 [(0, .ref (a 0))] := hl
  refine lv_iconst (v := (-1)) hx hb dX2_whoseTurn_0 (by decide) ?_
  refine lv_istore_n (lv' := [(1, .int (-1)), (0, .ref (a 0))]) hx hb dX2_whoseTurn_1 rfl hl (by decide) rfl (fun ls hl => ?_)
  refine lv_iconst (v := 0) hx hb dX2_whoseTurn_2 (by decide) ?_
  refine lv_istore_n (lv' := [(2, .int 0), (1, .int (-1)), (0, .ref (a 0))]) hx hb dX2_whoseTurn_3 rfl hl (by decide) rfl (fun ls hl => ?_)
  have L4 : ∀ (n k : Nat) (t : Int32) (hk : k + n = s_n σ) (hsp : turnF σ = turnL σ n k t) (ls : Array Slot), lv_has ls 3 [(2, .int (nI k)), (1, .int t), (0, .ref (a 0))] → W p l e ({ frames := 2, cells := 0, slots := 0, locals := 44 } : Room) s m ([.ref (a 0)] : List Value).toArray below meth c s.heap [] 0 0 (MQ below (vp_Si (fun r => r = turnF σ)) ([.ref (a 0)] : List Value).toArray s 0 0 (fun _ => False)) (F0 m 4 ls []) := by
    intro n
    induction n with
    | zero =>
      intro k t hk hsp ls hl
      refine lv_iload_n hx hb dX2_whoseTurn_4 rfl (lv_at hl 0 rfl) ?_
      refine lv_aload_n hx hb dX2_whoseTurn_5 rfl (lv_at hl 2 rfl) ?_
      refine va_get (D := D) (ci := 2) (v := .int (nI (s_n σ))) (C := RX2) (T := TX2) (N := 8) hx hb hts (by decide +kernel) hown hK hP 0 rfl rfl 5 (by decide) (hts (.fieldLink RX2 39 "Warren$State" "beings" "I") (by decide +kernel)) (fun _ h9 => h9) rfl dX2_whoseTurn_6 ?_
      refine lv_icmp_ge (tgt := 50) hx hb dX2_whoseTurn_9 (by decide) (fun c_9 => ?_) (fun c_9 => absurd (nI_le (by omega) (by omega)) c_9)
      refine lv_iload_n hx hb dX2_whoseTurn_50 rfl (lv_at hl 1 rfl) ?_
      exact W.iret (v := t) hx hb hr (fun t ht _ => ⟨_, rfl, by rw [hsp]; rfl, ht⟩) hnil dX2_whoseTurn_51
    | succ n ih4 =>
      intro k t hk hsp ls hl
      refine lv_iload_n hx hb dX2_whoseTurn_4 rfl (lv_at hl 0 rfl) ?_
      refine lv_aload_n hx hb dX2_whoseTurn_5 rfl (lv_at hl 2 rfl) ?_
      refine va_get (D := D) (ci := 2) (v := .int (nI (s_n σ))) (C := RX2) (T := TX2) (N := 8) hx hb hts (by decide +kernel) hown hK hP 0 rfl rfl 5 (by decide) (hts (.fieldLink RX2 39 "Warren$State" "beings" "I") (by decide +kernel)) (fun _ h9 => h9) rfl dX2_whoseTurn_6 ?_
      refine lv_icmp_ge (tgt := 50) hx hb dX2_whoseTurn_9 (by decide) (fun c_9 => absurd c_9 (nI_ge (by omega) (by omega))) (fun c_9 => ?_)
      refine lv_aload_n hx hb dX2_whoseTurn_12 rfl (lv_at hl 2 rfl) ?_
      refine lv_iload_n hx hb dX2_whoseTurn_13 rfl (lv_at hl 0 rfl) ?_
      refine vp_callSi (va_Run.run (va_runV (As := [.int (nI k)]) (rest := []) ⟨hx, hb, hml, hown, hts⟩ (c_X2_isAlive l D cI a σ (nI k)) (cwV 1 hts gX2_whoseTurn_X2_isAlive rfl rfl rfl (by decide +kernel) ⟨Nat.le_of_ble_eq_true rfl, Nat.le_of_ble_eq_true rfl⟩) ⟨preR_blind, va_recv hK hP (ci := 2) (q0 := 0) rfl rfl, preR_of hP hK hE [.ref (a 0), .int (nI k)]⟩ rfl rfl hl.1 rfl (lv_room (Nat.le_of_ble_eq_true rfl)) dX2_whoseTurn_14 ⟨Nat.zero_le _, Nat.zero_le _⟩)) (fun r hr9 => ?_)
      subst hr9
      refine w_bz (tgt := 44) hx hb dX2_whoseTurn_17 (by decide) (fun c_17 => ?_) (fun c_17 => ?_)
      · refine lv_iinc (v := (nI (k + 1))) (lv' := [(2, .int (nI (k + 1))), (1, .int t), (0, .ref (a 0))]) hx hb dX2_whoseTurn_44 hl (k := 0) rfl (nI_1 k) (by decide) rfl (fun ls hl => ?_)
        refine lv_goto (tgt := 4) hx hb dX2_whoseTurn_47 (by decide) ?_
        exact ih4 (k + 1) t (by omega) (by rw [hsp]; simp [turnL, c_9, c_17]) ls (lv_sub hl [0, 1, 2] rfl)
      · refine lv_iload_n hx hb dX2_whoseTurn_20 rfl (lv_at hl 1 rfl) ?_
        refine lv_iconst (v := (-1)) hx hb dX2_whoseTurn_21 (by decide) ?_
        refine lv_icmp_eq (tgt := 42) hx hb dX2_whoseTurn_22 (by decide) (fun c_22 => ?_) (fun c_22 => ?_)
        · refine lv_iload_n hx hb dX2_whoseTurn_42 rfl (lv_at hl 0 rfl) ?_
          refine lv_istore_n (lv' := [(1, .int (nI k)), (2, .int (nI k)), (0, .ref (a 0))]) hx hb dX2_whoseTurn_43 rfl hl (by decide) rfl (fun ls hl => ?_)
          refine lv_iinc (v := (nI (k + 1))) (lv' := [(2, .int (nI (k + 1))), (1, .int (nI k)), (0, .ref (a 0))]) hx hb dX2_whoseTurn_44 hl (k := 1) rfl (nI_1 k) (by decide) rfl (fun ls hl => ?_)
          refine lv_goto (tgt := 4) hx hb dX2_whoseTurn_47 (by decide) ?_
          exact ih4 (k + 1) (nI k) (by omega) (by rw [hsp]; simp [turnL, c_9, c_17, c_22]) ls (lv_sub hl [0, 1, 2] rfl)
        · refine lv_aload_n hx hb dX2_whoseTurn_25 rfl (lv_at hl 2 rfl) ?_
          refine lv_iload_n hx hb dX2_whoseTurn_26 rfl (lv_at hl 0 rfl) ?_
          refine lv_bipush (v := 8) hx hb dX2_whoseTurn_27 (by decide) ?_
          refine vp_callSi (va_Run.run (va_runV (As := [.int (nI k), .int 8]) (rest := []) ⟨hx, hb, hml, hown, hts⟩ (c_X2_trait l D cI a σ (nI k) 8) (cwV 2 hts gX2_whoseTurn_X2_trait rfl rfl rfl (by decide +kernel) ⟨Nat.le_of_ble_eq_true rfl, Nat.le_of_ble_eq_true rfl⟩) ⟨preR_blind, va_recv hK hP (ci := 2) (q0 := 0) rfl rfl, preR_of hP hK hE [.ref (a 0), .int (nI k), .int 8]⟩ rfl rfl hl.1 rfl (lv_room (Nat.le_of_ble_eq_true rfl)) dX2_whoseTurn_29 ⟨Nat.zero_le _, Nat.zero_le _⟩)) (fun r hr9 => ?_)
          subst hr9
          refine lv_aload_n hx hb dX2_whoseTurn_32 rfl (lv_at hl 2 rfl) ?_
          refine lv_iload_n hx hb dX2_whoseTurn_33 rfl (lv_at hl 1 rfl) ?_
          refine lv_bipush (v := 8) hx hb dX2_whoseTurn_34 (by decide) ?_
          refine vp_callSi (va_Run.run (va_runV (As := [.int t, .int 8]) (rest := [.int (traitF σ (nI k) 8)]) ⟨hx, hb, hml, hown, hts⟩ (c_X2_trait l D cI a σ t 8) (cwV 2 hts gX2_whoseTurn_X2_trait rfl rfl rfl (by decide +kernel) ⟨Nat.le_of_ble_eq_true rfl, Nat.le_of_ble_eq_true rfl⟩) ⟨preR_blind, va_recv hK hP (ci := 2) (q0 := 0) rfl rfl, preR_of hP hK hE [.ref (a 0), .int t, .int 8]⟩ rfl rfl hl.1 rfl (lv_room (Nat.le_of_ble_eq_true rfl)) dX2_whoseTurn_36 ⟨Nat.zero_le _, Nat.zero_le _⟩)) (fun r hr9 => ?_)
          subst hr9
          refine lv_icmp_ge (tgt := 44) hx hb dX2_whoseTurn_39 (by decide) (fun c_39 => ?_) (fun c_39 => ?_)
          · refine lv_iinc (v := (nI (k + 1))) (lv' := [(2, .int (nI (k + 1))), (1, .int t), (0, .ref (a 0))]) hx hb dX2_whoseTurn_44 hl (k := 0) rfl (nI_1 k) (by decide) rfl (fun ls hl => ?_)
            refine lv_goto (tgt := 4) hx hb dX2_whoseTurn_47 (by decide) ?_
            exact ih4 (k + 1) t (by omega) (by rw [hsp]; simp [turnL, c_9, c_17, c_22, c_39]) ls (lv_sub hl [0, 1, 2] rfl)
          · refine lv_iload_n hx hb dX2_whoseTurn_42 rfl (lv_at hl 0 rfl) ?_
            refine lv_istore_n (lv' := [(1, .int (nI k)), (2, .int (nI k)), (0, .ref (a 0))]) hx hb dX2_whoseTurn_43 rfl hl (by decide) rfl (fun ls hl => ?_)
            refine lv_iinc (v := (nI (k + 1))) (lv' := [(2, .int (nI (k + 1))), (1, .int (nI k)), (0, .ref (a 0))]) hx hb dX2_whoseTurn_44 hl (k := 1) rfl (nI_1 k) (by decide) rfl (fun ls hl => ?_)
            refine lv_goto (tgt := 4) hx hb dX2_whoseTurn_47 (by decide) ?_
            exact ih4 (k + 1) (nI k) (by omega) (by rw [hsp]; simp [turnL, c_9, c_17, c_22, c_39]) ls (lv_sub hl [0, 1, 2] rfl)
  exact L4 (s_n σ) 0 (-1) (by omega) rfl ls (lv_sub hl [0, 1, 2] rfl)

set_option maxHeartbeats 4000000 in
set_option maxRecDepth 100000 in
theorem c_X2_isFoe (l : Launch) (D : va_G) (cI : ClassId) (a : Nat → Nat) (σ : SS) (x y : Int32) : Met l yX2_isFoe wsX2_isFoe ({ frames := 1, cells := 0, slots := 0, locals := 23 } : Room) (va_Pc [.ref (a 0), .int x, .int y] (preR D cI (sW cI a σ))) (vp_Si (fun r => r = bi (foeB σ x y))) 0 0 (fun _ => False) := by
  refine Met.ofW (cc := cX2_isFoe) (maxL := 3) (ret := (some .boolean)) (by decide) rfl ?_
  intro p e s m args below meth c s₁ B hml hv
  obtain ⟨rfl, hP, hK, hE⟩ := hv
  have hx := B.exec
  have hb := B.bytes
  have hr := B.returns
  have hts := atoms_spec (ws := wsX2_isFoe) B.pre
  have hown : s.vm.findClass RX2 = some m.cls := findClass_of_methodNamed B.named
  have hlocks := B.notSynchronized
  have hl := lv_entry ([.ref (a 0), .int x, .int y]) (n := 3) (Nat.le_of_ble_eq_true rfl)
  rw [lg_entry_eq]
  generalize (lg_sl ([.ref (a 0), .int x, .int y]) ++ List.replicate (3 - (lg_sl ([.ref (a 0), .int x, .int y])).length) Slot.unset).toArray = ls at hl ⊢
  have hl : lv_has ls 3 [(0, .ref (a 0)), (1, .int x), (2, .int y)] := hl
  refine lv_aload_n hx hb dX2_isFoe_0 rfl (lv_at hl 0 rfl) ?_
  refine lv_iload_n hx hb dX2_isFoe_1 rfl (lv_at hl 2 rfl) ?_
  refine lv_iconst (v := 2) hx hb dX2_isFoe_2 (by decide) ?_
  refine vp_callSi (va_Run.run (va_runV (As := [.int y, .int 2]) (rest := []) ⟨hx, hb, hml, hown, hts⟩ (c_X2_trait l D cI a σ y 2) (cwV 2 hts gX2_isFoe_X2_trait rfl rfl rfl (by decide +kernel) ⟨Nat.le_of_ble_eq_true rfl, Nat.le_of_ble_eq_true rfl⟩) ⟨preR_blind, va_recv hK hP (ci := 2) (q0 := 0) rfl rfl, preR_of hP hK hE [.ref (a 0), .int y, .int 2]⟩ rfl rfl hl.1 rfl (lv_room (Nat.le_of_ble_eq_true rfl)) dX2_isFoe_3 ⟨Nat.zero_le _, Nat.zero_le _⟩)) (fun r hr9 => ?_)
  subst hr9
  refine lv_if_le (tgt := 28) hx hb dX2_isFoe_6 (by decide) (fun c_6 => ?_) (fun c_6 => ?_)
  · refine lv_iconst (v := 0) hx hb dX2_isFoe_28 (by decide) ?_
    exact W.zret (v := 0) hx hb hr rfl (fun t ht _ => ⟨_, rfl, by first | rfl | (simp only [foeB, if_pos c_6]; done) | (simp only [foeB, if_pos c_6]; rfl) | (simp [foeB, c_6]; done) | (simp [foeB, c_6]; rfl), ht⟩) hnil dX2_isFoe_29
  · refine lv_aload_n hx hb dX2_isFoe_9 rfl (lv_at hl 0 rfl) ?_
    refine lv_iload_n hx hb dX2_isFoe_10 rfl (lv_at hl 2 rfl) ?_
    refine lv_iconst (v := 0) hx hb dX2_isFoe_11 (by decide) ?_
    refine vp_callSi (va_Run.run (va_runV (As := [.int y, .int 0]) (rest := []) ⟨hx, hb, hml, hown, hts⟩ (c_X2_trait l D cI a σ y 0) (cwV 2 hts gX2_isFoe_X2_trait rfl rfl rfl (by decide +kernel) ⟨Nat.le_of_ble_eq_true rfl, Nat.le_of_ble_eq_true rfl⟩) ⟨preR_blind, va_recv hK hP (ci := 2) (q0 := 0) rfl rfl, preR_of hP hK hE [.ref (a 0), .int y, .int 0]⟩ rfl rfl hl.1 rfl (lv_room (Nat.le_of_ble_eq_true rfl)) dX2_isFoe_12 ⟨Nat.zero_le _, Nat.zero_le _⟩)) (fun r hr9 => ?_)
    subst hr9
    refine lv_aload_n hx hb dX2_isFoe_15 rfl (lv_at hl 0 rfl) ?_
    refine lv_iload_n hx hb dX2_isFoe_16 rfl (lv_at hl 1 rfl) ?_
    refine lv_iconst (v := 0) hx hb dX2_isFoe_17 (by decide) ?_
    refine vp_callSi (va_Run.run (va_runV (As := [.int x, .int 0]) (rest := [.int (traitF σ y 0)]) ⟨hx, hb, hml, hown, hts⟩ (c_X2_trait l D cI a σ x 0) (cwV 2 hts gX2_isFoe_X2_trait rfl rfl rfl (by decide +kernel) ⟨Nat.le_of_ble_eq_true rfl, Nat.le_of_ble_eq_true rfl⟩) ⟨preR_blind, va_recv hK hP (ci := 2) (q0 := 0) rfl rfl, preR_of hP hK hE [.ref (a 0), .int x, .int 0]⟩ rfl rfl hl.1 rfl (lv_room (Nat.le_of_ble_eq_true rfl)) dX2_isFoe_18 ⟨Nat.zero_le _, Nat.zero_le _⟩)) (fun r hr9 => ?_)
    subst hr9
    refine lv_icmp_eq (tgt := 28) hx hb dX2_isFoe_21 (by decide) (fun c_21 => ?_) (fun c_21 => ?_)
    · refine lv_iconst (v := 0) hx hb dX2_isFoe_28 (by decide) ?_
      exact W.zret (v := 0) hx hb hr rfl (fun t ht _ => ⟨_, rfl, by first | rfl | (simp only [foeB, if_neg c_6, if_pos c_21]; done) | (simp only [foeB, if_neg c_6, if_pos c_21]; rfl) | (simp [foeB, c_6, c_21]; done) | (simp [foeB, c_6, c_21]; rfl), ht⟩) hnil dX2_isFoe_29
    · refine lv_iconst (v := 1) hx hb dX2_isFoe_24 (by decide) ?_
      refine lv_goto (tgt := 29) hx hb dX2_isFoe_25 (by decide) ?_
      exact W.zret (v := 1) hx hb hr rfl (fun t ht _ => ⟨_, rfl, by first | rfl | (simp only [foeB, if_neg c_6, if_neg c_21]; done) | (simp only [foeB, if_neg c_6, if_neg c_21]; rfl) | (simp [foeB, c_6, c_21]; done) | (simp [foeB, c_6, c_21]; rfl), ht⟩) hnil dX2_isFoe_29

set_option maxHeartbeats 4000000 in
set_option maxRecDepth 100000 in
theorem c_X2_targetOf (l : Launch) (D : va_G) (cI : ClassId) (a : Nat → Nat) (σ : SS) (x : Int32) (hn : s_n σ ≤ 10) : Met l yX2_targetOf wsX2_targetOf ({ frames := 3, cells := 0, slots := 0, locals := 70 } : Room) (va_Pc [.ref (a 0), .int x] (preR D cI (sW cI a σ))) (vp_Si (fun r => r = targetF σ x)) 0 0 (fun _ => False) := by
  refine Met.ofW (cc := cX2_targetOf) (maxL := 7) (ret := (some .int)) (by decide) rfl ?_
  intro p e s m args below meth c s₁ B hml hv
  obtain ⟨rfl, hP, hK, hE⟩ := hv
  have hx := B.exec
  have hb := B.bytes
  have hr := B.returns
  have hts := atoms_spec (ws := wsX2_targetOf) B.pre
  have hown : s.vm.findClass RX2 = some m.cls := findClass_of_methodNamed B.named
  have hlocks := B.notSynchronized
  have hl := lv_entry ([.ref (a 0), .int x]) (n := 7) (Nat.le_of_ble_eq_true rfl)
  rw [lg_entry_eq]
  generalize (lg_sl ([.ref (a 0), .int x]) ++ List.replicate (7 - (lg_sl ([.ref (a 0), .int x])).length) Slot.unset).toArray = ls at hl ⊢
  have hl : lv_has ls 7 [(0, .ref (a 0)), (1, .int x)] := hl
  refine lv_aload_n hx hb dX2_targetOf_0 rfl (lv_at hl 0 rfl) ?_
  refine lv_iload_n hx hb dX2_targetOf_1 rfl (lv_at hl 1 rfl) ?_
  refine vp_callSi (va_Run.run (va_runV (As := [.int x]) (rest := []) ⟨hx, hb, hml, hown, hts⟩ (c_X2_isAlive l D cI a σ x) (cwV 1 hts gX2_targetOf_X2_isAlive rfl rfl rfl (by decide +kernel) ⟨Nat.le_of_ble_eq_true rfl, Nat.le_of_ble_eq_true rfl⟩) ⟨preR_blind, va_recv hK hP (ci := 2) (q0 := 0) rfl rfl, preR_of hP hK hE [.ref (a 0), .int x]⟩ rfl rfl hl.1 rfl (lv_room (Nat.le_of_ble_eq_true rfl)) dX2_targetOf_2 ⟨Nat.zero_le _, Nat.zero_le _⟩)) (fun r hr9 => ?_)
  subst hr9
  refine w_bnz (tgt := 10) hx hb dX2_targetOf_5 (by decide) (fun c_5 => ?_) (fun c_5 => ?_)
  · refine lv_aload_n hx hb dX2_targetOf_10 rfl (lv_at hl 0 rfl) ?_
    refine lv_iload_n hx hb dX2_targetOf_11 rfl (lv_at hl 1 rfl) ?_
    refine lv_iconst (v := 1) hx hb dX2_targetOf_12 (by decide) ?_
    refine vp_callSi (va_Run.run (va_runV (As := [.int x, .int 1]) (rest := []) ⟨hx, hb, hml, hown, hts⟩ (c_X2_trait l D cI a σ x 1) (cwV 2 hts gX2_targetOf_X2_trait rfl rfl rfl (by decide +kernel) ⟨Nat.le_of_ble_eq_true rfl, Nat.le_of_ble_eq_true rfl⟩) ⟨preR_blind, va_recv hK hP (ci := 2) (q0 := 0) rfl rfl, preR_of hP hK hE [.ref (a 0), .int x, .int 1]⟩ rfl rfl hl.1 rfl (lv_room (Nat.le_of_ble_eq_true rfl)) dX2_targetOf_13 ⟨Nat.zero_le _, Nat.zero_le _⟩)) (fun r hr9 => ?_)
    subst hr9
    refine lv_istore_n (lv' := [(2, .int (traitF σ x 1)), (0, .ref (a 0)), (1, .int x)]) hx hb dX2_targetOf_16 rfl hl (by decide) rfl (fun ls hl => ?_)
    refine lv_iconst (v := (-1)) hx hb dX2_targetOf_17 (by decide) ?_
    refine lv_istore_n (lv' := [(3, .int (-1)), (2, .int (traitF σ x 1)), (0, .ref (a 0)), (1, .int x)]) hx hb dX2_targetOf_18 rfl hl (by decide) rfl (fun ls hl => ?_)
    refine lv_bipush (v := 8) hx hb dX2_targetOf_19 (by decide) ?_
    refine lv_istore (lv' := [(4, .int 8), (3, .int (-1)), (2, .int (traitF σ x 1)), (0, .ref (a 0)), (1, .int x)]) hx hb dX2_targetOf_21 hl (by decide) rfl (fun ls hl => ?_)
    refine lv_iconst (v := 0) hx hb dX2_targetOf_23 (by decide) ?_
    refine lv_istore (lv' := [(5, .int 0), (4, .int 8), (3, .int (-1)), (2, .int (traitF σ x 1)), (0, .ref (a 0)), (1, .int x)]) hx hb dX2_targetOf_24 hl (by decide) rfl (fun ls hl => ?_)
    have L26 : ∀ (n k : Nat) (t z w : Int32) (hk : k + n = s_n σ) (hsp : targetF σ x = targetL σ x (traitF σ x 1) n k t z) (ls : Array Slot), lv_has ls 7 [(5, .int (nI k)), (4, .int z), (3, .int t), (2, .int (traitF σ x 1)), (0, .ref (a 0)), (1, .int x)] → W p l e ({ frames := 3, cells := 0, slots := 0, locals := 70 } : Room) s m ([.ref (a 0), .int x] : List Value).toArray below meth c s.heap [] 0 0 (MQ below (vp_Si (fun r => r = targetF σ x)) ([.ref (a 0), .int x] : List Value).toArray s 0 0 (fun _ => False)) (F0 m 26 ls []) := by
      intro n
      induction n with
      | zero =>
        intro k t z w hk hsp ls hl
        refine lv_iload hx hb dX2_targetOf_26 (lv_at hl 0 rfl) ?_
        refine lv_aload_n hx hb dX2_targetOf_28 rfl (lv_at hl 4 rfl) ?_
        refine va_get (D := D) (ci := 2) (v := .int (nI (s_n σ))) (C := RX2) (T := TX2) (N := 8) hx hb hts (by decide +kernel) hown hK hP 0 rfl rfl 5 (by decide) (hts (.fieldLink RX2 39 "Warren$State" "beings" "I") (by decide +kernel)) (fun _ h9 => h9) rfl dX2_targetOf_29 ?_
        refine lv_icmp_ge (tgt := 92) hx hb dX2_targetOf_32 (by decide) (fun c_32 => ?_) (fun c_32 => absurd (nI_le (by omega) (by omega)) c_32)
        refine lv_iload_n hx hb dX2_targetOf_92 rfl (lv_at hl 2 rfl) ?_
        exact W.iret (v := t) hx hb hr (fun t ht _ => ⟨_, rfl, by rw [hsp]; rfl, ht⟩) hnil dX2_targetOf_93
      | succ n ih26 =>
        intro k t z w hk hsp ls hl
        refine lv_iload hx hb dX2_targetOf_26 (lv_at hl 0 rfl) ?_
        refine lv_aload_n hx hb dX2_targetOf_28 rfl (lv_at hl 4 rfl) ?_
        refine va_get (D := D) (ci := 2) (v := .int (nI (s_n σ))) (C := RX2) (T := TX2) (N := 8) hx hb hts (by decide +kernel) hown hK hP 0 rfl rfl 5 (by decide) (hts (.fieldLink RX2 39 "Warren$State" "beings" "I") (by decide +kernel)) (fun _ h9 => h9) rfl dX2_targetOf_29 ?_
        refine lv_icmp_ge (tgt := 92) hx hb dX2_targetOf_32 (by decide) (fun c_32 => absurd c_32 (nI_ge (by omega) (by omega))) (fun c_32 => ?_)
        refine lv_aload_n hx hb dX2_targetOf_35 rfl (lv_at hl 4 rfl) ?_
        refine lv_iload hx hb dX2_targetOf_36 (lv_at hl 0 rfl) ?_
        refine lv_iconst (v := 1) hx hb dX2_targetOf_38 (by decide) ?_
        refine vp_callSi (va_Run.run (va_runV (As := [.int (nI k), .int 1]) (rest := []) ⟨hx, hb, hml, hown, hts⟩ (c_X2_trait l D cI a σ (nI k) 1) (cwV 2 hts gX2_targetOf_X2_trait rfl rfl rfl (by decide +kernel) ⟨Nat.le_of_ble_eq_true rfl, Nat.le_of_ble_eq_true rfl⟩) ⟨preR_blind, va_recv hK hP (ci := 2) (q0 := 0) rfl rfl, preR_of hP hK hE [.ref (a 0), .int (nI k), .int 1]⟩ rfl rfl hl.1 rfl (lv_room (Nat.le_of_ble_eq_true rfl)) dX2_targetOf_39 ⟨Nat.zero_le _, Nat.zero_le _⟩)) (fun r hr9 => ?_)
        subst hr9
        refine lv_istore (lv' := [(6, .int (traitF σ (nI k) 1)), (5, .int (nI k)), (4, .int z), (3, .int t), (2, .int (traitF σ x 1)), (0, .ref (a 0)), (1, .int x)]) hx hb dX2_targetOf_42 hl (by decide) rfl (fun ls hl => ?_)
        refine lv_aload_n hx hb dX2_targetOf_44 rfl (lv_at hl 5 rfl) ?_
        refine lv_iload_n hx hb dX2_targetOf_45 rfl (lv_at hl 6 rfl) ?_
        refine lv_iload hx hb dX2_targetOf_46 (lv_at hl 1 rfl) ?_
        refine vp_callSi (va_Run.run (va_runV (As := [.int x, .int (nI k)]) (rest := []) ⟨hx, hb, hml, hown, hts⟩ (c_X2_isFoe l D cI a σ x (nI k)) (cwV 2 hts gX2_targetOf_X2_isFoe rfl rfl rfl (by decide +kernel) ⟨Nat.le_of_ble_eq_true rfl, Nat.le_of_ble_eq_true rfl⟩) ⟨preR_blind, va_recv hK hP (ci := 2) (q0 := 0) rfl rfl, preR_of hP hK hE [.ref (a 0), .int x, .int (nI k)]⟩ rfl rfl hl.1 rfl (lv_room (Nat.le_of_ble_eq_true rfl)) dX2_targetOf_48 ⟨Nat.zero_le _, Nat.zero_le _⟩)) (fun r hr9 => ?_)
        subst hr9
        refine w_bz (tgt := 86) hx hb dX2_targetOf_51 (by decide) (fun c_51 => ?_) (fun c_51 => ?_)
        · refine lv_iinc (v := (nI (k + 1))) (lv' := [(5, .int (nI (k + 1))), (6, .int (traitF σ (nI k) 1)), (4, .int z), (3, .int t), (2, .int (traitF σ x 1)), (0, .ref (a 0)), (1, .int x)]) hx hb dX2_targetOf_86 hl (k := 1) rfl (nI_1 k) (by decide) rfl (fun ls hl => ?_)
          refine lv_goto (tgt := 26) hx hb dX2_targetOf_89 (by decide) ?_
          exact ih26 (k + 1) t z 0 (by omega) (by rw [hsp]; simp [targetL, c_32, c_51]) ls (lv_sub hl [0, 2, 3, 4, 5, 6] rfl)
        · refine lv_iload_n hx hb dX2_targetOf_54 rfl (lv_at hl 4 rfl) ?_
          refine lv_iload hx hb dX2_targetOf_55 (lv_at hl 0 rfl) ?_
          refine vp_callSi (va_Run.run (va_runS (As := [.int (traitF σ x 1), .int (traitF σ (nI k) 1)]) (rest := []) ⟨hx, hb, hml, hown, hts⟩ (c_X2_apart l (traitF σ x 1) (traitF σ (nI k) 1)) (va_cwS 2 hts gX2_targetOf_X2_apart rfl rfl rfl (by decide +kernel) ⟨Nat.le_of_ble_eq_true rfl, Nat.le_of_ble_eq_true rfl⟩) ⟨fun _ _ _ _ q => q, fun _ _ _ => ⟨rfl, trivial⟩⟩ rfl rfl hl.1 rfl (lv_room (Nat.le_of_ble_eq_true rfl)) dX2_targetOf_57 ⟨Nat.zero_le _, Nat.zero_le _⟩)) (fun r hr9 => ?_)
          subst hr9
          refine lv_iload hx hb dX2_targetOf_60 (lv_at hl 2 rfl) ?_
          refine lv_icmp_ge (tgt := 86) hx hb dX2_targetOf_62 (by decide) (fun c_62 => ?_) (fun c_62 => ?_)
          · refine lv_iinc (v := (nI (k + 1))) (lv' := [(5, .int (nI (k + 1))), (6, .int (traitF σ (nI k) 1)), (4, .int z), (3, .int t), (2, .int (traitF σ x 1)), (0, .ref (a 0)), (1, .int x)]) hx hb dX2_targetOf_86 hl (k := 1) rfl (nI_1 k) (by decide) rfl (fun ls hl => ?_)
            refine lv_goto (tgt := 26) hx hb dX2_targetOf_89 (by decide) ?_
            exact ih26 (k + 1) t z 0 (by omega) (by rw [hsp]; simp [targetL, c_32, c_51, c_62]) ls (lv_sub hl [0, 2, 3, 4, 5, 6] rfl)
          · refine lv_aload_n hx hb dX2_targetOf_65 rfl (lv_at hl 5 rfl) ?_
            refine lv_iload_n hx hb dX2_targetOf_66 rfl (lv_at hl 4 rfl) ?_
            refine lv_iload hx hb dX2_targetOf_67 (lv_at hl 0 rfl) ?_
            refine vp_callSi (va_Run.run (va_runV (As := [.int (traitF σ x 1), .int (traitF σ (nI k) 1)]) (rest := []) ⟨hx, hb, hml, hown, hts⟩ (c_X2_isSeenFrom l D cI a σ (traitF σ x 1) (traitF σ (nI k) 1)) (cwV 2 hts gX2_targetOf_X2_isSeenFrom rfl rfl rfl (by decide +kernel) ⟨Nat.le_of_ble_eq_true rfl, Nat.le_of_ble_eq_true rfl⟩) ⟨preR_blind, va_recv hK hP (ci := 2) (q0 := 0) rfl rfl, preR_of hP hK hE [.ref (a 0), .int (traitF σ x 1), .int (traitF σ (nI k) 1)]⟩ rfl rfl hl.1 rfl (lv_room (Nat.le_of_ble_eq_true rfl)) dX2_targetOf_69 ⟨Nat.zero_le _, Nat.zero_le _⟩)) (fun r hr9 => ?_)
            subst hr9
            refine w_bz (tgt := 86) hx hb dX2_targetOf_72 (by decide) (fun c_72 => ?_) (fun c_72 => ?_)
            · refine lv_iinc (v := (nI (k + 1))) (lv' := [(5, .int (nI (k + 1))), (6, .int (traitF σ (nI k) 1)), (4, .int z), (3, .int t), (2, .int (traitF σ x 1)), (0, .ref (a 0)), (1, .int x)]) hx hb dX2_targetOf_86 hl (k := 1) rfl (nI_1 k) (by decide) rfl (fun ls hl => ?_)
              refine lv_goto (tgt := 26) hx hb dX2_targetOf_89 (by decide) ?_
              exact ih26 (k + 1) t z 0 (by omega) (by rw [hsp]; simp [targetL, c_32, c_51, c_62, c_72]) ls (lv_sub hl [0, 2, 3, 4, 5, 6] rfl)
            · refine lv_iload hx hb dX2_targetOf_75 (lv_at hl 1 rfl) ?_
              refine lv_istore_n (lv' := [(3, .int (nI k)), (6, .int (traitF σ (nI k) 1)), (5, .int (nI k)), (4, .int z), (2, .int (traitF σ x 1)), (0, .ref (a 0)), (1, .int x)]) hx hb dX2_targetOf_77 rfl hl (by decide) rfl (fun ls hl => ?_)
              refine lv_iload_n hx hb dX2_targetOf_78 rfl (lv_at hl 4 rfl) ?_
              refine lv_iload hx hb dX2_targetOf_79 (lv_at hl 1 rfl) ?_
              refine vp_callSi (va_Run.run (va_runS (As := [.int (traitF σ x 1), .int (traitF σ (nI k) 1)]) (rest := []) ⟨hx, hb, hml, hown, hts⟩ (c_X2_apart l (traitF σ x 1) (traitF σ (nI k) 1)) (va_cwS 2 hts gX2_targetOf_X2_apart rfl rfl rfl (by decide +kernel) ⟨Nat.le_of_ble_eq_true rfl, Nat.le_of_ble_eq_true rfl⟩) ⟨fun _ _ _ _ q => q, fun _ _ _ => ⟨rfl, trivial⟩⟩ rfl rfl hl.1 rfl (lv_room (Nat.le_of_ble_eq_true rfl)) dX2_targetOf_81 ⟨Nat.zero_le _, Nat.zero_le _⟩)) (fun r hr9 => ?_)
              subst hr9
              refine lv_istore (lv' := [(4, .int (apartF (traitF σ x 1) (traitF σ (nI k) 1))), (3, .int (nI k)), (6, .int (traitF σ (nI k) 1)), (5, .int (nI k)), (2, .int (traitF σ x 1)), (0, .ref (a 0)), (1, .int x)]) hx hb dX2_targetOf_84 hl (by decide) rfl (fun ls hl => ?_)
              refine lv_iinc (v := (nI (k + 1))) (lv' := [(5, .int (nI (k + 1))), (4, .int (apartF (traitF σ x 1) (traitF σ (nI k) 1))), (3, .int (nI k)), (6, .int (traitF σ (nI k) 1)), (2, .int (traitF σ x 1)), (0, .ref (a 0)), (1, .int x)]) hx hb dX2_targetOf_86 hl (k := 3) rfl (nI_1 k) (by decide) rfl (fun ls hl => ?_)
              refine lv_goto (tgt := 26) hx hb dX2_targetOf_89 (by decide) ?_
              exact ih26 (k + 1) (nI k) (apartF (traitF σ x 1) (traitF σ (nI k) 1)) 0 (by omega) (by rw [hsp]; simp [targetL, c_32, c_51, c_62, c_72]) ls (lv_sub hl [0, 1, 2, 4, 5, 6] rfl)
    exact L26 (s_n σ) 0 (-1) 8 0 (by omega) (by simp [targetF, c_5]) ls (lv_sub hl [0, 1, 2, 3, 4, 5] rfl)
  · refine lv_iconst (v := (-1)) hx hb dX2_targetOf_8 (by decide) ?_
    exact W.iret (v := (-1)) hx hb hr (fun t ht _ => ⟨_, rfl, by simp [targetF, c_5], ht⟩) hnil dX2_targetOf_9

set_option maxHeartbeats 4000000 in
set_option maxRecDepth 100000 in
theorem c_X2_firstFoe (l : Launch) (D : va_G) (cI : ClassId) (a : Nat → Nat) (σ : SS) (x : Int32) (hn : s_n σ ≤ 10) : Met l yX2_firstFoe wsX2_firstFoe ({ frames := 2, cells := 0, slots := 0, locals := 45 } : Room) (va_Pc [.ref (a 0), .int x] (preR D cI (sW cI a σ))) (vp_Si (fun r => r = firstFoeF σ x)) 0 0 (fun _ => False) := by
  refine Met.ofW (cc := cX2_firstFoe) (maxL := 3) (ret := (some .int)) (by decide) rfl ?_
  intro p e s m args below meth c s₁ B hml hv
  obtain ⟨rfl, hP, hK, hE⟩ := hv
  have hx := B.exec
  have hb := B.bytes
  have hr := B.returns
  have hts := atoms_spec (ws := wsX2_firstFoe) B.pre
  have hown : s.vm.findClass RX2 = some m.cls := findClass_of_methodNamed B.named
  have hlocks := B.notSynchronized
  have hl := lv_entry ([.ref (a 0), .int x]) (n := 3) (Nat.le_of_ble_eq_true rfl)
  rw [lg_entry_eq]
  generalize (lg_sl ([.ref (a 0), .int x]) ++ List.replicate (3 - (lg_sl ([.ref (a 0), .int x])).length) Slot.unset).toArray = ls at hl ⊢
  have hl : lv_has ls 3 [(0, .ref (a 0)), (1, .int x)] := hl
  refine lv_iconst (v := 0) hx hb dX2_firstFoe_0 (by decide) ?_
  refine lv_istore_n (lv' := [(2, .int 0), (0, .ref (a 0)), (1, .int x)]) hx hb dX2_firstFoe_1 rfl hl (by decide) rfl (fun ls hl => ?_)
  have L2 : ∀ (n k : Nat) (hk : k + n = s_n σ) (hsp : firstFoeF σ x = fstI (fun j => foeB σ x (nI j)) n k) (ls : Array Slot), lv_has ls 3 [(2, .int (nI k)), (0, .ref (a 0)), (1, .int x)] → W p l e ({ frames := 2, cells := 0, slots := 0, locals := 45 } : Room) s m ([.ref (a 0), .int x] : List Value).toArray below meth c s.heap [] 0 0 (MQ below (vp_Si (fun r => r = firstFoeF σ x)) ([.ref (a 0), .int x] : List Value).toArray s 0 0 (fun _ => False)) (F0 m 2 ls []) := by
    intro n
    induction n with
    | zero =>
      intro k hk hsp ls hl
      refine lv_iload_n hx hb dX2_firstFoe_2 rfl (lv_at hl 0 rfl) ?_
      refine lv_aload_n hx hb dX2_firstFoe_3 rfl (lv_at hl 1 rfl) ?_
      refine va_get (D := D) (ci := 2) (v := .int (nI (s_n σ))) (C := RX2) (T := TX2) (N := 8) hx hb hts (by decide +kernel) hown hK hP 0 rfl rfl 5 (by decide) (hts (.fieldLink RX2 39 "Warren$State" "beings" "I") (by decide +kernel)) (fun _ h9 => h9) rfl dX2_firstFoe_4 ?_
      refine lv_icmp_ge (tgt := 27) hx hb dX2_firstFoe_7 (by decide) (fun c_7 => ?_) (fun c_7 => absurd (nI_le (by omega) (by omega)) c_7)
      refine lv_iconst (v := (-1)) hx hb dX2_firstFoe_27 (by decide) ?_
      exact W.iret (v := (-1)) hx hb hr (fun t ht _ => ⟨_, rfl, by rw [hsp]; rfl, ht⟩) hnil dX2_firstFoe_28
    | succ n ih2 =>
      intro k hk hsp ls hl
      refine lv_iload_n hx hb dX2_firstFoe_2 rfl (lv_at hl 0 rfl) ?_
      refine lv_aload_n hx hb dX2_firstFoe_3 rfl (lv_at hl 1 rfl) ?_
      refine va_get (D := D) (ci := 2) (v := .int (nI (s_n σ))) (C := RX2) (T := TX2) (N := 8) hx hb hts (by decide +kernel) hown hK hP 0 rfl rfl 5 (by decide) (hts (.fieldLink RX2 39 "Warren$State" "beings" "I") (by decide +kernel)) (fun _ h9 => h9) rfl dX2_firstFoe_4 ?_
      refine lv_icmp_ge (tgt := 27) hx hb dX2_firstFoe_7 (by decide) (fun c_7 => absurd c_7 (nI_ge (by omega) (by omega))) (fun c_7 => ?_)
      refine lv_aload_n hx hb dX2_firstFoe_10 rfl (lv_at hl 1 rfl) ?_
      refine lv_iload_n hx hb dX2_firstFoe_11 rfl (lv_at hl 2 rfl) ?_
      refine lv_iload_n hx hb dX2_firstFoe_12 rfl (lv_at hl 0 rfl) ?_
      refine vp_callSi (va_Run.run (va_runV (As := [.int x, .int (nI k)]) (rest := []) ⟨hx, hb, hml, hown, hts⟩ (c_X2_isFoe l D cI a σ x (nI k)) (cwV 2 hts gX2_firstFoe_X2_isFoe rfl rfl rfl (by decide +kernel) ⟨Nat.le_of_ble_eq_true rfl, Nat.le_of_ble_eq_true rfl⟩) ⟨preR_blind, va_recv hK hP (ci := 2) (q0 := 0) rfl rfl, preR_of hP hK hE [.ref (a 0), .int x, .int (nI k)]⟩ rfl rfl hl.1 rfl (lv_room (Nat.le_of_ble_eq_true rfl)) dX2_firstFoe_13 ⟨Nat.zero_le _, Nat.zero_le _⟩)) (fun r hr9 => ?_)
      subst hr9
      refine w_bz (tgt := 21) hx hb dX2_firstFoe_16 (by decide) (fun c_16 => ?_) (fun c_16 => ?_)
      · refine lv_iinc (v := (nI (k + 1))) (lv' := [(2, .int (nI (k + 1))), (0, .ref (a 0)), (1, .int x)]) hx hb dX2_firstFoe_21 hl (k := 0) rfl (nI_1 k) (by decide) rfl (fun ls hl => ?_)
        refine lv_goto (tgt := 2) hx hb dX2_firstFoe_24 (by decide) ?_
        exact ih2 (k + 1) (by omega) (by rw [hsp]; simp [fstI, c_16]) ls (lv_sub hl [0, 1, 2] rfl)
      · refine lv_iload_n hx hb dX2_firstFoe_19 rfl (lv_at hl 0 rfl) ?_
        exact W.iret (v := (nI k)) hx hb hr (fun t ht _ => ⟨_, rfl, by rw [hsp]; simp [fstI, c_16], ht⟩) hnil dX2_firstFoe_20
  exact L2 (s_n σ) 0 (by omega) rfl ls (lv_sub hl [0, 1, 2] rfl)

set_option maxHeartbeats 4000000 in
set_option maxRecDepth 100000 in
theorem c_X2_watchersOf (l : Launch) (D : va_G) (cI : ClassId) (a : Nat → Nat) (σ : SS) (x y : Int32) (hn : s_n σ ≤ 10) : Met l yX2_watchersOf wsX2_watchersOf ({ frames := 3, cells := 0, slots := 0, locals := 70 } : Room) (va_Pc [.ref (a 0), .int x, .int y] (preR D cI (sW cI a σ))) (vp_Si (fun r => r = watchF σ x y)) 0 0 (fun _ => False) := by
  refine Met.ofW (cc := cX2_watchersOf) (maxL := 5) (ret := (some .int)) (by decide) rfl ?_
  intro p e s m args below meth c s₁ B hml hv
  obtain ⟨rfl, hP, hK, hE⟩ := hv
  have hx := B.exec
  have hb := B.bytes
  have hr := B.returns
  have hts := atoms_spec (ws := wsX2_watchersOf) B.pre
  have hown : s.vm.findClass RX2 = some m.cls := findClass_of_methodNamed B.named
  have hlocks := B.notSynchronized
  have hl := lv_entry ([.ref (a 0), .int x, .int y]) (n := 5) (Nat.le_of_ble_eq_true rfl)
  rw [lg_entry_eq]
  generalize (lg_sl ([.ref (a 0), .int x, .int y]) ++ List.replicate (5 - (lg_sl ([.ref (a 0), .int x, .int y])).length) Slot.unset).toArray = ls at hl ⊢
  have hl : lv_has ls 5 [(0, .ref (a 0)), (1, .int x), (2, .int y)] := hl
  refine lv_iconst (v := 0) hx hb dX2_watchersOf_0 (by decide) ?_
  refine lv_istore_n (lv' := [(3, .int 0), (0, .ref (a 0)), (1, .int x), (2, .int y)]) hx hb dX2_watchersOf_1 rfl hl (by decide) rfl (fun ls hl => ?_)
  refine lv_iconst (v := 0) hx hb dX2_watchersOf_2 (by decide) ?_
  refine lv_istore (lv' := [(4, .int 0), (3, .int 0), (0, .ref (a 0)), (1, .int x), (2, .int y)]) hx hb dX2_watchersOf_3 hl (by decide) rfl (fun ls hl => ?_)
  have L5 : ∀ (n k : Nat) (t : Int32) (hk : k + n = s_n σ) (hsp : watchF σ x y = watchL σ x y n k t) (ls : Array Slot), lv_has ls 5 [(4, .int (nI k)), (3, .int t), (0, .ref (a 0)), (1, .int x), (2, .int y)] → W p l e ({ frames := 3, cells := 0, slots := 0, locals := 70 } : Room) s m ([.ref (a 0), .int x, .int y] : List Value).toArray below meth c s.heap [] 0 0 (MQ below (vp_Si (fun r => r = watchF σ x y)) ([.ref (a 0), .int x, .int y] : List Value).toArray s 0 0 (fun _ => False)) (F0 m 5 ls []) := by
    intro n
    induction n with
    | zero =>
      intro k t hk hsp ls hl
      refine lv_iload hx hb dX2_watchersOf_5 (lv_at hl 0 rfl) ?_
      refine lv_aload_n hx hb dX2_watchersOf_7 rfl (lv_at hl 2 rfl) ?_
      refine va_get (D := D) (ci := 2) (v := .int (nI (s_n σ))) (C := RX2) (T := TX2) (N := 8) hx hb hts (by decide +kernel) hown hK hP 0 rfl rfl 5 (by decide) (hts (.fieldLink RX2 39 "Warren$State" "beings" "I") (by decide +kernel)) (fun _ h9 => h9) rfl dX2_watchersOf_8 ?_
      refine lv_icmp_ge (tgt := 58) hx hb dX2_watchersOf_11 (by decide) (fun c_11 => ?_) (fun c_11 => absurd (nI_le (by omega) (by omega)) c_11)
      refine lv_iload_n hx hb dX2_watchersOf_58 rfl (lv_at hl 1 rfl) ?_
      exact W.iret (v := t) hx hb hr (fun t ht _ => ⟨_, rfl, by rw [hsp]; rfl, ht⟩) hnil dX2_watchersOf_59
    | succ n ih5 =>
      intro k t hk hsp ls hl
      refine lv_iload hx hb dX2_watchersOf_5 (lv_at hl 0 rfl) ?_
      refine lv_aload_n hx hb dX2_watchersOf_7 rfl (lv_at hl 2 rfl) ?_
      refine va_get (D := D) (ci := 2) (v := .int (nI (s_n σ))) (C := RX2) (T := TX2) (N := 8) hx hb hts (by decide +kernel) hown hK hP 0 rfl rfl 5 (by decide) (hts (.fieldLink RX2 39 "Warren$State" "beings" "I") (by decide +kernel)) (fun _ h9 => h9) rfl dX2_watchersOf_8 ?_
      refine lv_icmp_ge (tgt := 58) hx hb dX2_watchersOf_11 (by decide) (fun c_11 => absurd c_11 (nI_ge (by omega) (by omega))) (fun c_11 => ?_)
      refine lv_aload_n hx hb dX2_watchersOf_14 rfl (lv_at hl 2 rfl) ?_
      refine lv_iload hx hb dX2_watchersOf_15 (lv_at hl 0 rfl) ?_
      refine vp_callSi (va_Run.run (va_runV (As := [.int (nI k)]) (rest := []) ⟨hx, hb, hml, hown, hts⟩ (c_X2_isAlive l D cI a σ (nI k)) (cwV 1 hts gX2_watchersOf_X2_isAlive rfl rfl rfl (by decide +kernel) ⟨Nat.le_of_ble_eq_true rfl, Nat.le_of_ble_eq_true rfl⟩) ⟨preR_blind, va_recv hK hP (ci := 2) (q0 := 0) rfl rfl, preR_of hP hK hE [.ref (a 0), .int (nI k)]⟩ rfl rfl hl.1 rfl (lv_room (Nat.le_of_ble_eq_true rfl)) dX2_watchersOf_17 ⟨Nat.zero_le _, Nat.zero_le _⟩)) (fun r hr9 => ?_)
      subst hr9
      refine w_bz (tgt := 52) hx hb dX2_watchersOf_20 (by decide) (fun c_20 => ?_) (fun c_20 => ?_)
      · refine lv_iinc (v := (nI (k + 1))) (lv' := [(4, .int (nI (k + 1))), (3, .int t), (0, .ref (a 0)), (1, .int x), (2, .int y)]) hx hb dX2_watchersOf_52 hl (k := 0) rfl (nI_1 k) (by decide) rfl (fun ls hl => ?_)
        refine lv_goto (tgt := 5) hx hb dX2_watchersOf_55 (by decide) ?_
        exact ih5 (k + 1) t (by omega) (by rw [hsp]; simp [watchL, c_11, c_20]) ls (lv_sub hl [0, 1, 2, 3, 4] rfl)
      · refine lv_aload_n hx hb dX2_watchersOf_23 rfl (lv_at hl 2 rfl) ?_
        refine lv_iload hx hb dX2_watchersOf_24 (lv_at hl 0 rfl) ?_
        refine lv_iconst (v := 0) hx hb dX2_watchersOf_26 (by decide) ?_
        refine vp_callSi (va_Run.run (va_runV (As := [.int (nI k), .int 0]) (rest := []) ⟨hx, hb, hml, hown, hts⟩ (c_X2_trait l D cI a σ (nI k) 0) (cwV 2 hts gX2_watchersOf_X2_trait rfl rfl rfl (by decide +kernel) ⟨Nat.le_of_ble_eq_true rfl, Nat.le_of_ble_eq_true rfl⟩) ⟨preR_blind, va_recv hK hP (ci := 2) (q0 := 0) rfl rfl, preR_of hP hK hE [.ref (a 0), .int (nI k), .int 0]⟩ rfl rfl hl.1 rfl (lv_room (Nat.le_of_ble_eq_true rfl)) dX2_watchersOf_27 ⟨Nat.zero_le _, Nat.zero_le _⟩)) (fun r hr9 => ?_)
        subst hr9
        refine lv_iload_n hx hb dX2_watchersOf_30 rfl (lv_at hl 3 rfl) ?_
        refine lv_icmp_eq (tgt := 52) hx hb dX2_watchersOf_31 (by decide) (fun c_31 => ?_) (fun c_31 => ?_)
        · refine lv_iinc (v := (nI (k + 1))) (lv' := [(4, .int (nI (k + 1))), (3, .int t), (0, .ref (a 0)), (1, .int x), (2, .int y)]) hx hb dX2_watchersOf_52 hl (k := 0) rfl (nI_1 k) (by decide) rfl (fun ls hl => ?_)
          refine lv_goto (tgt := 5) hx hb dX2_watchersOf_55 (by decide) ?_
          exact ih5 (k + 1) t (by omega) (by rw [hsp]; simp [watchL, c_11, c_20, c_31]) ls (lv_sub hl [0, 1, 2, 3, 4] rfl)
        · refine lv_aload_n hx hb dX2_watchersOf_34 rfl (lv_at hl 2 rfl) ?_
          refine lv_aload_n hx hb dX2_watchersOf_35 rfl (lv_at hl 2 rfl) ?_
          refine lv_iload hx hb dX2_watchersOf_36 (lv_at hl 0 rfl) ?_
          refine lv_iconst (v := 1) hx hb dX2_watchersOf_38 (by decide) ?_
          refine vp_callSi (va_Run.run (va_runV (As := [.int (nI k), .int 1]) (rest := [.ref (a 0)]) ⟨hx, hb, hml, hown, hts⟩ (c_X2_trait l D cI a σ (nI k) 1) (cwV 2 hts gX2_watchersOf_X2_trait rfl rfl rfl (by decide +kernel) ⟨Nat.le_of_ble_eq_true rfl, Nat.le_of_ble_eq_true rfl⟩) ⟨preR_blind, va_recv hK hP (ci := 2) (q0 := 0) rfl rfl, preR_of hP hK hE [.ref (a 0), .int (nI k), .int 1]⟩ rfl rfl hl.1 rfl (lv_room (Nat.le_of_ble_eq_true rfl)) dX2_watchersOf_39 ⟨Nat.zero_le _, Nat.zero_le _⟩)) (fun r hr9 => ?_)
          subst hr9
          refine lv_iload_n hx hb dX2_watchersOf_42 rfl (lv_at hl 4 rfl) ?_
          refine vp_callSi (va_Run.run (va_runV (As := [.int (traitF σ (nI k) 1), .int y]) (rest := []) ⟨hx, hb, hml, hown, hts⟩ (c_X2_isSeenFrom l D cI a σ (traitF σ (nI k) 1) y) (cwV 2 hts gX2_watchersOf_X2_isSeenFrom rfl rfl rfl (by decide +kernel) ⟨Nat.le_of_ble_eq_true rfl, Nat.le_of_ble_eq_true rfl⟩) ⟨preR_blind, va_recv hK hP (ci := 2) (q0 := 0) rfl rfl, preR_of hP hK hE [.ref (a 0), .int (traitF σ (nI k) 1), .int y]⟩ rfl rfl hl.1 rfl (lv_room (Nat.le_of_ble_eq_true rfl)) dX2_watchersOf_43 ⟨Nat.zero_le _, Nat.zero_le _⟩)) (fun r hr9 => ?_)
          subst hr9
          refine w_bz (tgt := 52) hx hb dX2_watchersOf_46 (by decide) (fun c_46 => ?_) (fun c_46 => ?_)
          · refine lv_iinc (v := (nI (k + 1))) (lv' := [(4, .int (nI (k + 1))), (3, .int t), (0, .ref (a 0)), (1, .int x), (2, .int y)]) hx hb dX2_watchersOf_52 hl (k := 0) rfl (nI_1 k) (by decide) rfl (fun ls hl => ?_)
            refine lv_goto (tgt := 5) hx hb dX2_watchersOf_55 (by decide) ?_
            exact ih5 (k + 1) t (by omega) (by rw [hsp]; simp [watchL, c_11, c_20, c_31, c_46]) ls (lv_sub hl [0, 1, 2, 3, 4] rfl)
          · refine lv_iinc (v := (t + 1)) (lv' := [(3, .int (t + 1)), (4, .int (nI k)), (0, .ref (a 0)), (1, .int x), (2, .int y)]) hx hb dX2_watchersOf_49 hl (k := 1) rfl rfl (by decide) rfl (fun ls hl => ?_)
            refine lv_iinc (v := (nI (k + 1))) (lv' := [(4, .int (nI (k + 1))), (3, .int (t + 1)), (0, .ref (a 0)), (1, .int x), (2, .int y)]) hx hb dX2_watchersOf_52 hl (k := 1) rfl (nI_1 k) (by decide) rfl (fun ls hl => ?_)
            refine lv_goto (tgt := 5) hx hb dX2_watchersOf_55 (by decide) ?_
            exact ih5 (k + 1) (t + 1) (by omega) (by rw [hsp]; simp [watchL, c_11, c_20, c_31, c_46]) ls (lv_sub hl [0, 1, 2, 3, 4] rfl)
  exact L5 (s_n σ) 0 0 (by omega) rfl ls (lv_sub hl [0, 1, 2, 3, 4] rfl)

set_option maxHeartbeats 4000000 in
set_option maxRecDepth 100000 in
theorem c_X2_hitOf (l : Launch) (D : va_G) (cI : ClassId) (a : Nat → Nat) (σ : SS) (x y : Int32) : Met l yX2_hitOf wsX2_hitOf ({ frames := 2, cells := 0, slots := 0, locals := 44 } : Room) (va_Pc [.ref (a 0), .int x, .int y] (preR D cI (sW cI a σ))) (vp_Si (fun r => r = hitF σ x y)) 0 0 (fun _ => False) := by
  refine Met.ofW (cc := cX2_hitOf) (maxL := 5) (ret := (some .int)) (by decide) rfl ?_
  intro p e s m args below meth c s₁ B hml hv
  obtain ⟨rfl, hP, hK, hE⟩ := hv
  have hx := B.exec
  have hb := B.bytes
  have hr := B.returns
  have hts := atoms_spec (ws := wsX2_hitOf) B.pre
  have hown : s.vm.findClass RX2 = some m.cls := findClass_of_methodNamed B.named
  have hlocks := B.notSynchronized
  have hl := lv_entry ([.ref (a 0), .int x, .int y]) (n := 5) (Nat.le_of_ble_eq_true rfl)
  rw [lg_entry_eq]
  generalize (lg_sl ([.ref (a 0), .int x, .int y]) ++ List.replicate (5 - (lg_sl ([.ref (a 0), .int x, .int y])).length) Slot.unset).toArray = ls at hl ⊢
  have hl : lv_has ls 5 [(0, .ref (a 0)), (1, .int x), (2, .int y)] := hl
  refine lv_aload_n hx hb dX2_hitOf_0 rfl (lv_at hl 0 rfl) ?_
  refine lv_iload_n hx hb dX2_hitOf_1 rfl (lv_at hl 1 rfl) ?_
  refine vp_callSi (va_Run.run (va_runV (As := [.int x]) (rest := []) ⟨hx, hb, hml, hown, hts⟩ (c_X2_isAlive l D cI a σ x) (cwV 1 hts gX2_hitOf_X2_isAlive rfl rfl rfl (by decide +kernel) ⟨Nat.le_of_ble_eq_true rfl, Nat.le_of_ble_eq_true rfl⟩) ⟨preR_blind, va_recv hK hP (ci := 2) (q0 := 0) rfl rfl, preR_of hP hK hE [.ref (a 0), .int x]⟩ rfl rfl hl.1 rfl (lv_room (Nat.le_of_ble_eq_true rfl)) dX2_hitOf_2 ⟨Nat.zero_le _, Nat.zero_le _⟩)) (fun r hr9 => ?_)
  subst hr9
  refine w_bz (tgt := 16) hx hb dX2_hitOf_5 (by decide) (fun c_5 => ?_) (fun c_5 => ?_)
  · refine lv_iconst (v := 0) hx hb dX2_hitOf_16 (by decide) ?_
    exact W.iret (v := 0) hx hb hr (fun t ht _ => ⟨_, rfl, by first | rfl | (simp only [hitF, c_5, Bool.false_eq_true, if_false, if_true]; done) | (simp only [hitF, c_5, Bool.false_eq_true, if_false, if_true]; rfl) | (simp [hitF, c_5]; done) | (simp [hitF, c_5]; rfl), ht⟩) hnil dX2_hitOf_17
  · refine lv_aload_n hx hb dX2_hitOf_8 rfl (lv_at hl 0 rfl) ?_
    refine lv_iload_n hx hb dX2_hitOf_9 rfl (lv_at hl 2 rfl) ?_
    refine vp_callSi (va_Run.run (va_runV (As := [.int y]) (rest := []) ⟨hx, hb, hml, hown, hts⟩ (c_X2_isAlive l D cI a σ y) (cwV 1 hts gX2_hitOf_X2_isAlive rfl rfl rfl (by decide +kernel) ⟨Nat.le_of_ble_eq_true rfl, Nat.le_of_ble_eq_true rfl⟩) ⟨preR_blind, va_recv hK hP (ci := 2) (q0 := 0) rfl rfl, preR_of hP hK hE [.ref (a 0), .int y]⟩ rfl rfl hl.1 rfl (lv_room (Nat.le_of_ble_eq_true rfl)) dX2_hitOf_10 ⟨Nat.zero_le _, Nat.zero_le _⟩)) (fun r hr9 => ?_)
    subst hr9
    refine w_bnz (tgt := 18) hx hb dX2_hitOf_13 (by decide) (fun c_13 => ?_) (fun c_13 => ?_)
    · refine lv_aload_n hx hb dX2_hitOf_18 rfl (lv_at hl 0 rfl) ?_
      refine lv_iload_n hx hb dX2_hitOf_19 rfl (lv_at hl 1 rfl) ?_
      refine lv_iconst (v := 4) hx hb dX2_hitOf_20 (by decide) ?_
      refine vp_callSi (va_Run.run (va_runV (As := [.int x, .int 4]) (rest := []) ⟨hx, hb, hml, hown, hts⟩ (c_X2_trait l D cI a σ x 4) (cwV 2 hts gX2_hitOf_X2_trait rfl rfl rfl (by decide +kernel) ⟨Nat.le_of_ble_eq_true rfl, Nat.le_of_ble_eq_true rfl⟩) ⟨preR_blind, va_recv hK hP (ci := 2) (q0 := 0) rfl rfl, preR_of hP hK hE [.ref (a 0), .int x, .int 4]⟩ rfl rfl hl.1 rfl (lv_room (Nat.le_of_ble_eq_true rfl)) dX2_hitOf_21 ⟨Nat.zero_le _, Nat.zero_le _⟩)) (fun r hr9 => ?_)
      subst hr9
      refine lv_aload_n hx hb dX2_hitOf_24 rfl (lv_at hl 0 rfl) ?_
      refine lv_iload_n hx hb dX2_hitOf_25 rfl (lv_at hl 1 rfl) ?_
      refine lv_iconst (v := 2) hx hb dX2_hitOf_26 (by decide) ?_
      refine vp_callSi (va_Run.run (va_runV (As := [.int x, .int 2]) (rest := [.int (traitF σ x 4)]) ⟨hx, hb, hml, hown, hts⟩ (c_X2_stackOf l D cI a σ x 2) (cwV 2 hts gX2_hitOf_X2_stackOf rfl rfl rfl (by decide +kernel) ⟨Nat.le_of_ble_eq_true rfl, Nat.le_of_ble_eq_true rfl⟩) ⟨preR_blind, va_recv hK hP (ci := 2) (q0 := 0) rfl rfl, preR_of hP hK hE [.ref (a 0), .int x, .int 2]⟩ rfl rfl hl.1 rfl (lv_room (Nat.le_of_ble_eq_true rfl)) dX2_hitOf_27 ⟨Nat.zero_le _, Nat.zero_le _⟩)) (fun r hr9 => ?_)
      subst hr9
      refine lv_iadd hx hb dX2_hitOf_30 ?_
      refine lv_istore_n (lv' := [(3, .int ((traitF σ x 4) + (stackF σ x 2))), (0, .ref (a 0)), (1, .int x), (2, .int y)]) hx hb dX2_hitOf_31 rfl hl (by decide) rfl (fun ls hl => ?_)
      refine lv_aload_n hx hb dX2_hitOf_32 rfl (lv_at hl 1 rfl) ?_
      refine lv_iload_n hx hb dX2_hitOf_33 rfl (lv_at hl 3 rfl) ?_
      refine lv_iconst (v := 5) hx hb dX2_hitOf_34 (by decide) ?_
      refine vp_callSi (va_Run.run (va_runV (As := [.int y, .int 5]) (rest := []) ⟨hx, hb, hml, hown, hts⟩ (c_X2_trait l D cI a σ y 5) (cwV 2 hts gX2_hitOf_X2_trait rfl rfl rfl (by decide +kernel) ⟨Nat.le_of_ble_eq_true rfl, Nat.le_of_ble_eq_true rfl⟩) ⟨preR_blind, va_recv hK hP (ci := 2) (q0 := 0) rfl rfl, preR_of hP hK hE [.ref (a 0), .int y, .int 5]⟩ rfl rfl hl.1 rfl (lv_room (Nat.le_of_ble_eq_true rfl)) dX2_hitOf_35 ⟨Nat.zero_le _, Nat.zero_le _⟩)) (fun r hr9 => ?_)
      subst hr9
      refine lv_aload_n hx hb dX2_hitOf_38 rfl (lv_at hl 1 rfl) ?_
      refine lv_iload_n hx hb dX2_hitOf_39 rfl (lv_at hl 3 rfl) ?_
      refine lv_iconst (v := 3) hx hb dX2_hitOf_40 (by decide) ?_
      refine vp_callSi (va_Run.run (va_runV (As := [.int y, .int 3]) (rest := [.int (traitF σ y 5)]) ⟨hx, hb, hml, hown, hts⟩ (c_X2_stackOf l D cI a σ y 3) (cwV 2 hts gX2_hitOf_X2_stackOf rfl rfl rfl (by decide +kernel) ⟨Nat.le_of_ble_eq_true rfl, Nat.le_of_ble_eq_true rfl⟩) ⟨preR_blind, va_recv hK hP (ci := 2) (q0 := 0) rfl rfl, preR_of hP hK hE [.ref (a 0), .int y, .int 3]⟩ rfl rfl hl.1 rfl (lv_room (Nat.le_of_ble_eq_true rfl)) dX2_hitOf_41 ⟨Nat.zero_le _, Nat.zero_le _⟩)) (fun r hr9 => ?_)
      subst hr9
      refine lv_iadd hx hb dX2_hitOf_44 ?_
      refine lv_istore (lv' := [(4, .int ((traitF σ y 5) + (stackF σ y 3))), (3, .int ((traitF σ x 4) + (stackF σ x 2))), (0, .ref (a 0)), (1, .int x), (2, .int y)]) hx hb dX2_hitOf_45 hl (by decide) rfl (fun ls hl => ?_)
      refine lv_iload_n hx hb dX2_hitOf_47 rfl (lv_at hl 1 rfl) ?_
      refine lv_iload hx hb dX2_hitOf_48 (lv_at hl 0 rfl) ?_
      refine lv_isub hx hb dX2_hitOf_50 ?_
      refine lv_iconst (v := 1) hx hb dX2_hitOf_51 (by decide) ?_
      refine va_mmax hx hb (hml.trans hl.1.symm) hown (hts (.methodLink RX2 66 Lib.Math.max.name) (by decide +kernel)) (hts (.static Lib.Math.max.name) (by decide +kernel)) (hts (.initialized "java/lang/Math") (by decide +kernel)) (hts (.code Lib.Math.max.name Lib.Math.max.code 2 (some .int)) (by decide +kernel)) (Nat.le_of_ble_eq_true rfl) (Nat.le_of_ble_eq_true rfl) (Nat.zero_le _) (Nat.zero_le _) dX2_hitOf_52 ?_
      exact W.iret (v := (maxI (((traitF σ x 4) + (stackF σ x 2)) - ((traitF σ y 5) + (stackF σ y 3))) 1)) hx hb hr (fun t ht _ => ⟨_, rfl, by first | rfl | (simp only [hitF, c_5, c_13, Bool.false_eq_true, if_false, if_true]; done) | (simp only [hitF, c_5, c_13, Bool.false_eq_true, if_false, if_true]; rfl) | (simp [hitF, c_5, c_13]; done) | (simp [hitF, c_5, c_13]; rfl), ht⟩) hnil dX2_hitOf_55
    · refine lv_iconst (v := 0) hx hb dX2_hitOf_16 (by decide) ?_
      exact W.iret (v := 0) hx hb hr (fun t ht _ => ⟨_, rfl, by first | rfl | (simp only [hitF, c_5, c_13, Bool.false_eq_true, if_false, if_true]; done) | (simp only [hitF, c_5, c_13, Bool.false_eq_true, if_false, if_true]; rfl) | (simp [hitF, c_5, c_13]; done) | (simp [hitF, c_5, c_13]; rfl), ht⟩) hnil dX2_hitOf_17
end
section
-- ===== writes =====
def putKindF (σ : SS) (c k : Int32) : SS := w_ki σ (wr (s_ki σ) 160 c k)
def putTraitF (σ : SS) (b x v : Int32) : SS := w_tr σ (wr (s_tr σ) 90 (b * 9 + x) v)
def putEffectF (σ : SS) (b x st tu : Int32) : SS := w_tu (w_st σ (wr (s_st σ) 50 (b * 5 + x) st)) (wr (s_tu σ) 50 (b * 5 + x) tu)
def addEffectF (σ : SS) (b x st tu : Int32) : SS := putEffectF σ b x (minI (stackF σ b x + st) 9) (maxI (turnsF σ b x) tu)
def digC (r : Nat) : Nat → Nat → SS → Int32 → SS × Int32
  | 0, _, σ, t => (σ, t)
  | m + 1, c, σ, t => if edgeB (nI r * 16 + nI c) = true then digC r m (c + 1) σ t
    else if kindF σ (nI r * 16 + nI c) = 0 then digC r m (c + 1) σ t
    else digC r m (c + 1) (putKindF σ (nI r * 16 + nI c) 0) (t + 1)
def digR (x w : Nat) : Nat → Nat → SS → Int32 → SS × Int32
  | 0, _, σ, t => (σ, t)
  | m + 1, r, σ, t => digR x w m (r + 1) (digC r w x σ t).1 (digC r w x σ t).2
def digF (σ : SS) (x y w h : Nat) : SS × Int32 := digR x w h y σ 0
def lookL (f s : Int32) : Nat → Nat → SS → SS
  | 0, _, σ => σ
  | m + 1, k, σ => if knownB σ s (nI k) = true then lookL f s m (k + 1) σ
    else if seenB σ f (nI k) = true then lookL f s m (k + 1) (w_kn σ (upd (s_kn σ) (nI k).toNatClampNeg (s_kn σ (nI k).toNatClampNeg ||| ((1 : Int32) <<< (s &&& 31)))))
    else lookL f s m (k + 1) σ
def lookF (σ : SS) (b : Int32) : SS := lookL (traitF σ b 1) (traitF σ b 0) 160 0 σ
def noEff (b : Int32) : Nat → Nat → SS → SS
  | 0, _, σ => σ
  | m + 1, k, σ => noEff b m (k + 1) (putEffectF σ b (nI k) 0 0)
def takeF (σ : SS) (b x : Int32) : SS := if traitF σ b 2 - minI x (traitF σ b 2) = 0 then putTraitF (putTraitF σ b 2 (traitF σ b 2 - minI x (traitF σ b 2))) b 1 (-1) else putTraitF σ b 2 (traitF σ b 2 - minI x (traitF σ b 2))
def newF0 (σ : SS) (b s c x : Int32) : SS := putTraitF (putTraitF (putTraitF (putTraitF (putTraitF (putTraitF (putTraitF (putTraitF σ b 0 s) b 1 c) b 2 x) b 3 x) b 4 5) b 5 2) b 6 2) b 7 3
def newT (σ τ : SS) : Int32 := if turnF σ = -1 then 0 else traitF τ (turnF σ) 8
def newF1 (σ : SS) (s c x : Int32) : SS := putTraitF (newF0 (w_n σ (s_n σ + 1)) (nI (s_n σ)) s c x) (nI (s_n σ)) 8 (newT σ (newF0 (w_n σ (s_n σ + 1)) (nI (s_n σ)) s c x))
def addF (σ : SS) (s c x : Int32) : SS := lookF (noEff (nI (s_n σ)) 5 0 (newF1 σ s c x)) (nI (s_n σ))
def tookF (σ : SS) (b x : Int32) : Int32 := minI x (traitF σ b 2)
def newNo (σ : SS) (_ _ _ : Int32) : Int32 := nI (s_n σ)
end
section
set_option maxHeartbeats 4000000 in
set_option maxRecDepth 100000 in
theorem c_X2_putKind (l : Launch) (D : va_G) (cI : ClassId) (sz : Nat) (a : Nat → Nat) (σ : SS) (x y : Int32) : Met l yX2_putKind wsX2_putKind ({ frames := 0, cells := 0, slots := 0, locals := 0 } : Room) (va_Pc [.ref (a 0), .int x, .int y] (preM D cI (sW cI a σ) sz)) (va_Qv (fun (u : SS) => u = putKindF σ x y) (fun (u : SS) => posM D cI (va_A (sW cI a σ) sz) (sW cI a u)) (va_A (sW cI a σ) sz)) 0 0 (va_A (sW cI a σ) sz) := by
  refine Met.ofW (cc := cX2_putKind) (maxL := 3) (ret := none) (by decide) rfl ?_
  intro p e s m args below meth c s₁ B hml hv
  obtain ⟨rfl, hsz, hP, hK, hE, hD0⟩ := hv
  have hx := B.exec
  have hb := B.bytes
  have hr := B.returns
  have hts := atoms_spec (ws := wsX2_putKind) B.pre
  have hown : s.vm.findClass RX2 = some m.cls := findClass_of_methodNamed B.named
  have hlocks := B.notSynchronized
  subst hsz
  have hD := hD0.self (sz := s.heap.size)
  generalize hAe : va_A (sW cI a σ) s.heap.size = A at hD ⊢
  have hA : ∀ q : Nat, s.heap.size ≤ q → A q := fun q h => by rw [← hAe]; exact Or.inr h
  have hS : va_S A s.heap s.heap [] := va_S.rf
  have hP : va_P D vwCl (sW cI a σ) s.heap := hP
  have hl := lv_entry ([.ref (a 0), .int x, .int y]) (n := 3) (Nat.le_of_ble_eq_true rfl)
  rw [lg_entry_eq]
  generalize (lg_sl ([.ref (a 0), .int x, .int y]) ++ List.replicate (3 - (lg_sl ([.ref (a 0), .int x, .int y])).length) Slot.unset).toArray = ls at hl ⊢
  have hl : lv_has ls 3 [(0, .ref (a 0)), (1, .int x), (2, .int y)] := hl
  refine lv_iload_n hx hb dX2_putKind_0 rfl (lv_at hl 1 rfl) ?_
  refine lv_if_lt (tgt := 20) hx hb dX2_putKind_1 (by decide) (fun c_1 => ?_) (fun c_1 => ?_)
  · have hP9 := hP
    have hD9 := hD
    exact W.vret hx hb hr (fun t ht hW => ⟨⟨σ, rfl, by first | rfl | (simp only [putKindF, wr, if_pos c_1]; done) | (simp only [putKindF, wr, if_pos c_1]; rfl) | (simp [putKindF, wr, c_1]; done) | (simp [putKindF, wr, c_1]; rfl), by rw [ht]; exact hP9, va_K.moved hW.alike hK, hD9⟩, hS.F ht⟩) hS.2.2 dX2_putKind_20
  · refine lv_iload_n hx hb dX2_putKind_4 rfl (lv_at hl 1 rfl) ?_
    refine lv_aload_n hx hb dX2_putKind_5 rfl (lv_at hl 0 rfl) ?_
    refine va_get (D := D) (ci := 2) (v := .ref (a 1)) (C := RX2) (T := TX2) (N := 8) hx hb hts (by decide +kernel) hown hK hP 0 rfl rfl 0 (by decide) (hts (.fieldLink RX2 9 "Warren$State" "kinds" "[I") (by decide +kernel)) (fun _ h9 => h9) rfl dX2_putKind_6 ?_
    refine va_alen (v := nI 160) hx hb hK hP 1 0 rfl rfl rfl dX2_putKind_9 ?_
    refine lv_icmp_ge (tgt := 20) hx hb dX2_putKind_10 (by decide) (fun c_10 => ?_) (fun c_10 => ?_)
    · have hP9 := hP
      have hD9 := hD
      exact W.vret hx hb hr (fun t ht hW => ⟨⟨σ, rfl, by first | rfl | (simp only [putKindF, wr, if_neg c_1, if_pos c_10]; done) | (simp only [putKindF, wr, if_neg c_1, if_pos c_10]; rfl) | (simp [putKindF, wr, c_1, c_10]; done) | (simp [putKindF, wr, c_1, c_10]; rfl), by rw [ht]; exact hP9, va_K.moved hW.alike hK, hD9⟩, hS.F ht⟩) hS.2.2 dX2_putKind_20
    · refine lv_aload_n hx hb dX2_putKind_13 rfl (lv_at hl 0 rfl) ?_
      refine va_get (D := D) (ci := 2) (v := .ref (a 1)) (C := RX2) (T := TX2) (N := 8) hx hb hts (by decide +kernel) hown hK hP 0 rfl rfl 0 (by decide) (hts (.fieldLink RX2 9 "Warren$State" "kinds" "[I") (by decide +kernel)) (fun _ h9 => h9) rfl dX2_putKind_14 ?_
      refine lv_iload_n hx hb dX2_putKind_17 rfl (lv_at hl 1 rfl) ?_
      refine lv_iload_n hx hb dX2_putKind_18 rfl (lv_at hl 2 rfl) ?_
      refine va_iast hx hb hK hP hD hS 1 0 rfl rfl (vin (by decide) (by assumption) (by assumption)) dX2_putKind_19 (fun H locs hP hD hS => ?_)
      have hP : va_P D vwCl (sW cI a (w_ki σ (upd (s_ki σ) x.toNatClampNeg y))) H := hP
      have hD : va_D A (sW cI a (w_ki σ (upd (s_ki σ) x.toNatClampNeg y))) := hD
      have hP9 := hP
      have hD9 := hD
      exact W.vret hx hb hr (fun t ht hW => ⟨⟨(w_ki σ (upd (s_ki σ) x.toNatClampNeg y)), rfl, by first | rfl | (simp only [putKindF, wr, if_neg c_1, if_neg c_10]; done) | (simp only [putKindF, wr, if_neg c_1, if_neg c_10]; rfl) | (simp [putKindF, wr, c_1, c_10]; done) | (simp [putKindF, wr, c_1, c_10]; rfl), by rw [ht]; exact hP9, va_K.moved hW.alike hK, hD9⟩, hS.F ht⟩) hS.2.2 dX2_putKind_20

set_option maxHeartbeats 4000000 in
set_option maxRecDepth 100000 in
theorem c_X2_putTrait (l : Launch) (D : va_G) (cI : ClassId) (sz : Nat) (a : Nat → Nat) (σ : SS) (x y z : Int32) : Met l yX2_putTrait wsX2_putTrait ({ frames := 0, cells := 0, slots := 0, locals := 0 } : Room) (va_Pc [.ref (a 0), .int x, .int y, .int z] (preM D cI (sW cI a σ) sz)) (va_Qv (fun (u : SS) => u = putTraitF σ x y z) (fun (u : SS) => posM D cI (va_A (sW cI a σ) sz) (sW cI a u)) (va_A (sW cI a σ) sz)) 0 0 (va_A (sW cI a σ) sz) := by
  refine Met.ofW (cc := cX2_putTrait) (maxL := 5) (ret := none) (by decide) rfl ?_
  intro p e s m args below meth c s₁ B hml hv
  obtain ⟨rfl, hsz, hP, hK, hE, hD0⟩ := hv
  have hx := B.exec
  have hb := B.bytes
  have hr := B.returns
  have hts := atoms_spec (ws := wsX2_putTrait) B.pre
  have hown : s.vm.findClass RX2 = some m.cls := findClass_of_methodNamed B.named
  have hlocks := B.notSynchronized
  subst hsz
  have hD := hD0.self (sz := s.heap.size)
  generalize hAe : va_A (sW cI a σ) s.heap.size = A at hD ⊢
  have hA : ∀ q : Nat, s.heap.size ≤ q → A q := fun q h => by rw [← hAe]; exact Or.inr h
  have hS : va_S A s.heap s.heap [] := va_S.rf
  have hP : va_P D vwCl (sW cI a σ) s.heap := hP
  have hl := lv_entry ([.ref (a 0), .int x, .int y, .int z]) (n := 5) (Nat.le_of_ble_eq_true rfl)
  rw [lg_entry_eq]
  generalize (lg_sl ([.ref (a 0), .int x, .int y, .int z]) ++ List.replicate (5 - (lg_sl ([.ref (a 0), .int x, .int y, .int z])).length) Slot.unset).toArray = ls at hl ⊢
  have hl : lv_has ls 5 [(0, .ref (a 0)), (1, .int x), (2, .int y), (3, .int z)] := hl
  refine lv_iload_n hx hb dX2_putTrait_0 rfl (lv_at hl 1 rfl) ?_
  refine lv_bipush (v := 9) hx hb dX2_putTrait_1 (by decide) ?_
  refine lv_imul hx hb dX2_putTrait_3 ?_
  refine lv_iload_n hx hb dX2_putTrait_4 rfl (lv_at hl 2 rfl) ?_
  refine lv_iadd hx hb dX2_putTrait_5 ?_
  refine lv_istore (lv' := [(4, .int ((x * 9) + y)), (0, .ref (a 0)), (1, .int x), (2, .int y), (3, .int z)]) hx hb dX2_putTrait_6 hl (by decide) rfl (fun ls hl => ?_)
  refine lv_iload hx hb dX2_putTrait_8 (lv_at hl 0 rfl) ?_
  refine lv_if_lt (tgt := 31) hx hb dX2_putTrait_10 (by decide) (fun c_10 => ?_) (fun c_10 => ?_)
  · have hP9 := hP
    have hD9 := hD
    exact W.vret hx hb hr (fun t ht hW => ⟨⟨σ, rfl, by first | rfl | (simp only [putTraitF, wr, if_pos c_10]; done) | (simp only [putTraitF, wr, if_pos c_10]; rfl) | (simp [putTraitF, wr, c_10]; done) | (simp [putTraitF, wr, c_10]; rfl), by rw [ht]; exact hP9, va_K.moved hW.alike hK, hD9⟩, hS.F ht⟩) hS.2.2 dX2_putTrait_31
  · refine lv_iload hx hb dX2_putTrait_13 (lv_at hl 0 rfl) ?_
    refine lv_aload_n hx hb dX2_putTrait_15 rfl (lv_at hl 1 rfl) ?_
    refine va_get (D := D) (ci := 2) (v := .ref (a 3)) (C := RX2) (T := TX2) (N := 8) hx hb hts (by decide +kernel) hown hK hP 0 rfl rfl 2 (by decide) (hts (.fieldLink RX2 18 "Warren$State" "traits" "[I") (by decide +kernel)) (fun _ h9 => h9) rfl dX2_putTrait_16 ?_
    refine va_alen (v := nI 90) hx hb hK hP 3 0 rfl rfl rfl dX2_putTrait_19 ?_
    refine lv_icmp_ge (tgt := 31) hx hb dX2_putTrait_20 (by decide) (fun c_20 => ?_) (fun c_20 => ?_)
    · have hP9 := hP
      have hD9 := hD
      exact W.vret hx hb hr (fun t ht hW => ⟨⟨σ, rfl, by first | rfl | (simp only [putTraitF, wr, if_neg c_10, if_pos c_20]; done) | (simp only [putTraitF, wr, if_neg c_10, if_pos c_20]; rfl) | (simp [putTraitF, wr, c_10, c_20]; done) | (simp [putTraitF, wr, c_10, c_20]; rfl), by rw [ht]; exact hP9, va_K.moved hW.alike hK, hD9⟩, hS.F ht⟩) hS.2.2 dX2_putTrait_31
    · refine lv_aload_n hx hb dX2_putTrait_23 rfl (lv_at hl 1 rfl) ?_
      refine va_get (D := D) (ci := 2) (v := .ref (a 3)) (C := RX2) (T := TX2) (N := 8) hx hb hts (by decide +kernel) hown hK hP 0 rfl rfl 2 (by decide) (hts (.fieldLink RX2 18 "Warren$State" "traits" "[I") (by decide +kernel)) (fun _ h9 => h9) rfl dX2_putTrait_24 ?_
      refine lv_iload hx hb dX2_putTrait_27 (lv_at hl 0 rfl) ?_
      refine lv_iload_n hx hb dX2_putTrait_29 rfl (lv_at hl 4 rfl) ?_
      refine va_iast hx hb hK hP hD hS 3 0 rfl rfl (vin (by decide) (by assumption) (by assumption)) dX2_putTrait_30 (fun H locs hP hD hS => ?_)
      have hP : va_P D vwCl (sW cI a (w_tr σ (upd (s_tr σ) ((x * 9) + y).toNatClampNeg z))) H := hP
      have hD : va_D A (sW cI a (w_tr σ (upd (s_tr σ) ((x * 9) + y).toNatClampNeg z))) := hD
      have hP9 := hP
      have hD9 := hD
      exact W.vret hx hb hr (fun t ht hW => ⟨⟨(w_tr σ (upd (s_tr σ) ((x * 9) + y).toNatClampNeg z)), rfl, by first | rfl | (simp only [putTraitF, wr, if_neg c_10, if_neg c_20]; done) | (simp only [putTraitF, wr, if_neg c_10, if_neg c_20]; rfl) | (simp [putTraitF, wr, c_10, c_20]; done) | (simp [putTraitF, wr, c_10, c_20]; rfl), by rw [ht]; exact hP9, va_K.moved hW.alike hK, hD9⟩, hS.F ht⟩) hS.2.2 dX2_putTrait_31
end
section
set_option maxHeartbeats 4000000 in
set_option maxRecDepth 100000 in
theorem c_X2_putEffect (l : Launch) (D : va_G) (cI : ClassId) (sz : Nat) (a : Nat → Nat) (σ : SS) (x y z v : Int32) : Met l yX2_putEffect wsX2_putEffect ({ frames := 0, cells := 0, slots := 0, locals := 0 } : Room) (va_Pc [.ref (a 0), .int x, .int y, .int z, .int v] (preM D cI (sW cI a σ) sz)) (va_Qv (fun (u : SS) => u = putEffectF σ x y z v) (fun (u : SS) => posM D cI (va_A (sW cI a σ) sz) (sW cI a u)) (va_A (sW cI a σ) sz)) 0 0 (va_A (sW cI a σ) sz) := by
  refine Met.ofW (cc := cX2_putEffect) (maxL := 6) (ret := none) (by decide) rfl ?_
  intro p e s m args below meth c s₁ B hml hv
  obtain ⟨rfl, hsz, hP, hK, hE, hD0⟩ := hv
  have hx := B.exec
  have hb := B.bytes
  have hr := B.returns
  have hts := atoms_spec (ws := wsX2_putEffect) B.pre
  have hown : s.vm.findClass RX2 = some m.cls := findClass_of_methodNamed B.named
  have hlocks := B.notSynchronized
  subst hsz
  have hD := hD0.self (sz := s.heap.size)
  generalize hAe : va_A (sW cI a σ) s.heap.size = A at hD ⊢
  have hA : ∀ q : Nat, s.heap.size ≤ q → A q := fun q h => by rw [← hAe]; exact Or.inr h
  have hS : va_S A s.heap s.heap [] := va_S.rf
  have hP : va_P D vwCl (sW cI a σ) s.heap := hP
  have hl := lv_entry ([.ref (a 0), .int x, .int y, .int z, .int v]) (n := 6) (Nat.le_of_ble_eq_true rfl)
  rw [lg_entry_eq]
  generalize (lg_sl ([.ref (a 0), .int x, .int y, .int z, .int v]) ++ List.replicate (6 - (lg_sl ([.ref (a 0), .int x, .int y, .int z, .int v])).length) Slot.unset).toArray = ls at hl ⊢
  have hl : lv_has ls 6 [(0, .ref (a 0)), (1, .int x), (2, .int y), (3, .int z), (4, .int v)] := hl
  refine lv_iload_n hx hb dX2_putEffect_0 rfl (lv_at hl 1 rfl) ?_
  refine lv_iconst (v := 5) hx hb dX2_putEffect_1 (by decide) ?_
  refine lv_imul hx hb dX2_putEffect_2 ?_
  refine lv_iload_n hx hb dX2_putEffect_3 rfl (lv_at hl 2 rfl) ?_
  refine lv_iadd hx hb dX2_putEffect_4 ?_
  refine lv_istore (lv' := [(5, .int ((x * 5) + y)), (0, .ref (a 0)), (1, .int x), (2, .int y), (3, .int z), (4, .int v)]) hx hb dX2_putEffect_5 hl (by decide) rfl (fun ls hl => ?_)
  refine lv_iload hx hb dX2_putEffect_7 (lv_at hl 0 rfl) ?_
  refine lv_if_lt (tgt := 49) hx hb dX2_putEffect_9 (by decide) (fun c_9 => ?_) (fun c_9 => ?_)
  · have hP9 := hP
    have hD9 := hD
    exact W.vret hx hb hr (fun t ht hW => ⟨⟨σ, rfl, by first | rfl | (simp only [putEffectF, wr, if_pos c_9]; done) | (simp only [putEffectF, wr, if_pos c_9]; rfl) | (simp [putEffectF, wr, c_9]; done) | (simp [putEffectF, wr, c_9]; rfl), by rw [ht]; exact hP9, va_K.moved hW.alike hK, hD9⟩, hS.F ht⟩) hS.2.2 dX2_putEffect_49
  · refine lv_iload hx hb dX2_putEffect_12 (lv_at hl 0 rfl) ?_
    refine lv_aload_n hx hb dX2_putEffect_14 rfl (lv_at hl 1 rfl) ?_
    refine va_get (D := D) (ci := 2) (v := .ref (a 4)) (C := RX2) (T := TX2) (N := 8) hx hb hts (by decide +kernel) hown hK hP 0 rfl rfl 3 (by decide) (hts (.fieldLink RX2 21 "Warren$State" "stacks" "[I") (by decide +kernel)) (fun _ h9 => h9) rfl dX2_putEffect_15 ?_
    refine va_alen (v := nI 50) hx hb hK hP 4 0 rfl rfl rfl dX2_putEffect_18 ?_
    refine lv_icmp_ge (tgt := 49) hx hb dX2_putEffect_19 (by decide) (fun c_19 => ?_) (fun c_19 => ?_)
    · have hP9 := hP
      have hD9 := hD
      exact W.vret hx hb hr (fun t ht hW => ⟨⟨σ, rfl, by first | rfl | (simp only [putEffectF, wr, if_neg c_9, if_pos c_19]; done) | (simp only [putEffectF, wr, if_neg c_9, if_pos c_19]; rfl) | (simp [putEffectF, wr, c_9, c_19]; done) | (simp [putEffectF, wr, c_9, c_19]; rfl), by rw [ht]; exact hP9, va_K.moved hW.alike hK, hD9⟩, hS.F ht⟩) hS.2.2 dX2_putEffect_49
    · refine lv_iload hx hb dX2_putEffect_22 (lv_at hl 0 rfl) ?_
      refine lv_aload_n hx hb dX2_putEffect_24 rfl (lv_at hl 1 rfl) ?_
      refine va_get (D := D) (ci := 2) (v := .ref (a 5)) (C := RX2) (T := TX2) (N := 8) hx hb hts (by decide +kernel) hown hK hP 0 rfl rfl 4 (by decide) (hts (.fieldLink RX2 24 "Warren$State" "turns" "[I") (by decide +kernel)) (fun _ h9 => h9) rfl dX2_putEffect_25 ?_
      refine va_alen (v := nI 50) hx hb hK hP 5 0 rfl rfl rfl dX2_putEffect_28 ?_
      refine lv_icmp_ge (tgt := 49) hx hb dX2_putEffect_29 (by decide) (fun c_29 => absurd c_29 (c_19)) (fun c_29 => ?_)
      refine lv_aload_n hx hb dX2_putEffect_32 rfl (lv_at hl 1 rfl) ?_
      refine va_get (D := D) (ci := 2) (v := .ref (a 4)) (C := RX2) (T := TX2) (N := 8) hx hb hts (by decide +kernel) hown hK hP 0 rfl rfl 3 (by decide) (hts (.fieldLink RX2 21 "Warren$State" "stacks" "[I") (by decide +kernel)) (fun _ h9 => h9) rfl dX2_putEffect_33 ?_
      refine lv_iload hx hb dX2_putEffect_36 (lv_at hl 0 rfl) ?_
      refine lv_iload_n hx hb dX2_putEffect_38 rfl (lv_at hl 4 rfl) ?_
      refine va_iast hx hb hK hP hD hS 4 0 rfl rfl (vin (by decide) (by assumption) (by assumption)) dX2_putEffect_39 (fun H locs hP hD hS => ?_)
      have hP : va_P D vwCl (sW cI a (w_st σ (upd (s_st σ) ((x * 5) + y).toNatClampNeg z))) H := hP
      have hD : va_D A (sW cI a (w_st σ (upd (s_st σ) ((x * 5) + y).toNatClampNeg z))) := hD
      refine lv_aload_n hx hb dX2_putEffect_40 rfl (lv_at hl 1 rfl) ?_
      refine va_get (D := D) (ci := 2) (v := .ref (a 5)) (C := RX2) (T := TX2) (N := 8) hx hb hts (by decide +kernel) hown hK hP 0 rfl rfl 4 (by decide) (hts (.fieldLink RX2 24 "Warren$State" "turns" "[I") (by decide +kernel)) (fun _ h9 => h9) rfl dX2_putEffect_41 ?_
      refine lv_iload hx hb dX2_putEffect_44 (lv_at hl 0 rfl) ?_
      refine lv_iload hx hb dX2_putEffect_46 (lv_at hl 5 rfl) ?_
      refine va_iast hx hb hK hP hD hS 5 0 rfl rfl (vin (by decide) (by assumption) (by assumption)) dX2_putEffect_48 (fun H locs hP hD hS => ?_)
      have hP : va_P D vwCl (sW cI a (w_tu (w_st σ (upd (s_st σ) ((x * 5) + y).toNatClampNeg z)) (upd (s_tu (w_st σ (upd (s_st σ) ((x * 5) + y).toNatClampNeg z))) ((x * 5) + y).toNatClampNeg v))) H := hP
      have hD : va_D A (sW cI a (w_tu (w_st σ (upd (s_st σ) ((x * 5) + y).toNatClampNeg z)) (upd (s_tu (w_st σ (upd (s_st σ) ((x * 5) + y).toNatClampNeg z))) ((x * 5) + y).toNatClampNeg v))) := hD
      have hP9 := hP
      have hD9 := hD
      exact W.vret hx hb hr (fun t ht hW => ⟨⟨(w_tu (w_st σ (upd (s_st σ) ((x * 5) + y).toNatClampNeg z)) (upd (s_tu (w_st σ (upd (s_st σ) ((x * 5) + y).toNatClampNeg z))) ((x * 5) + y).toNatClampNeg v)), rfl, by first | rfl | (simp only [putEffectF, wr, if_neg c_9, if_neg c_19, if_neg c_29]; done) | (simp only [putEffectF, wr, if_neg c_9, if_neg c_19, if_neg c_29]; rfl) | (simp [putEffectF, wr, c_9, c_19, c_29]; done) | (simp [putEffectF, wr, c_9, c_19, c_29]; rfl), by rw [ht]; exact hP9, va_K.moved hW.alike hK, hD9⟩, hS.F ht⟩) hS.2.2 dX2_putEffect_49

set_option maxHeartbeats 4000000 in
set_option maxRecDepth 100000 in
theorem c_X2_addEffect (l : Launch) (D : va_G) (cI : ClassId) (sz : Nat) (a : Nat → Nat) (σ : SS) (x y z v : Int32) : Met l yX2_addEffect wsX2_addEffect ({ frames := 1, cells := 0, slots := 0, locals := 25 } : Room) (va_Pc [.ref (a 0), .int x, .int y, .int z, .int v] (preM D cI (sW cI a σ) sz)) (va_Qv (fun (u : SS) => u = addEffectF σ x y z v) (fun (u : SS) => posM D cI (va_A (sW cI a σ) sz) (sW cI a u)) (va_A (sW cI a σ) sz)) 0 0 (va_A (sW cI a σ) sz) := by
  refine Met.ofW (cc := cX2_addEffect) (maxL := 5) (ret := none) (by decide) rfl ?_
  intro p e s m args below meth c s₁ B hml hv
  obtain ⟨rfl, hsz, hP, hK, hE, hD0⟩ := hv
  have hx := B.exec
  have hb := B.bytes
  have hr := B.returns
  have hts := atoms_spec (ws := wsX2_addEffect) B.pre
  have hown : s.vm.findClass RX2 = some m.cls := findClass_of_methodNamed B.named
  have hlocks := B.notSynchronized
  subst hsz
  have hD := hD0.self (sz := s.heap.size)
  generalize hAe : va_A (sW cI a σ) s.heap.size = A at hD ⊢
  have hA : ∀ q : Nat, s.heap.size ≤ q → A q := fun q h => by rw [← hAe]; exact Or.inr h
  have hS : va_S A s.heap s.heap [] := va_S.rf
  have hP : va_P D vwCl (sW cI a σ) s.heap := hP
  have hl := lv_entry ([.ref (a 0), .int x, .int y, .int z, .int v]) (n := 5) (Nat.le_of_ble_eq_true rfl)
  rw [lg_entry_eq]
  generalize (lg_sl ([.ref (a 0), .int x, .int y, .int z, .int v]) ++ List.replicate (5 - (lg_sl ([.ref (a 0), .int x, .int y, .int z, .int v])).length) Slot.unset).toArray = ls at hl ⊢
  have hl : lv_has ls 5 [(0, .ref (a 0)), (1, .int x), (2, .int y), (3, .int z), (4, .int v)] := hl
  refine lv_aload_n hx hb dX2_addEffect_0 rfl (lv_at hl 0 rfl) ?_
  refine lv_iload_n hx hb dX2_addEffect_1 rfl (lv_at hl 1 rfl) ?_
  refine lv_iload_n hx hb dX2_addEffect_2 rfl (lv_at hl 2 rfl) ?_
  refine lv_aload_n hx hb dX2_addEffect_3 rfl (lv_at hl 0 rfl) ?_
  refine lv_iload_n hx hb dX2_addEffect_4 rfl (lv_at hl 1 rfl) ?_
  refine lv_iload_n hx hb dX2_addEffect_5 rfl (lv_at hl 2 rfl) ?_
  refine vp_callSi (va_Run.run (va_runV (As := [.int x, .int y]) (rest := [.int y, .int x, .ref (a 0)]) ⟨hx, hb, hml, hown, hts⟩ (c_X2_stackOf l D cI a σ x y) (cwV 2 hts gX2_addEffect_X2_stackOf rfl rfl rfl (by decide +kernel) ⟨Nat.le_of_ble_eq_true rfl, Nat.le_of_ble_eq_true rfl⟩) ⟨preR_blind, va_recv hK hP (ci := 2) (q0 := 0) rfl rfl, preR_of hP hK hE [.ref (a 0), .int x, .int y]⟩ rfl rfl hl.1 rfl (lv_room (Nat.le_of_ble_eq_true rfl)) dX2_addEffect_6 ⟨Nat.zero_le _, Nat.zero_le _⟩)) (fun r hr9 => ?_)
  subst hr9
  refine lv_iload_n hx hb dX2_addEffect_9 rfl (lv_at hl 3 rfl) ?_
  refine lv_iadd hx hb dX2_addEffect_10 ?_
  refine lv_bipush (v := 9) hx hb dX2_addEffect_11 (by decide) ?_
  refine va_mmin hx hb (hml.trans hl.1.symm) hown (hts (.methodLink RX2 95 Lib.Math.min.name) (by decide +kernel)) (hts (.static Lib.Math.min.name) (by decide +kernel)) (hts (.initialized "java/lang/Math") (by decide +kernel)) (hts (.code Lib.Math.min.name Lib.Math.min.code 2 (some .int)) (by decide +kernel)) (Nat.le_of_ble_eq_true rfl) (Nat.le_of_ble_eq_true rfl) (Nat.zero_le _) (Nat.zero_le _) dX2_addEffect_13 ?_
  refine lv_aload_n hx hb dX2_addEffect_16 rfl (lv_at hl 0 rfl) ?_
  refine lv_iload_n hx hb dX2_addEffect_17 rfl (lv_at hl 1 rfl) ?_
  refine lv_iload_n hx hb dX2_addEffect_18 rfl (lv_at hl 2 rfl) ?_
  refine vp_callSi (va_Run.run (va_runV (As := [.int x, .int y]) (rest := [.int (minI ((stackF σ x y) + z) 9), .int y, .int x, .ref (a 0)]) ⟨hx, hb, hml, hown, hts⟩ (c_X2_turnsOf l D cI a σ x y) (cwV 2 hts gX2_addEffect_X2_turnsOf rfl rfl rfl (by decide +kernel) ⟨Nat.le_of_ble_eq_true rfl, Nat.le_of_ble_eq_true rfl⟩) ⟨preR_blind, va_recv hK hP (ci := 2) (q0 := 0) rfl rfl, preR_of hP hK hE [.ref (a 0), .int x, .int y]⟩ rfl rfl hl.1 rfl (lv_room (Nat.le_of_ble_eq_true rfl)) dX2_addEffect_19 ⟨Nat.zero_le _, Nat.zero_le _⟩)) (fun r hr9 => ?_)
  subst hr9
  refine lv_iload hx hb dX2_addEffect_22 (lv_at hl 4 rfl) ?_
  refine va_mmax hx hb (hml.trans hl.1.symm) hown (hts (.methodLink RX2 66 Lib.Math.max.name) (by decide +kernel)) (hts (.static Lib.Math.max.name) (by decide +kernel)) (hts (.initialized "java/lang/Math") (by decide +kernel)) (hts (.code Lib.Math.max.name Lib.Math.max.code 2 (some .int)) (by decide +kernel)) (Nat.le_of_ble_eq_true rfl) (Nat.le_of_ble_eq_true rfl) (Nat.zero_le _) (Nat.zero_le _) dX2_addEffect_24 ?_
  have hFc := va_free (wc := sW cI a σ) hD hS hA [0, 1, 2, 3, 4, 5] rfl
  refine va_callv (va_runV (As := [.int x, .int y, .int (minI ((stackF σ x y) + z) 9), .int (maxI (turnsF σ x y) v)]) (rest := []) ⟨hx, hb, hml, hown, hts⟩ (c_X2_putEffect l D cI _ a σ x y (minI ((stackF σ x y) + z) 9) (maxI (turnsF σ x y) v)) (cwV 4 hts gX2_addEffect_X2_putEffect rfl rfl rfl (by decide +kernel) ⟨Nat.le_of_ble_eq_true rfl, Nat.le_of_ble_eq_true rfl⟩) ⟨preM_blind, va_recv hK hP (ci := 2) (q0 := 0) rfl rfl, preM_of hP hK hE hD [.ref (a 0), .int x, .int y, .int (minI ((stackF σ x y) + z) 9), .int (maxI (turnsF σ x y) v)]⟩ rfl rfl hl.1 rfl (lv_room (Nat.le_of_ble_eq_true rfl)) dX2_addEffect_27 ⟨Nat.zero_le _, Nat.zero_le _⟩) hS (fun q _ h => hFc q h) hFc (fun u t H1 locs ht hvm hw hB hz1 hk1 hS => ?_)
  obtain ⟨hP1, hK1, hD1⟩ := hB
  rw [ht] at hP1
  subst hw
  obtain ⟨hP, hD⟩ := va_join (wr := []) (w1 := sW cI a (putEffectF σ x y (minI ((stackF σ x y) + z) 9) (maxI (turnsF σ x y) v))) hP hD [0, 1, 2, 3, 4, 5] [] rfl rfl (by decide) (by decide) hk1 hFc hP1 hD1
  generalize H1 = H at hP hS ⊢
  have hP : va_P D vwCl (sW cI a (putEffectF σ x y (minI ((stackF σ x y) + z) 9) (maxI (turnsF σ x y) v))) H := hP
  have hD : va_D A (sW cI a (putEffectF σ x y (minI ((stackF σ x y) + z) 9) (maxI (turnsF σ x y) v))) := hD
  have hP9 := hP
  have hD9 := hD
  exact W.vret hx hb hr (fun t ht hW => ⟨⟨(putEffectF σ x y (minI ((stackF σ x y) + z) 9) (maxI (turnsF σ x y) v)), rfl, by first | rfl | (simp only [addEffectF]; done) | (simp only [addEffectF]; rfl) | (simp [addEffectF]; done) | (simp [addEffectF]; rfl), by rw [ht]; exact hP9, va_K.moved hW.alike hK, hD9⟩, hS.F ht⟩) hS.2.2 dX2_addEffect_30

set_option maxHeartbeats 4000000 in
set_option maxRecDepth 100000 in
theorem c_X2_takeLife (l : Launch) (D : va_G) (cI : ClassId) (sz : Nat) (a : Nat → Nat) (σ : SS) (x y : Int32) : Met l yX2_takeLife wsX2_takeLife ({ frames := 1, cells := 0, slots := 0, locals := 24 } : Room) (va_Pc [.ref (a 0), .int x, .int y] (preM D cI (sW cI a σ) sz)) (va_Qi (fun (r : Int32) (u : SS) => r = tookF σ x y ∧ u = takeF σ x y) (fun (u : SS) => posM D cI (va_A (sW cI a σ) sz) (sW cI a u)) (va_A (sW cI a σ) sz)) 0 0 (va_A (sW cI a σ) sz) := by
  refine Met.ofW (cc := cX2_takeLife) (maxL := 5) (ret := (some .int)) (by decide) rfl ?_
  intro p e s m args below meth c s₁ B hml hv
  obtain ⟨rfl, hsz, hP, hK, hE, hD0⟩ := hv
  have hx := B.exec
  have hb := B.bytes
  have hr := B.returns
  have hts := atoms_spec (ws := wsX2_takeLife) B.pre
  have hown : s.vm.findClass RX2 = some m.cls := findClass_of_methodNamed B.named
  have hlocks := B.notSynchronized
  subst hsz
  have hD := hD0.self (sz := s.heap.size)
  generalize hAe : va_A (sW cI a σ) s.heap.size = A at hD ⊢
  have hA : ∀ q : Nat, s.heap.size ≤ q → A q := fun q h => by rw [← hAe]; exact Or.inr h
  have hS : va_S A s.heap s.heap [] := va_S.rf
  have hP : va_P D vwCl (sW cI a σ) s.heap := hP
  have hl := lv_entry ([.ref (a 0), .int x, .int y]) (n := 5) (Nat.le_of_ble_eq_true rfl)
  rw [lg_entry_eq]
  generalize (lg_sl ([.ref (a 0), .int x, .int y]) ++ List.replicate (5 - (lg_sl ([.ref (a 0), .int x, .int y])).length) Slot.unset).toArray = ls at hl ⊢
  have hl : lv_has ls 5 [(0, .ref (a 0)), (1, .int x), (2, .int y)] := hl
  refine lv_aload_n hx hb dX2_takeLife_0 rfl (lv_at hl 0 rfl) ?_
  refine lv_iload_n hx hb dX2_takeLife_1 rfl (lv_at hl 1 rfl) ?_
  refine lv_iconst (v := 2) hx hb dX2_takeLife_2 (by decide) ?_
  refine vp_callSi (va_Run.run (va_runV (As := [.int x, .int 2]) (rest := []) ⟨hx, hb, hml, hown, hts⟩ (c_X2_trait l D cI a σ x 2) (cwV 2 hts gX2_takeLife_X2_trait rfl rfl rfl (by decide +kernel) ⟨Nat.le_of_ble_eq_true rfl, Nat.le_of_ble_eq_true rfl⟩) ⟨preR_blind, va_recv hK hP (ci := 2) (q0 := 0) rfl rfl, preR_of hP hK hE [.ref (a 0), .int x, .int 2]⟩ rfl rfl hl.1 rfl (lv_room (Nat.le_of_ble_eq_true rfl)) dX2_takeLife_3 ⟨Nat.zero_le _, Nat.zero_le _⟩)) (fun r hr9 => ?_)
  subst hr9
  refine lv_istore_n (lv' := [(3, .int (traitF σ x 2)), (0, .ref (a 0)), (1, .int x), (2, .int y)]) hx hb dX2_takeLife_6 rfl hl (by decide) rfl (fun ls hl => ?_)
  refine lv_iload_n hx hb dX2_takeLife_7 rfl (lv_at hl 3 rfl) ?_
  refine lv_iload_n hx hb dX2_takeLife_8 rfl (lv_at hl 0 rfl) ?_
  refine va_mmin hx hb (hml.trans hl.1.symm) hown (hts (.methodLink RX2 95 Lib.Math.min.name) (by decide +kernel)) (hts (.static Lib.Math.min.name) (by decide +kernel)) (hts (.initialized "java/lang/Math") (by decide +kernel)) (hts (.code Lib.Math.min.name Lib.Math.min.code 2 (some .int)) (by decide +kernel)) (Nat.le_of_ble_eq_true rfl) (Nat.le_of_ble_eq_true rfl) (Nat.zero_le _) (Nat.zero_le _) dX2_takeLife_9 ?_
  refine lv_istore (lv' := [(4, .int (minI y (traitF σ x 2))), (3, .int (traitF σ x 2)), (0, .ref (a 0)), (1, .int x), (2, .int y)]) hx hb dX2_takeLife_12 hl (by decide) rfl (fun ls hl => ?_)
  refine lv_aload_n hx hb dX2_takeLife_14 rfl (lv_at hl 2 rfl) ?_
  refine lv_iload_n hx hb dX2_takeLife_15 rfl (lv_at hl 3 rfl) ?_
  refine lv_iconst (v := 2) hx hb dX2_takeLife_16 (by decide) ?_
  refine lv_iload_n hx hb dX2_takeLife_17 rfl (lv_at hl 1 rfl) ?_
  refine lv_iload hx hb dX2_takeLife_18 (lv_at hl 0 rfl) ?_
  refine lv_isub hx hb dX2_takeLife_20 ?_
  have hFc := va_free (wc := sW cI a σ) hD hS hA [0, 1, 2, 3, 4, 5] rfl
  refine va_callv (va_runV (As := [.int x, .int 2, .int ((traitF σ x 2) - (minI y (traitF σ x 2)))]) (rest := []) ⟨hx, hb, hml, hown, hts⟩ (c_X2_putTrait l D cI _ a σ x 2 ((traitF σ x 2) - (minI y (traitF σ x 2)))) (cwV 3 hts gX2_takeLife_X2_putTrait rfl rfl rfl (by decide +kernel) ⟨Nat.le_of_ble_eq_true rfl, Nat.le_of_ble_eq_true rfl⟩) ⟨preM_blind, va_recv hK hP (ci := 2) (q0 := 0) rfl rfl, preM_of hP hK hE hD [.ref (a 0), .int x, .int 2, .int ((traitF σ x 2) - (minI y (traitF σ x 2)))]⟩ rfl rfl hl.1 rfl (lv_room (Nat.le_of_ble_eq_true rfl)) dX2_takeLife_21 ⟨Nat.zero_le _, Nat.zero_le _⟩) hS (fun q _ h => hFc q h) hFc (fun u t H1 locs ht hvm hw hB hz1 hk1 hS => ?_)
  obtain ⟨hP1, hK1, hD1⟩ := hB
  rw [ht] at hP1
  subst hw
  obtain ⟨hP, hD⟩ := va_join (wr := []) (w1 := sW cI a (putTraitF σ x 2 ((traitF σ x 2) - (minI y (traitF σ x 2))))) hP hD [0, 1, 2, 3, 4, 5] [] rfl rfl (by decide) (by decide) hk1 hFc hP1 hD1
  generalize H1 = H at hP hS ⊢
  have hP : va_P D vwCl (sW cI a (putTraitF σ x 2 ((traitF σ x 2) - (minI y (traitF σ x 2))))) H := hP
  have hD : va_D A (sW cI a (putTraitF σ x 2 ((traitF σ x 2) - (minI y (traitF σ x 2))))) := hD
  refine lv_iload_n hx hb dX2_takeLife_24 rfl (lv_at hl 1 rfl) ?_
  refine lv_iload hx hb dX2_takeLife_25 (lv_at hl 0 rfl) ?_
  refine lv_isub hx hb dX2_takeLife_27 ?_
  refine lv_if_ne (tgt := 38) hx hb dX2_takeLife_28 (by decide) (fun c_28 => ?_) (fun c_28 => ?_)
  · refine lv_iload hx hb dX2_takeLife_38 (lv_at hl 0 rfl) ?_
    have hP9 := hP
    have hD9 := hD
    exact W.iret (v := (minI y (traitF σ x 2))) hx hb hr (fun t ht hW => ⟨⟨(minI y (traitF σ x 2)), (putTraitF σ x 2 ((traitF σ x 2) - (minI y (traitF σ x 2)))), rfl, by first | rfl | (simp only [takeF, tookF, if_neg c_28]; done) | (simp only [takeF, tookF, if_neg c_28]; rfl) | (simp [takeF, tookF, c_28]; done) | (simp [takeF, tookF, c_28]; rfl), by rw [ht]; exact hP9, va_K.moved hW.alike hK, hD9⟩, hS.F ht⟩) hS.2.2 dX2_takeLife_40
  · refine lv_aload_n hx hb dX2_takeLife_31 rfl (lv_at hl 2 rfl) ?_
    refine lv_iload_n hx hb dX2_takeLife_32 rfl (lv_at hl 3 rfl) ?_
    refine lv_iconst (v := 1) hx hb dX2_takeLife_33 (by decide) ?_
    refine lv_iconst (v := (-1)) hx hb dX2_takeLife_34 (by decide) ?_
    have hFc := va_free (wc := sW cI a (putTraitF σ x 2 ((traitF σ x 2) - (minI y (traitF σ x 2))))) hD hS hA [0, 1, 2, 3, 4, 5] rfl
    refine va_callv (va_runV (As := [.int x, .int 1, .int (-1)]) (rest := []) ⟨hx, hb, hml, hown, hts⟩ (c_X2_putTrait l D cI _ a (putTraitF σ x 2 ((traitF σ x 2) - (minI y (traitF σ x 2)))) x 1 (-1)) (cwV 3 hts gX2_takeLife_X2_putTrait rfl rfl rfl (by decide +kernel) ⟨Nat.le_of_ble_eq_true rfl, Nat.le_of_ble_eq_true rfl⟩) ⟨preM_blind, va_recv hK hP (ci := 2) (q0 := 0) rfl rfl, preM_of hP hK hE hD [.ref (a 0), .int x, .int 1, .int (-1)]⟩ rfl rfl hl.1 rfl (lv_room (Nat.le_of_ble_eq_true rfl)) dX2_takeLife_35 ⟨Nat.zero_le _, Nat.zero_le _⟩) hS (fun q _ h => hFc q h) hFc (fun u t H1 locs ht hvm hw hB hz1 hk1 hS => ?_)
    obtain ⟨hP1, hK1, hD1⟩ := hB
    rw [ht] at hP1
    subst hw
    obtain ⟨hP, hD⟩ := va_join (wr := []) (w1 := sW cI a (putTraitF (putTraitF σ x 2 ((traitF σ x 2) - (minI y (traitF σ x 2)))) x 1 (-1))) hP hD [0, 1, 2, 3, 4, 5] [] rfl rfl (by decide) (by decide) hk1 hFc hP1 hD1
    generalize H1 = H at hP hS ⊢
    have hP : va_P D vwCl (sW cI a (putTraitF (putTraitF σ x 2 ((traitF σ x 2) - (minI y (traitF σ x 2)))) x 1 (-1))) H := hP
    have hD : va_D A (sW cI a (putTraitF (putTraitF σ x 2 ((traitF σ x 2) - (minI y (traitF σ x 2)))) x 1 (-1))) := hD
    refine lv_iload hx hb dX2_takeLife_38 (lv_at hl 0 rfl) ?_
    have hP9 := hP
    have hD9 := hD
    exact W.iret (v := (minI y (traitF σ x 2))) hx hb hr (fun t ht hW => ⟨⟨(minI y (traitF σ x 2)), (putTraitF (putTraitF σ x 2 ((traitF σ x 2) - (minI y (traitF σ x 2)))) x 1 (-1)), rfl, by first | rfl | (simp only [takeF, tookF, if_pos c_28]; done) | (simp only [takeF, tookF, if_pos c_28]; rfl) | (simp [takeF, tookF, c_28]; done) | (simp [takeF, tookF, c_28]; rfl), by rw [ht]; exact hP9, va_K.moved hW.alike hK, hD9⟩, hS.F ht⟩) hS.2.2 dX2_takeLife_40
end
section
set_option maxHeartbeats 4000000 in
set_option maxRecDepth 100000 in
theorem c_X2_look (l : Launch) (D : va_G) (cI : ClassId) (sz : Nat) (a : Nat → Nat) (σ : SS) (x : Int32) : Met l yX2_look wsX2_look ({ frames := 3, cells := 0, slots := 0, locals := 70 } : Room) (va_Pc [.ref (a 0), .int x] (preM D cI (sW cI a σ) sz)) (va_Qv (fun (u : SS) => u = lookF σ x) (fun (u : SS) => posM D cI (va_A (sW cI a σ) sz) (sW cI a u)) (va_A (sW cI a σ) sz)) 0 0 (va_A (sW cI a σ) sz) := by
  refine Met.ofW (cc := cX2_look) (maxL := 5) (ret := none) (by decide) rfl ?_
  intro p e s m args below meth c s₁ B hml hv
  obtain ⟨rfl, hsz, hP, hK, hE, hD0⟩ := hv
  have hx := B.exec
  have hb := B.bytes
  have hr := B.returns
  have hts := atoms_spec (ws := wsX2_look) B.pre
  have hown : s.vm.findClass RX2 = some m.cls := findClass_of_methodNamed B.named
  have hlocks := B.notSynchronized
  subst hsz
  have hD := hD0.self (sz := s.heap.size)
  generalize hAe : va_A (sW cI a σ) s.heap.size = A at hD ⊢
  have hA : ∀ q : Nat, s.heap.size ≤ q → A q := fun q h => by rw [← hAe]; exact Or.inr h
  have hS : va_S A s.heap s.heap [] := va_S.rf
  have hP : va_P D vwCl (sW cI a σ) s.heap := hP
  have hl := lv_entry ([.ref (a 0), .int x]) (n := 5) (Nat.le_of_ble_eq_true rfl)
  rw [lg_entry_eq]
  generalize (lg_sl ([.ref (a 0), .int x]) ++ List.replicate (5 - (lg_sl ([.ref (a 0), .int x])).length) Slot.unset).toArray = ls at hl ⊢
  have hl : lv_has ls 5 [(0, .ref (a 0)), (1, .int x)] := hl
  refine lv_aload_n hx hb dX2_look_0 rfl (lv_at hl 0 rfl) ?_
  refine lv_iload_n hx hb dX2_look_1 rfl (lv_at hl 1 rfl) ?_
  refine lv_iconst (v := 1) hx hb dX2_look_2 (by decide) ?_
  refine vp_callSi (va_Run.run (va_runV (As := [.int x, .int 1]) (rest := []) ⟨hx, hb, hml, hown, hts⟩ (c_X2_trait l D cI a σ x 1) (cwV 2 hts gX2_look_X2_trait rfl rfl rfl (by decide +kernel) ⟨Nat.le_of_ble_eq_true rfl, Nat.le_of_ble_eq_true rfl⟩) ⟨preR_blind, va_recv hK hP (ci := 2) (q0 := 0) rfl rfl, preR_of hP hK hE [.ref (a 0), .int x, .int 1]⟩ rfl rfl hl.1 rfl (lv_room (Nat.le_of_ble_eq_true rfl)) dX2_look_3 ⟨Nat.zero_le _, Nat.zero_le _⟩)) (fun r hr9 => ?_)
  subst hr9
  refine lv_istore_n (lv' := [(2, .int (traitF σ x 1)), (0, .ref (a 0)), (1, .int x)]) hx hb dX2_look_6 rfl hl (by decide) rfl (fun ls hl => ?_)
  refine lv_aload_n hx hb dX2_look_7 rfl (lv_at hl 1 rfl) ?_
  refine lv_iload_n hx hb dX2_look_8 rfl (lv_at hl 2 rfl) ?_
  refine lv_iconst (v := 0) hx hb dX2_look_9 (by decide) ?_
  refine vp_callSi (va_Run.run (va_runV (As := [.int x, .int 0]) (rest := []) ⟨hx, hb, hml, hown, hts⟩ (c_X2_trait l D cI a σ x 0) (cwV 2 hts gX2_look_X2_trait rfl rfl rfl (by decide +kernel) ⟨Nat.le_of_ble_eq_true rfl, Nat.le_of_ble_eq_true rfl⟩) ⟨preR_blind, va_recv hK hP (ci := 2) (q0 := 0) rfl rfl, preR_of hP hK hE [.ref (a 0), .int x, .int 0]⟩ rfl rfl hl.1 rfl (lv_room (Nat.le_of_ble_eq_true rfl)) dX2_look_10 ⟨Nat.zero_le _, Nat.zero_le _⟩)) (fun r hr9 => ?_)
  subst hr9
  refine lv_istore_n (lv' := [(3, .int (traitF σ x 0)), (2, .int (traitF σ x 1)), (0, .ref (a 0)), (1, .int x)]) hx hb dX2_look_13 rfl hl (by decide) rfl (fun ls hl => ?_)
  refine lv_iconst (v := 0) hx hb dX2_look_14 (by decide) ?_
  refine lv_istore (lv' := [(4, .int 0), (3, .int (traitF σ x 0)), (2, .int (traitF σ x 1)), (0, .ref (a 0)), (1, .int x)]) hx hb dX2_look_15 hl (by decide) rfl (fun ls hl => ?_)
  have L17 : ∀ (n k : Nat) (τ : SS) (hk : k + n = 160) (hsp : lookF σ x = lookL (traitF σ x 1) (traitF σ x 0) n k τ) (H : Heap) (locs : List Loc) (ls : Array Slot), lv_has ls 5 [(4, .int (nI k)), (3, .int (traitF σ x 0)), (2, .int (traitF σ x 1)), (0, .ref (a 0)), (1, .int x)] → va_P D vwCl (sW cI a τ) H → va_D A (sW cI a τ) → va_S A s.heap H locs → W p l e ({ frames := 3, cells := 0, slots := 0, locals := 70 } : Room) s m ([.ref (a 0), .int x] : List Value).toArray below meth c H locs 0 0 (MQ below (va_Qv (fun (u : SS) => u = lookF σ x) (fun (u : SS) => posM D cI A (sW cI a u)) A) ([.ref (a 0), .int x] : List Value).toArray s 0 0 A) (F0 m 17 ls []) := by
    intro n
    induction n with
    | zero =>
      intro k τ hk hsp H locs ls hl hP hD hS
      refine lv_iload hx hb dX2_look_17 (lv_at hl 0 rfl) ?_
      refine lv_aload_n hx hb dX2_look_19 rfl (lv_at hl 3 rfl) ?_
      refine va_get (D := D) (ci := 2) (v := .ref (a 2)) (C := RX2) (T := TX2) (N := 8) hx hb hts (by decide +kernel) hown hK hP 0 rfl rfl 1 (by decide) (hts (.fieldLink RX2 15 "Warren$State" "known" "[I") (by decide +kernel)) (fun _ h9 => h9) rfl dX2_look_20 ?_
      refine va_alen (v := nI 160) hx hb hK hP 2 0 rfl rfl rfl dX2_look_23 ?_
      refine lv_icmp_ge (tgt := 66) hx hb dX2_look_24 (by decide) (fun c_24 => ?_) (fun c_24 => absurd (nI_le (by omega) (by omega)) c_24)
      have hP9 := hP
      have hD9 := hD
      exact W.vret hx hb hr (fun t ht hW => ⟨⟨τ, rfl, by rw [hsp]; rfl, by rw [ht]; exact hP9, va_K.moved hW.alike hK, hD9⟩, hS.F ht⟩) hS.2.2 dX2_look_66
    | succ n ih17 =>
      intro k τ hk hsp H locs ls hl hP hD hS
      refine lv_iload hx hb dX2_look_17 (lv_at hl 0 rfl) ?_
      refine lv_aload_n hx hb dX2_look_19 rfl (lv_at hl 3 rfl) ?_
      refine va_get (D := D) (ci := 2) (v := .ref (a 2)) (C := RX2) (T := TX2) (N := 8) hx hb hts (by decide +kernel) hown hK hP 0 rfl rfl 1 (by decide) (hts (.fieldLink RX2 15 "Warren$State" "known" "[I") (by decide +kernel)) (fun _ h9 => h9) rfl dX2_look_20 ?_
      refine va_alen (v := nI 160) hx hb hK hP 2 0 rfl rfl rfl dX2_look_23 ?_
      refine lv_icmp_ge (tgt := 66) hx hb dX2_look_24 (by decide) (fun c_24 => absurd c_24 (nI_ge (by omega) (by omega))) (fun c_24 => ?_)
      refine lv_aload_n hx hb dX2_look_27 rfl (lv_at hl 3 rfl) ?_
      refine lv_iload_n hx hb dX2_look_28 rfl (lv_at hl 1 rfl) ?_
      refine lv_iload hx hb dX2_look_29 (lv_at hl 0 rfl) ?_
      refine vp_callSi (va_Run.run (va_runV (As := [.int (traitF σ x 0), .int (nI k)]) (rest := []) ⟨hx, hb, hml, hown, hts⟩ (c_X2_isKnown l D cI a τ (traitF σ x 0) (nI k)) (cwV 2 hts gX2_look_X2_isKnown rfl rfl rfl (by decide +kernel) ⟨Nat.le_of_ble_eq_true rfl, Nat.le_of_ble_eq_true rfl⟩) ⟨preR_blind, va_recv hK hP (ci := 2) (q0 := 0) rfl rfl, preR_of hP hK hE [.ref (a 0), .int (traitF σ x 0), .int (nI k)]⟩ rfl rfl hl.1 rfl (lv_room (Nat.le_of_ble_eq_true rfl)) dX2_look_31 ⟨Nat.zero_le _, Nat.zero_le _⟩)) (fun r hr9 => ?_)
      subst hr9
      refine w_bnz (tgt := 60) hx hb dX2_look_34 (by decide) (fun c_34 => ?_) (fun c_34 => ?_)
      · refine lv_iinc (v := (nI (k + 1))) (lv' := [(4, .int (nI (k + 1))), (3, .int (traitF σ x 0)), (2, .int (traitF σ x 1)), (0, .ref (a 0)), (1, .int x)]) hx hb dX2_look_60 hl (k := 0) rfl (nI_1 k) (by decide) rfl (fun ls hl => ?_)
        refine lv_goto (tgt := 17) hx hb dX2_look_63 (by decide) ?_
        exact ih17 (k + 1) τ (by omega) (by rw [hsp]; simp [lookL, c_24, c_34]) _ _ ls (lv_sub hl [0, 1, 2, 3, 4] rfl) hP hD hS
      · refine lv_aload_n hx hb dX2_look_37 rfl (lv_at hl 3 rfl) ?_
        refine lv_iload_n hx hb dX2_look_38 rfl (lv_at hl 2 rfl) ?_
        refine lv_iload hx hb dX2_look_39 (lv_at hl 0 rfl) ?_
        refine vp_callSi (va_Run.run (va_runV (As := [.int (traitF σ x 1), .int (nI k)]) (rest := []) ⟨hx, hb, hml, hown, hts⟩ (c_X2_isSeenFrom l D cI a τ (traitF σ x 1) (nI k)) (cwV 2 hts gX2_look_X2_isSeenFrom rfl rfl rfl (by decide +kernel) ⟨Nat.le_of_ble_eq_true rfl, Nat.le_of_ble_eq_true rfl⟩) ⟨preR_blind, va_recv hK hP (ci := 2) (q0 := 0) rfl rfl, preR_of hP hK hE [.ref (a 0), .int (traitF σ x 1), .int (nI k)]⟩ rfl rfl hl.1 rfl (lv_room (Nat.le_of_ble_eq_true rfl)) dX2_look_41 ⟨Nat.zero_le _, Nat.zero_le _⟩)) (fun r hr9 => ?_)
        subst hr9
        refine w_bz (tgt := 60) hx hb dX2_look_44 (by decide) (fun c_44 => ?_) (fun c_44 => ?_)
        · refine lv_iinc (v := (nI (k + 1))) (lv' := [(4, .int (nI (k + 1))), (3, .int (traitF σ x 0)), (2, .int (traitF σ x 1)), (0, .ref (a 0)), (1, .int x)]) hx hb dX2_look_60 hl (k := 0) rfl (nI_1 k) (by decide) rfl (fun ls hl => ?_)
          refine lv_goto (tgt := 17) hx hb dX2_look_63 (by decide) ?_
          exact ih17 (k + 1) τ (by omega) (by rw [hsp]; simp [lookL, c_24, c_34, c_44]) _ _ ls (lv_sub hl [0, 1, 2, 3, 4] rfl) hP hD hS
        · refine lv_aload_n hx hb dX2_look_47 rfl (lv_at hl 3 rfl) ?_
          refine va_get (D := D) (ci := 2) (v := .ref (a 2)) (C := RX2) (T := TX2) (N := 8) hx hb hts (by decide +kernel) hown hK hP 0 rfl rfl 1 (by decide) (hts (.fieldLink RX2 15 "Warren$State" "known" "[I") (by decide +kernel)) (fun _ h9 => h9) rfl dX2_look_48 ?_
          refine lv_iload hx hb dX2_look_51 (lv_at hl 0 rfl) ?_
          refine lv_dup2_11 hx hb dX2_look_53 rfl rfl ?_
          refine va_iald hx hb hK hP 2 0 rfl rfl (vp_in_nI (by omega) (by decide)) dX2_look_54 ?_
          refine lv_iconst (v := 1) hx hb dX2_look_55 (by decide) ?_
          refine lv_iload_n hx hb dX2_look_56 rfl (lv_at hl 1 rfl) ?_
          refine lv_ishl hx hb dX2_look_57 ?_
          refine lv_ior hx hb dX2_look_58 ?_
          refine va_iast hx hb hK hP hD hS 2 0 rfl rfl (vp_in_nI (by omega) (by decide)) dX2_look_59 (fun H locs hP hD hS => ?_)
          have hP : va_P D vwCl (sW cI a (w_kn τ (upd (s_kn τ) (nI k).toNatClampNeg (((s_kn τ) (nI k).toNatClampNeg) ||| (1 <<< ((traitF σ x 0) &&& 31)))))) H := hP
          have hD : va_D A (sW cI a (w_kn τ (upd (s_kn τ) (nI k).toNatClampNeg (((s_kn τ) (nI k).toNatClampNeg) ||| (1 <<< ((traitF σ x 0) &&& 31)))))) := hD
          refine lv_iinc (v := (nI (k + 1))) (lv' := [(4, .int (nI (k + 1))), (3, .int (traitF σ x 0)), (2, .int (traitF σ x 1)), (0, .ref (a 0)), (1, .int x)]) hx hb dX2_look_60 hl (k := 0) rfl (nI_1 k) (by decide) rfl (fun ls hl => ?_)
          refine lv_goto (tgt := 17) hx hb dX2_look_63 (by decide) ?_
          exact ih17 (k + 1) (w_kn τ (upd (s_kn τ) (nI k).toNatClampNeg (((s_kn τ) (nI k).toNatClampNeg) ||| (1 <<< ((traitF σ x 0) &&& 31))))) (by omega) (by rw [hsp]; simp [lookL, c_24, c_34, c_44]) _ _ ls (lv_sub hl [0, 1, 2, 3, 4] rfl) hP hD hS
  exact L17 160 0 σ (by omega) rfl _ _ ls (lv_sub hl [0, 1, 2, 3, 4] rfl) hP hD hS
end
section
set_option maxHeartbeats 4000000 in
set_option maxRecDepth 100000 in
theorem c_X2_digRoom (l : Launch) (D : va_G) (cI : ClassId) (sz : Nat) (a : Nat → Nat) (σ : SS) (x y w h : Nat) (hxw : x + w ≤ 16) (hyh : y + h ≤ 10) : Met l yX2_digRoom wsX2_digRoom ({ frames := 1, cells := 0, slots := 0, locals := 22 } : Room) (va_Pc [.ref (a 0), .int (nI x), .int (nI y), .int (nI w), .int (nI h)] (preM D cI (sW cI a σ) sz)) (va_Qi (fun (r : Int32) (u : SS) => r = (digF σ x y w h).2 ∧ u = (digF σ x y w h).1) (fun (u : SS) => posM D cI (va_A (sW cI a σ) sz) (sW cI a u)) (va_A (sW cI a σ) sz)) 0 0 (va_A (sW cI a σ) sz) := by
  refine Met.ofW (cc := cX2_digRoom) (maxL := 9) (ret := (some .int)) (by decide) rfl ?_
  intro p e s m args below meth c s₁ B hml hv
  obtain ⟨rfl, hsz, hP, hK, hE, hD0⟩ := hv
  have hx := B.exec
  have hb := B.bytes
  have hr := B.returns
  have hts := atoms_spec (ws := wsX2_digRoom) B.pre
  have hown : s.vm.findClass RX2 = some m.cls := findClass_of_methodNamed B.named
  have hlocks := B.notSynchronized
  subst hsz
  have hD := hD0.self (sz := s.heap.size)
  generalize hAe : va_A (sW cI a σ) s.heap.size = A at hD ⊢
  have hA : ∀ q : Nat, s.heap.size ≤ q → A q := fun q h => by rw [← hAe]; exact Or.inr h
  have hS : va_S A s.heap s.heap [] := va_S.rf
  have hP : va_P D vwCl (sW cI a σ) s.heap := hP
  have hl := lv_entry ([.ref (a 0), .int (nI x), .int (nI y), .int (nI w), .int (nI h)]) (n := 9) (Nat.le_of_ble_eq_true rfl)
  rw [lg_entry_eq]
  generalize (lg_sl ([.ref (a 0), .int (nI x), .int (nI y), .int (nI w), .int (nI h)]) ++ List.replicate (9 - (lg_sl ([.ref (a 0), .int (nI x), .int (nI y), .int (nI w), .int (nI h)])).length) Slot.unset).toArray = ls at hl ⊢
  have hl : lv_has ls 9 [(0, .ref (a 0)), (1, .int (nI x)), (2, .int (nI y)), (3, .int (nI w)), (4, .int (nI h))] := hl
  refine lv_iconst (v := 0) hx hb dX2_digRoom_0 (by decide) ?_
  refine lv_istore (lv' := [(5, .int 0), (0, .ref (a 0)), (1, .int (nI x)), (2, .int (nI y)), (3, .int (nI w)), (4, .int (nI h))]) hx hb dX2_digRoom_1 hl (by decide) rfl (fun ls hl => ?_)
  refine lv_iload_n hx hb dX2_digRoom_3 rfl (lv_at hl 3 rfl) ?_
  refine lv_istore (lv' := [(6, .int (nI y)), (5, .int 0), (0, .ref (a 0)), (1, .int (nI x)), (2, .int (nI y)), (3, .int (nI w)), (4, .int (nI h))]) hx hb dX2_digRoom_4 hl (by decide) rfl (fun ls hl => ?_)
  have L6 : ∀ (n r : Nat) (τ : SS) (t : Int32) (hk : r + n = y + h) (hsp : digF σ x y w h = digR x w n r τ t) (H : Heap) (locs : List Loc) (ls : Array Slot), lv_has ls 9 [(6, .int (nI r)), (5, .int t), (0, .ref (a 0)), (1, .int (nI x)), (2, .int (nI y)), (3, .int (nI w)), (4, .int (nI h))] → va_P D vwCl (sW cI a τ) H → va_D A (sW cI a τ) → va_S A s.heap H locs → W p l e ({ frames := 1, cells := 0, slots := 0, locals := 22 } : Room) s m ([.ref (a 0), .int (nI x), .int (nI y), .int (nI w), .int (nI h)] : List Value).toArray below meth c H locs 0 0 (MQ below (va_Qi (fun (r : Int32) (u : SS) => r = (digF σ x y w h).2 ∧ u = (digF σ x y w h).1) (fun (u : SS) => posM D cI A (sW cI a u)) A) ([.ref (a 0), .int (nI x), .int (nI y), .int (nI w), .int (nI h)] : List Value).toArray s 0 0 A) (F0 m 6 ls []) := by
    intro n
    induction n with
    | zero =>
      intro r τ t hk hsp H locs ls hl hP hD hS
      refine lv_iload hx hb dX2_digRoom_6 (lv_at hl 0 rfl) ?_
      refine lv_iload_n hx hb dX2_digRoom_8 rfl (lv_at hl 4 rfl) ?_
      refine lv_iload hx hb dX2_digRoom_9 (lv_at hl 6 rfl) ?_
      refine lv_iadd hx hb dX2_digRoom_11 ?_
      rw [nI_add y h]
      refine lv_icmp_ge (tgt := 75) hx hb dX2_digRoom_12 (by decide) (fun c_12 => ?_) (fun c_12 => absurd (nI_le (by omega) (by omega)) c_12)
      refine lv_iload hx hb dX2_digRoom_75 (lv_at hl 1 rfl) ?_
      have hP9 := hP
      have hD9 := hD
      exact W.iret (v := t) hx hb hr (fun T9 ht hW => ⟨⟨t, τ, rfl, ⟨by rw [hsp]; rfl, by rw [hsp]; rfl⟩, by rw [ht]; exact hP9, va_K.moved hW.alike hK, hD9⟩, hS.F ht⟩) hS.2.2 dX2_digRoom_77
    | succ n ih6 =>
      intro r τ t hk hsp H locs ls hl hP hD hS
      refine lv_iload hx hb dX2_digRoom_6 (lv_at hl 0 rfl) ?_
      refine lv_iload_n hx hb dX2_digRoom_8 rfl (lv_at hl 4 rfl) ?_
      refine lv_iload hx hb dX2_digRoom_9 (lv_at hl 6 rfl) ?_
      refine lv_iadd hx hb dX2_digRoom_11 ?_
      rw [nI_add y h]
      refine lv_icmp_ge (tgt := 75) hx hb dX2_digRoom_12 (by decide) (fun c_12 => absurd c_12 (nI_ge (by omega) (by omega))) (fun c_12 => ?_)
      refine lv_iload_n hx hb dX2_digRoom_15 rfl (lv_at hl 3 rfl) ?_
      refine lv_istore (lv' := [(7, .int (nI x)), (6, .int (nI r)), (5, .int t), (0, .ref (a 0)), (1, .int (nI x)), (2, .int (nI y)), (3, .int (nI w)), (4, .int (nI h))]) hx hb dX2_digRoom_16 hl (by decide) rfl (fun ls hl => ?_)
      have L18 : ∀ (n1 k : Nat) (τ1 : SS) (t1 : Int32) (hk1 : k + n1 = x + w) (hsp1 : digC r w x τ t = digC r n1 k τ1 t1) (H : Heap) (locs : List Loc) (ls : Array Slot), lv_has ls 9 [(7, .int (nI k)), (6, .int (nI r)), (5, .int t1), (0, .ref (a 0)), (1, .int (nI x)), (2, .int (nI y)), (3, .int (nI w)), (4, .int (nI h))] → va_P D vwCl (sW cI a τ1) H → va_D A (sW cI a τ1) → va_S A s.heap H locs → W p l e ({ frames := 1, cells := 0, slots := 0, locals := 22 } : Room) s m ([.ref (a 0), .int (nI x), .int (nI y), .int (nI w), .int (nI h)] : List Value).toArray below meth c H locs 0 0 (MQ below (va_Qi (fun (r : Int32) (u : SS) => r = (digF σ x y w h).2 ∧ u = (digF σ x y w h).1) (fun (u : SS) => posM D cI A (sW cI a u)) A) ([.ref (a 0), .int (nI x), .int (nI y), .int (nI w), .int (nI h)] : List Value).toArray s 0 0 A) (F0 m 18 ls []) := by
        intro n1
        induction n1 with
        | zero =>
          intro k τ1 t1 hk1 hsp1 H locs ls hl hP hD hS
          refine lv_iload hx hb dX2_digRoom_18 (lv_at hl 0 rfl) ?_
          refine lv_iload_n hx hb dX2_digRoom_20 rfl (lv_at hl 4 rfl) ?_
          refine lv_iload_n hx hb dX2_digRoom_21 rfl (lv_at hl 6 rfl) ?_
          refine lv_iadd hx hb dX2_digRoom_22 ?_
          rw [nI_add x w]
          refine lv_icmp_ge (tgt := 69) hx hb dX2_digRoom_23 (by decide) (fun c_23 => ?_) (fun c_23 => absurd (nI_le (by omega) (by omega)) c_23)
          refine lv_iinc (v := (nI (r + 1))) (lv' := [(6, .int (nI (r + 1))), (7, .int (nI k)), (5, .int t1), (0, .ref (a 0)), (1, .int (nI x)), (2, .int (nI y)), (3, .int (nI w)), (4, .int (nI h))]) hx hb dX2_digRoom_69 hl (k := 1) rfl (nI_1 r) (by decide) rfl (fun ls hl => ?_)
          refine lv_goto (tgt := 6) hx hb dX2_digRoom_72 (by decide) ?_
          exact ih6 (r + 1) τ1 t1 (by omega) (by rw [hsp, digR, hsp1]; rfl) _ _ ls (lv_sub hl [0, 2, 3, 4, 5, 6, 7] rfl) hP hD hS
        | succ n1 ih18 =>
          intro k τ1 t1 hk1 hsp1 H locs ls hl hP hD hS
          refine lv_iload hx hb dX2_digRoom_18 (lv_at hl 0 rfl) ?_
          refine lv_iload_n hx hb dX2_digRoom_20 rfl (lv_at hl 4 rfl) ?_
          refine lv_iload_n hx hb dX2_digRoom_21 rfl (lv_at hl 6 rfl) ?_
          refine lv_iadd hx hb dX2_digRoom_22 ?_
          rw [nI_add x w]
          refine lv_icmp_ge (tgt := 69) hx hb dX2_digRoom_23 (by decide) (fun c_23 => absurd c_23 (nI_ge (by omega) (by omega))) (fun c_23 => ?_)
          refine lv_iload hx hb dX2_digRoom_26 (lv_at hl 1 rfl) ?_
          refine lv_bipush (v := 16) hx hb dX2_digRoom_28 (by decide) ?_
          refine lv_imul hx hb dX2_digRoom_30 ?_
          refine lv_iload hx hb dX2_digRoom_31 (lv_at hl 0 rfl) ?_
          refine lv_iadd hx hb dX2_digRoom_33 ?_
          refine lv_istore (lv' := [(8, .int (((nI r) * 16) + (nI k))), (7, .int (nI k)), (6, .int (nI r)), (5, .int t1), (0, .ref (a 0)), (1, .int (nI x)), (2, .int (nI y)), (3, .int (nI w)), (4, .int (nI h))]) hx hb dX2_digRoom_34 hl (by decide) rfl (fun ls hl => ?_)
          refine lv_iload hx hb dX2_digRoom_36 (lv_at hl 0 rfl) ?_
          refine vp_callSi (va_Run.run (va_runSN (As := [.int (((nI r) * 16) + (nI k))]) (rest := []) ⟨hx, hb, hml, hown, hts⟩ (c_X4_isEdge l (((nI r) * 16) + (nI k))) ⟨va_cnB 1 hts gX2_digRoom_X4_isEdge_n49 rfl rfl rfl hE.1 (hts _ (by decide +kernel : Cond.initialized yX4_isEdge.cls ∈ _)) (by decide +kernel) ⟨Nat.le_of_ble_eq_true rfl, Nat.le_of_ble_eq_true rfl⟩, (hts _ (by decide +kernel : Cond.static yX4_isEdge ∈ _)), trivial⟩ ⟨fun _ _ _ _ q => q, fun _ _ _ => ⟨rfl, trivial⟩⟩ rfl rfl hl.1 rfl (lv_room (Nat.le_of_ble_eq_true rfl)) dX2_digRoom_38 ⟨Nat.zero_le _, Nat.zero_le _⟩)) (fun r hr9 => ?_)
          subst hr9
          refine w_bnz (tgt := 63) hx hb dX2_digRoom_41 (by decide) (fun c_41 => ?_) (fun c_41 => ?_)
          · refine lv_iinc (v := (nI (k + 1))) (lv' := [(7, .int (nI (k + 1))), (8, .int (((nI r) * 16) + (nI k))), (6, .int (nI r)), (5, .int t1), (0, .ref (a 0)), (1, .int (nI x)), (2, .int (nI y)), (3, .int (nI w)), (4, .int (nI h))]) hx hb dX2_digRoom_63 hl (k := 1) rfl (nI_1 k) (by decide) rfl (fun ls hl => ?_)
            refine lv_goto (tgt := 18) hx hb dX2_digRoom_66 (by decide) ?_
            exact ih18 (k + 1) τ1 t1 (by omega) (by rw [hsp1]; simp [digC, c_41]) _ _ ls (lv_sub hl [0, 2, 3, 4, 5, 6, 7, 8] rfl) hP hD hS
          · refine lv_aload_n hx hb dX2_digRoom_44 rfl (lv_at hl 4 rfl) ?_
            refine lv_iload hx hb dX2_digRoom_45 (lv_at hl 0 rfl) ?_
            refine vp_callSi (va_Run.run (va_runV (As := [.int (((nI r) * 16) + (nI k))]) (rest := []) ⟨hx, hb, hml, hown, hts⟩ (c_X2_kindAt l D cI a τ1 (((nI r) * 16) + (nI k))) (cwV 1 hts gX2_digRoom_X2_kindAt rfl rfl rfl (by decide +kernel) ⟨Nat.le_of_ble_eq_true rfl, Nat.le_of_ble_eq_true rfl⟩) ⟨preR_blind, va_recv hK hP (ci := 2) (q0 := 0) rfl rfl, preR_of hP hK hE [.ref (a 0), .int (((nI r) * 16) + (nI k))]⟩ rfl rfl hl.1 rfl (lv_room (Nat.le_of_ble_eq_true rfl)) dX2_digRoom_47 ⟨Nat.zero_le _, Nat.zero_le _⟩)) (fun r hr9 => ?_)
            subst hr9
            refine lv_if_eq (tgt := 63) hx hb dX2_digRoom_50 (by decide) (fun c_50 => ?_) (fun c_50 => ?_)
            · refine lv_iinc (v := (nI (k + 1))) (lv' := [(7, .int (nI (k + 1))), (8, .int (((nI r) * 16) + (nI k))), (6, .int (nI r)), (5, .int t1), (0, .ref (a 0)), (1, .int (nI x)), (2, .int (nI y)), (3, .int (nI w)), (4, .int (nI h))]) hx hb dX2_digRoom_63 hl (k := 1) rfl (nI_1 k) (by decide) rfl (fun ls hl => ?_)
              refine lv_goto (tgt := 18) hx hb dX2_digRoom_66 (by decide) ?_
              exact ih18 (k + 1) τ1 t1 (by omega) (by rw [hsp1]; simp [digC, c_41, c_50]) _ _ ls (lv_sub hl [0, 2, 3, 4, 5, 6, 7, 8] rfl) hP hD hS
            · refine lv_aload_n hx hb dX2_digRoom_53 rfl (lv_at hl 4 rfl) ?_
              refine lv_iload hx hb dX2_digRoom_54 (lv_at hl 0 rfl) ?_
              refine lv_iconst (v := 0) hx hb dX2_digRoom_56 (by decide) ?_
              have hFc := va_free (wc := sW cI a τ1) hD hS hA [0, 1, 2, 3, 4, 5] rfl
              refine va_callv (va_runV (As := [.int (((nI r) * 16) + (nI k)), .int 0]) (rest := []) ⟨hx, hb, hml, hown, hts⟩ (c_X2_putKind l D cI _ a τ1 (((nI r) * 16) + (nI k)) 0) (cwV 2 hts gX2_digRoom_X2_putKind rfl rfl rfl (by decide +kernel) ⟨Nat.le_of_ble_eq_true rfl, Nat.le_of_ble_eq_true rfl⟩) ⟨preM_blind, va_recv hK hP (ci := 2) (q0 := 0) rfl rfl, preM_of hP hK hE hD [.ref (a 0), .int (((nI r) * 16) + (nI k)), .int 0]⟩ rfl rfl hl.1 rfl (lv_room (Nat.le_of_ble_eq_true rfl)) dX2_digRoom_57 ⟨Nat.zero_le _, Nat.zero_le _⟩) hS (fun q _ h => hFc q h) hFc (fun u t H1 locs ht hvm hw hB hz1 hk1 hS => ?_)
              obtain ⟨hP1, hK1, hD1⟩ := hB
              rw [ht] at hP1
              subst hw
              obtain ⟨hP, hD⟩ := va_join (wr := []) (w1 := sW cI a (putKindF τ1 (((nI r) * 16) + (nI k)) 0)) hP hD [0, 1, 2, 3, 4, 5] [] rfl rfl (by decide) (by decide) hk1 hFc hP1 hD1
              generalize H1 = H at hP hS ⊢
              have hP : va_P D vwCl (sW cI a (putKindF τ1 (((nI r) * 16) + (nI k)) 0)) H := hP
              have hD : va_D A (sW cI a (putKindF τ1 (((nI r) * 16) + (nI k)) 0)) := hD
              refine lv_iinc (v := (t1 + 1)) (lv' := [(5, .int (t1 + 1)), (8, .int (((nI r) * 16) + (nI k))), (7, .int (nI k)), (6, .int (nI r)), (0, .ref (a 0)), (1, .int (nI x)), (2, .int (nI y)), (3, .int (nI w)), (4, .int (nI h))]) hx hb dX2_digRoom_60 hl (k := 3) rfl rfl (by decide) rfl (fun ls hl => ?_)
              refine lv_iinc (v := (nI (k + 1))) (lv' := [(7, .int (nI (k + 1))), (5, .int (t1 + 1)), (8, .int (((nI r) * 16) + (nI k))), (6, .int (nI r)), (0, .ref (a 0)), (1, .int (nI x)), (2, .int (nI y)), (3, .int (nI w)), (4, .int (nI h))]) hx hb dX2_digRoom_63 hl (k := 2) rfl (nI_1 k) (by decide) rfl (fun ls hl => ?_)
              refine lv_goto (tgt := 18) hx hb dX2_digRoom_66 (by decide) ?_
              exact ih18 (k + 1) (putKindF τ1 (((nI r) * 16) + (nI k)) 0) (t1 + 1) (by omega) (by rw [hsp1]; simp [digC, c_41, c_50]) _ _ ls (lv_sub hl [0, 3, 1, 4, 5, 6, 7, 8] rfl) hP hD hS
      exact L18 w x τ t (by omega) rfl _ _ ls (lv_sub hl [0, 1, 2, 3, 4, 5, 6, 7] rfl) hP hD hS
  exact L6 h y σ 0 (by omega) rfl _ _ ls (lv_sub hl [0, 1, 2, 3, 4, 5, 6] rfl) hP hD hS
end
section
set_option maxHeartbeats 4000000 in
set_option maxRecDepth 100000 in
theorem c_X2_addBeing (l : Launch) (D : va_G) (cI : ClassId) (sz : Nat) (a : Nat → Nat) (σ : SS) (x y z : Int32) (hn : s_n σ ≤ 10) : Met l yX2_addBeing wsX2_addBeing ({ frames := 4, cells := 0, slots := 0, locals := 94 } : Room) (va_Pc [.ref (a 0), .int x, .int y, .int z] (preM D cI (sW cI a σ) sz)) (va_Qi (fun (r : Int32) (u : SS) => r = newNo σ x y z ∧ u = addF σ x y z) (fun (u : SS) => posM D cI (va_A (sW cI a σ) sz) (sW cI a u)) (va_A (sW cI a σ) sz)) 0 0 (va_A (sW cI a σ) sz) := by
  refine Met.ofW (cc := cX2_addBeing) (maxL := 7) (ret := (some .int)) (by decide) rfl ?_
  intro p e s m args below meth c s₁ B hml hv
  obtain ⟨rfl, hsz, hP, hK, hE, hD0⟩ := hv
  have hx := B.exec
  have hb := B.bytes
  have hr := B.returns
  have hts := atoms_spec (ws := wsX2_addBeing) B.pre
  have hown : s.vm.findClass RX2 = some m.cls := findClass_of_methodNamed B.named
  have hlocks := B.notSynchronized
  subst hsz
  have hD := hD0.self (sz := s.heap.size)
  generalize hAe : va_A (sW cI a σ) s.heap.size = A at hD ⊢
  have hA : ∀ q : Nat, s.heap.size ≤ q → A q := fun q h => by rw [← hAe]; exact Or.inr h
  have hS : va_S A s.heap s.heap [] := va_S.rf
  have hP : va_P D vwCl (sW cI a σ) s.heap := hP
  have hl := lv_entry ([.ref (a 0), .int x, .int y, .int z]) (n := 7) (Nat.le_of_ble_eq_true rfl)
  rw [lg_entry_eq]
  generalize (lg_sl ([.ref (a 0), .int x, .int y, .int z]) ++ List.replicate (7 - (lg_sl ([.ref (a 0), .int x, .int y, .int z])).length) Slot.unset).toArray = ls at hl ⊢
  have hl : lv_has ls 7 [(0, .ref (a 0)), (1, .int x), (2, .int y), (3, .int z)] := hl
  refine lv_aload_n hx hb dX2_addBeing_0 rfl (lv_at hl 0 rfl) ?_
  refine vp_callSi (va_Run.run (va_runV (As := []) (rest := []) ⟨hx, hb, hml, hown, hts⟩ (c_X2_whoseTurn l D cI a σ  hn) (cwV 0 hts gX2_addBeing_X2_whoseTurn rfl rfl rfl (by decide +kernel) ⟨Nat.le_of_ble_eq_true rfl, Nat.le_of_ble_eq_true rfl⟩) ⟨preR_blind, va_recv hK hP (ci := 2) (q0 := 0) rfl rfl, preR_of hP hK hE [.ref (a 0)]⟩ rfl rfl hl.1 rfl (lv_room (Nat.le_of_ble_eq_true rfl)) dX2_addBeing_1 ⟨Nat.zero_le _, Nat.zero_le _⟩)) (fun r hr9 => ?_)
  subst hr9
  refine lv_istore (lv' := [(4, .int (turnF σ)), (0, .ref (a 0)), (1, .int x), (2, .int y), (3, .int z)]) hx hb dX2_addBeing_4 hl (by decide) rfl (fun ls hl => ?_)
  refine lv_aload_n hx hb dX2_addBeing_6 rfl (lv_at hl 1 rfl) ?_
  refine va_get (D := D) (ci := 2) (v := .int (nI (s_n σ))) (C := RX2) (T := TX2) (N := 8) hx hb hts (by decide +kernel) hown hK hP 0 rfl rfl 5 (by decide) (hts (.fieldLink RX2 39 "Warren$State" "beings" "I") (by decide +kernel)) (fun _ h9 => h9) rfl dX2_addBeing_7 ?_
  refine lv_istore (lv' := [(5, .int (nI (s_n σ))), (4, .int (turnF σ)), (0, .ref (a 0)), (1, .int x), (2, .int y), (3, .int z)]) hx hb dX2_addBeing_10 hl (by decide) rfl (fun ls hl => ?_)
  refine lv_aload_n hx hb dX2_addBeing_12 rfl (lv_at hl 2 rfl) ?_
  refine lv_dup hx hb dX2_addBeing_13 rfl ?_
  refine va_get (D := D) (ci := 2) (v := .int (nI (s_n σ))) (C := RX2) (T := TX2) (N := 8) hx hb hts (by decide +kernel) hown hK hP 0 rfl rfl 5 (by decide) (hts (.fieldLink RX2 39 "Warren$State" "beings" "I") (by decide +kernel)) (fun _ h9 => h9) rfl dX2_addBeing_14 ?_
  refine lv_iconst (v := 1) hx hb dX2_addBeing_17 (by decide) ?_
  refine lv_iadd hx hb dX2_addBeing_18 ?_
  rw [nI_1 (s_n σ)]
  refine va_put (D := D) (ci := 2) (v := .int (nI (s_n σ + 1))) (ty := .int) (C := RX2) (T := TX2) (N := 8) hx hb hts (by decide +kernel) tyX2 tyX2_ok nmX2 hown hK hP hD hS 0 rfl rfl 5 (by decide) (hts (.fieldLink RX2 39 "Warren$State" "beings" "I") (by decide +kernel)) (fun _ h9 => h9) rfl (by decide +kernel) rfl rfl (Nat.le_of_ble_eq_true rfl) dX2_addBeing_19 (fun H locs hP hD hS => ?_)
  have hP : va_P D vwCl (sW cI a (w_n σ (s_n σ + 1))) H := hP
  have hD : va_D A (sW cI a (w_n σ (s_n σ + 1))) := hD
  refine lv_aload_n hx hb dX2_addBeing_22 rfl (lv_at hl 2 rfl) ?_
  refine lv_iload hx hb dX2_addBeing_23 (lv_at hl 0 rfl) ?_
  refine lv_iconst (v := 0) hx hb dX2_addBeing_25 (by decide) ?_
  refine lv_iload_n hx hb dX2_addBeing_26 rfl (lv_at hl 3 rfl) ?_
  have hFc := va_free (wc := sW cI a (w_n σ (s_n σ + 1))) hD hS hA [0, 1, 2, 3, 4, 5] rfl
  refine va_callv (va_runV (As := [.int (nI (s_n σ)), .int 0, .int x]) (rest := []) ⟨hx, hb, hml, hown, hts⟩ (c_X2_putTrait l D cI _ a (w_n σ (s_n σ + 1)) (nI (s_n σ)) 0 x) (cwV 3 hts gX2_addBeing_X2_putTrait rfl rfl rfl (by decide +kernel) ⟨Nat.le_of_ble_eq_true rfl, Nat.le_of_ble_eq_true rfl⟩) ⟨preM_blind, va_recv hK hP (ci := 2) (q0 := 0) rfl rfl, preM_of hP hK hE hD [.ref (a 0), .int (nI (s_n σ)), .int 0, .int x]⟩ rfl rfl hl.1 rfl (lv_room (Nat.le_of_ble_eq_true rfl)) dX2_addBeing_27 ⟨Nat.zero_le _, Nat.zero_le _⟩) hS (fun q _ h => hFc q h) hFc (fun u t9 H1 locs ht hvm hw hB hz1 hk1 hS => ?_)
  obtain ⟨hP1, hK1, hD1⟩ := hB
  rw [ht] at hP1
  subst hw
  obtain ⟨hP, hD⟩ := va_join (wr := []) (w1 := sW cI a (putTraitF (w_n σ (s_n σ + 1)) (nI (s_n σ)) 0 x)) hP hD [0, 1, 2, 3, 4, 5] [] rfl rfl (by decide) (by decide) hk1 hFc hP1 hD1
  generalize H1 = H at hP hS ⊢
  have hP : va_P D vwCl (sW cI a (putTraitF (w_n σ (s_n σ + 1)) (nI (s_n σ)) 0 x)) H := hP
  have hD : va_D A (sW cI a (putTraitF (w_n σ (s_n σ + 1)) (nI (s_n σ)) 0 x)) := hD
  refine lv_aload_n hx hb dX2_addBeing_30 rfl (lv_at hl 2 rfl) ?_
  refine lv_iload hx hb dX2_addBeing_31 (lv_at hl 0 rfl) ?_
  refine lv_iconst (v := 1) hx hb dX2_addBeing_33 (by decide) ?_
  refine lv_iload_n hx hb dX2_addBeing_34 rfl (lv_at hl 4 rfl) ?_
  have hFc := va_free (wc := sW cI a (putTraitF (w_n σ (s_n σ + 1)) (nI (s_n σ)) 0 x)) hD hS hA [0, 1, 2, 3, 4, 5] rfl
  refine va_callv (va_runV (As := [.int (nI (s_n σ)), .int 1, .int y]) (rest := []) ⟨hx, hb, hml, hown, hts⟩ (c_X2_putTrait l D cI _ a (putTraitF (w_n σ (s_n σ + 1)) (nI (s_n σ)) 0 x) (nI (s_n σ)) 1 y) (cwV 3 hts gX2_addBeing_X2_putTrait rfl rfl rfl (by decide +kernel) ⟨Nat.le_of_ble_eq_true rfl, Nat.le_of_ble_eq_true rfl⟩) ⟨preM_blind, va_recv hK hP (ci := 2) (q0 := 0) rfl rfl, preM_of hP hK hE hD [.ref (a 0), .int (nI (s_n σ)), .int 1, .int y]⟩ rfl rfl hl.1 rfl (lv_room (Nat.le_of_ble_eq_true rfl)) dX2_addBeing_35 ⟨Nat.zero_le _, Nat.zero_le _⟩) hS (fun q _ h => hFc q h) hFc (fun u t9 H1 locs ht hvm hw hB hz1 hk1 hS => ?_)
  obtain ⟨hP1, hK1, hD1⟩ := hB
  rw [ht] at hP1
  subst hw
  obtain ⟨hP, hD⟩ := va_join (wr := []) (w1 := sW cI a (putTraitF (putTraitF (w_n σ (s_n σ + 1)) (nI (s_n σ)) 0 x) (nI (s_n σ)) 1 y)) hP hD [0, 1, 2, 3, 4, 5] [] rfl rfl (by decide) (by decide) hk1 hFc hP1 hD1
  generalize H1 = H at hP hS ⊢
  have hP : va_P D vwCl (sW cI a (putTraitF (putTraitF (w_n σ (s_n σ + 1)) (nI (s_n σ)) 0 x) (nI (s_n σ)) 1 y)) H := hP
  have hD : va_D A (sW cI a (putTraitF (putTraitF (w_n σ (s_n σ + 1)) (nI (s_n σ)) 0 x) (nI (s_n σ)) 1 y)) := hD
  refine lv_aload_n hx hb dX2_addBeing_38 rfl (lv_at hl 2 rfl) ?_
  refine lv_iload hx hb dX2_addBeing_39 (lv_at hl 0 rfl) ?_
  refine lv_iconst (v := 2) hx hb dX2_addBeing_41 (by decide) ?_
  refine lv_iload_n hx hb dX2_addBeing_42 rfl (lv_at hl 5 rfl) ?_
  have hFc := va_free (wc := sW cI a (putTraitF (putTraitF (w_n σ (s_n σ + 1)) (nI (s_n σ)) 0 x) (nI (s_n σ)) 1 y)) hD hS hA [0, 1, 2, 3, 4, 5] rfl
  refine va_callv (va_runV (As := [.int (nI (s_n σ)), .int 2, .int z]) (rest := []) ⟨hx, hb, hml, hown, hts⟩ (c_X2_putTrait l D cI _ a (putTraitF (putTraitF (w_n σ (s_n σ + 1)) (nI (s_n σ)) 0 x) (nI (s_n σ)) 1 y) (nI (s_n σ)) 2 z) (cwV 3 hts gX2_addBeing_X2_putTrait rfl rfl rfl (by decide +kernel) ⟨Nat.le_of_ble_eq_true rfl, Nat.le_of_ble_eq_true rfl⟩) ⟨preM_blind, va_recv hK hP (ci := 2) (q0 := 0) rfl rfl, preM_of hP hK hE hD [.ref (a 0), .int (nI (s_n σ)), .int 2, .int z]⟩ rfl rfl hl.1 rfl (lv_room (Nat.le_of_ble_eq_true rfl)) dX2_addBeing_43 ⟨Nat.zero_le _, Nat.zero_le _⟩) hS (fun q _ h => hFc q h) hFc (fun u t9 H1 locs ht hvm hw hB hz1 hk1 hS => ?_)
  obtain ⟨hP1, hK1, hD1⟩ := hB
  rw [ht] at hP1
  subst hw
  obtain ⟨hP, hD⟩ := va_join (wr := []) (w1 := sW cI a (putTraitF (putTraitF (putTraitF (w_n σ (s_n σ + 1)) (nI (s_n σ)) 0 x) (nI (s_n σ)) 1 y) (nI (s_n σ)) 2 z)) hP hD [0, 1, 2, 3, 4, 5] [] rfl rfl (by decide) (by decide) hk1 hFc hP1 hD1
  generalize H1 = H at hP hS ⊢
  have hP : va_P D vwCl (sW cI a (putTraitF (putTraitF (putTraitF (w_n σ (s_n σ + 1)) (nI (s_n σ)) 0 x) (nI (s_n σ)) 1 y) (nI (s_n σ)) 2 z)) H := hP
  have hD : va_D A (sW cI a (putTraitF (putTraitF (putTraitF (w_n σ (s_n σ + 1)) (nI (s_n σ)) 0 x) (nI (s_n σ)) 1 y) (nI (s_n σ)) 2 z)) := hD
  refine lv_aload_n hx hb dX2_addBeing_46 rfl (lv_at hl 2 rfl) ?_
  refine lv_iload hx hb dX2_addBeing_47 (lv_at hl 0 rfl) ?_
  refine lv_iconst (v := 3) hx hb dX2_addBeing_49 (by decide) ?_
  refine lv_iload_n hx hb dX2_addBeing_50 rfl (lv_at hl 5 rfl) ?_
  have hFc := va_free (wc := sW cI a (putTraitF (putTraitF (putTraitF (w_n σ (s_n σ + 1)) (nI (s_n σ)) 0 x) (nI (s_n σ)) 1 y) (nI (s_n σ)) 2 z)) hD hS hA [0, 1, 2, 3, 4, 5] rfl
  refine va_callv (va_runV (As := [.int (nI (s_n σ)), .int 3, .int z]) (rest := []) ⟨hx, hb, hml, hown, hts⟩ (c_X2_putTrait l D cI _ a (putTraitF (putTraitF (putTraitF (w_n σ (s_n σ + 1)) (nI (s_n σ)) 0 x) (nI (s_n σ)) 1 y) (nI (s_n σ)) 2 z) (nI (s_n σ)) 3 z) (cwV 3 hts gX2_addBeing_X2_putTrait rfl rfl rfl (by decide +kernel) ⟨Nat.le_of_ble_eq_true rfl, Nat.le_of_ble_eq_true rfl⟩) ⟨preM_blind, va_recv hK hP (ci := 2) (q0 := 0) rfl rfl, preM_of hP hK hE hD [.ref (a 0), .int (nI (s_n σ)), .int 3, .int z]⟩ rfl rfl hl.1 rfl (lv_room (Nat.le_of_ble_eq_true rfl)) dX2_addBeing_51 ⟨Nat.zero_le _, Nat.zero_le _⟩) hS (fun q _ h => hFc q h) hFc (fun u t9 H1 locs ht hvm hw hB hz1 hk1 hS => ?_)
  obtain ⟨hP1, hK1, hD1⟩ := hB
  rw [ht] at hP1
  subst hw
  obtain ⟨hP, hD⟩ := va_join (wr := []) (w1 := sW cI a (putTraitF (putTraitF (putTraitF (putTraitF (w_n σ (s_n σ + 1)) (nI (s_n σ)) 0 x) (nI (s_n σ)) 1 y) (nI (s_n σ)) 2 z) (nI (s_n σ)) 3 z)) hP hD [0, 1, 2, 3, 4, 5] [] rfl rfl (by decide) (by decide) hk1 hFc hP1 hD1
  generalize H1 = H at hP hS ⊢
  have hP : va_P D vwCl (sW cI a (putTraitF (putTraitF (putTraitF (putTraitF (w_n σ (s_n σ + 1)) (nI (s_n σ)) 0 x) (nI (s_n σ)) 1 y) (nI (s_n σ)) 2 z) (nI (s_n σ)) 3 z)) H := hP
  have hD : va_D A (sW cI a (putTraitF (putTraitF (putTraitF (putTraitF (w_n σ (s_n σ + 1)) (nI (s_n σ)) 0 x) (nI (s_n σ)) 1 y) (nI (s_n σ)) 2 z) (nI (s_n σ)) 3 z)) := hD
  refine lv_aload_n hx hb dX2_addBeing_54 rfl (lv_at hl 2 rfl) ?_
  refine lv_iload hx hb dX2_addBeing_55 (lv_at hl 0 rfl) ?_
  refine lv_iconst (v := 4) hx hb dX2_addBeing_57 (by decide) ?_
  refine lv_iconst (v := 5) hx hb dX2_addBeing_58 (by decide) ?_
  have hFc := va_free (wc := sW cI a (putTraitF (putTraitF (putTraitF (putTraitF (w_n σ (s_n σ + 1)) (nI (s_n σ)) 0 x) (nI (s_n σ)) 1 y) (nI (s_n σ)) 2 z) (nI (s_n σ)) 3 z)) hD hS hA [0, 1, 2, 3, 4, 5] rfl
  refine va_callv (va_runV (As := [.int (nI (s_n σ)), .int 4, .int 5]) (rest := []) ⟨hx, hb, hml, hown, hts⟩ (c_X2_putTrait l D cI _ a (putTraitF (putTraitF (putTraitF (putTraitF (w_n σ (s_n σ + 1)) (nI (s_n σ)) 0 x) (nI (s_n σ)) 1 y) (nI (s_n σ)) 2 z) (nI (s_n σ)) 3 z) (nI (s_n σ)) 4 5) (cwV 3 hts gX2_addBeing_X2_putTrait rfl rfl rfl (by decide +kernel) ⟨Nat.le_of_ble_eq_true rfl, Nat.le_of_ble_eq_true rfl⟩) ⟨preM_blind, va_recv hK hP (ci := 2) (q0 := 0) rfl rfl, preM_of hP hK hE hD [.ref (a 0), .int (nI (s_n σ)), .int 4, .int 5]⟩ rfl rfl hl.1 rfl (lv_room (Nat.le_of_ble_eq_true rfl)) dX2_addBeing_59 ⟨Nat.zero_le _, Nat.zero_le _⟩) hS (fun q _ h => hFc q h) hFc (fun u t9 H1 locs ht hvm hw hB hz1 hk1 hS => ?_)
  obtain ⟨hP1, hK1, hD1⟩ := hB
  rw [ht] at hP1
  subst hw
  obtain ⟨hP, hD⟩ := va_join (wr := []) (w1 := sW cI a (putTraitF (putTraitF (putTraitF (putTraitF (putTraitF (w_n σ (s_n σ + 1)) (nI (s_n σ)) 0 x) (nI (s_n σ)) 1 y) (nI (s_n σ)) 2 z) (nI (s_n σ)) 3 z) (nI (s_n σ)) 4 5)) hP hD [0, 1, 2, 3, 4, 5] [] rfl rfl (by decide) (by decide) hk1 hFc hP1 hD1
  generalize H1 = H at hP hS ⊢
  have hP : va_P D vwCl (sW cI a (putTraitF (putTraitF (putTraitF (putTraitF (putTraitF (w_n σ (s_n σ + 1)) (nI (s_n σ)) 0 x) (nI (s_n σ)) 1 y) (nI (s_n σ)) 2 z) (nI (s_n σ)) 3 z) (nI (s_n σ)) 4 5)) H := hP
  have hD : va_D A (sW cI a (putTraitF (putTraitF (putTraitF (putTraitF (putTraitF (w_n σ (s_n σ + 1)) (nI (s_n σ)) 0 x) (nI (s_n σ)) 1 y) (nI (s_n σ)) 2 z) (nI (s_n σ)) 3 z) (nI (s_n σ)) 4 5)) := hD
  refine lv_aload_n hx hb dX2_addBeing_62 rfl (lv_at hl 2 rfl) ?_
  refine lv_iload hx hb dX2_addBeing_63 (lv_at hl 0 rfl) ?_
  refine lv_iconst (v := 5) hx hb dX2_addBeing_65 (by decide) ?_
  refine lv_iconst (v := 2) hx hb dX2_addBeing_66 (by decide) ?_
  have hFc := va_free (wc := sW cI a (putTraitF (putTraitF (putTraitF (putTraitF (putTraitF (w_n σ (s_n σ + 1)) (nI (s_n σ)) 0 x) (nI (s_n σ)) 1 y) (nI (s_n σ)) 2 z) (nI (s_n σ)) 3 z) (nI (s_n σ)) 4 5)) hD hS hA [0, 1, 2, 3, 4, 5] rfl
  refine va_callv (va_runV (As := [.int (nI (s_n σ)), .int 5, .int 2]) (rest := []) ⟨hx, hb, hml, hown, hts⟩ (c_X2_putTrait l D cI _ a (putTraitF (putTraitF (putTraitF (putTraitF (putTraitF (w_n σ (s_n σ + 1)) (nI (s_n σ)) 0 x) (nI (s_n σ)) 1 y) (nI (s_n σ)) 2 z) (nI (s_n σ)) 3 z) (nI (s_n σ)) 4 5) (nI (s_n σ)) 5 2) (cwV 3 hts gX2_addBeing_X2_putTrait rfl rfl rfl (by decide +kernel) ⟨Nat.le_of_ble_eq_true rfl, Nat.le_of_ble_eq_true rfl⟩) ⟨preM_blind, va_recv hK hP (ci := 2) (q0 := 0) rfl rfl, preM_of hP hK hE hD [.ref (a 0), .int (nI (s_n σ)), .int 5, .int 2]⟩ rfl rfl hl.1 rfl (lv_room (Nat.le_of_ble_eq_true rfl)) dX2_addBeing_67 ⟨Nat.zero_le _, Nat.zero_le _⟩) hS (fun q _ h => hFc q h) hFc (fun u t9 H1 locs ht hvm hw hB hz1 hk1 hS => ?_)
  obtain ⟨hP1, hK1, hD1⟩ := hB
  rw [ht] at hP1
  subst hw
  obtain ⟨hP, hD⟩ := va_join (wr := []) (w1 := sW cI a (putTraitF (putTraitF (putTraitF (putTraitF (putTraitF (putTraitF (w_n σ (s_n σ + 1)) (nI (s_n σ)) 0 x) (nI (s_n σ)) 1 y) (nI (s_n σ)) 2 z) (nI (s_n σ)) 3 z) (nI (s_n σ)) 4 5) (nI (s_n σ)) 5 2)) hP hD [0, 1, 2, 3, 4, 5] [] rfl rfl (by decide) (by decide) hk1 hFc hP1 hD1
  generalize H1 = H at hP hS ⊢
  have hP : va_P D vwCl (sW cI a (putTraitF (putTraitF (putTraitF (putTraitF (putTraitF (putTraitF (w_n σ (s_n σ + 1)) (nI (s_n σ)) 0 x) (nI (s_n σ)) 1 y) (nI (s_n σ)) 2 z) (nI (s_n σ)) 3 z) (nI (s_n σ)) 4 5) (nI (s_n σ)) 5 2)) H := hP
  have hD : va_D A (sW cI a (putTraitF (putTraitF (putTraitF (putTraitF (putTraitF (putTraitF (w_n σ (s_n σ + 1)) (nI (s_n σ)) 0 x) (nI (s_n σ)) 1 y) (nI (s_n σ)) 2 z) (nI (s_n σ)) 3 z) (nI (s_n σ)) 4 5) (nI (s_n σ)) 5 2)) := hD
  refine lv_aload_n hx hb dX2_addBeing_70 rfl (lv_at hl 2 rfl) ?_
  refine lv_iload hx hb dX2_addBeing_71 (lv_at hl 0 rfl) ?_
  refine lv_bipush (v := 6) hx hb dX2_addBeing_73 (by decide) ?_
  refine lv_iconst (v := 2) hx hb dX2_addBeing_75 (by decide) ?_
  have hFc := va_free (wc := sW cI a (putTraitF (putTraitF (putTraitF (putTraitF (putTraitF (putTraitF (w_n σ (s_n σ + 1)) (nI (s_n σ)) 0 x) (nI (s_n σ)) 1 y) (nI (s_n σ)) 2 z) (nI (s_n σ)) 3 z) (nI (s_n σ)) 4 5) (nI (s_n σ)) 5 2)) hD hS hA [0, 1, 2, 3, 4, 5] rfl
  refine va_callv (va_runV (As := [.int (nI (s_n σ)), .int 6, .int 2]) (rest := []) ⟨hx, hb, hml, hown, hts⟩ (c_X2_putTrait l D cI _ a (putTraitF (putTraitF (putTraitF (putTraitF (putTraitF (putTraitF (w_n σ (s_n σ + 1)) (nI (s_n σ)) 0 x) (nI (s_n σ)) 1 y) (nI (s_n σ)) 2 z) (nI (s_n σ)) 3 z) (nI (s_n σ)) 4 5) (nI (s_n σ)) 5 2) (nI (s_n σ)) 6 2) (cwV 3 hts gX2_addBeing_X2_putTrait rfl rfl rfl (by decide +kernel) ⟨Nat.le_of_ble_eq_true rfl, Nat.le_of_ble_eq_true rfl⟩) ⟨preM_blind, va_recv hK hP (ci := 2) (q0 := 0) rfl rfl, preM_of hP hK hE hD [.ref (a 0), .int (nI (s_n σ)), .int 6, .int 2]⟩ rfl rfl hl.1 rfl (lv_room (Nat.le_of_ble_eq_true rfl)) dX2_addBeing_76 ⟨Nat.zero_le _, Nat.zero_le _⟩) hS (fun q _ h => hFc q h) hFc (fun u t9 H1 locs ht hvm hw hB hz1 hk1 hS => ?_)
  obtain ⟨hP1, hK1, hD1⟩ := hB
  rw [ht] at hP1
  subst hw
  obtain ⟨hP, hD⟩ := va_join (wr := []) (w1 := sW cI a (putTraitF (putTraitF (putTraitF (putTraitF (putTraitF (putTraitF (putTraitF (w_n σ (s_n σ + 1)) (nI (s_n σ)) 0 x) (nI (s_n σ)) 1 y) (nI (s_n σ)) 2 z) (nI (s_n σ)) 3 z) (nI (s_n σ)) 4 5) (nI (s_n σ)) 5 2) (nI (s_n σ)) 6 2)) hP hD [0, 1, 2, 3, 4, 5] [] rfl rfl (by decide) (by decide) hk1 hFc hP1 hD1
  generalize H1 = H at hP hS ⊢
  have hP : va_P D vwCl (sW cI a (putTraitF (putTraitF (putTraitF (putTraitF (putTraitF (putTraitF (putTraitF (w_n σ (s_n σ + 1)) (nI (s_n σ)) 0 x) (nI (s_n σ)) 1 y) (nI (s_n σ)) 2 z) (nI (s_n σ)) 3 z) (nI (s_n σ)) 4 5) (nI (s_n σ)) 5 2) (nI (s_n σ)) 6 2)) H := hP
  have hD : va_D A (sW cI a (putTraitF (putTraitF (putTraitF (putTraitF (putTraitF (putTraitF (putTraitF (w_n σ (s_n σ + 1)) (nI (s_n σ)) 0 x) (nI (s_n σ)) 1 y) (nI (s_n σ)) 2 z) (nI (s_n σ)) 3 z) (nI (s_n σ)) 4 5) (nI (s_n σ)) 5 2) (nI (s_n σ)) 6 2)) := hD
  refine lv_aload_n hx hb dX2_addBeing_79 rfl (lv_at hl 2 rfl) ?_
  refine lv_iload hx hb dX2_addBeing_80 (lv_at hl 0 rfl) ?_
  refine lv_bipush (v := 7) hx hb dX2_addBeing_82 (by decide) ?_
  refine lv_iconst (v := 3) hx hb dX2_addBeing_84 (by decide) ?_
  have hFc := va_free (wc := sW cI a (putTraitF (putTraitF (putTraitF (putTraitF (putTraitF (putTraitF (putTraitF (w_n σ (s_n σ + 1)) (nI (s_n σ)) 0 x) (nI (s_n σ)) 1 y) (nI (s_n σ)) 2 z) (nI (s_n σ)) 3 z) (nI (s_n σ)) 4 5) (nI (s_n σ)) 5 2) (nI (s_n σ)) 6 2)) hD hS hA [0, 1, 2, 3, 4, 5] rfl
  refine va_callv (va_runV (As := [.int (nI (s_n σ)), .int 7, .int 3]) (rest := []) ⟨hx, hb, hml, hown, hts⟩ (c_X2_putTrait l D cI _ a (putTraitF (putTraitF (putTraitF (putTraitF (putTraitF (putTraitF (putTraitF (w_n σ (s_n σ + 1)) (nI (s_n σ)) 0 x) (nI (s_n σ)) 1 y) (nI (s_n σ)) 2 z) (nI (s_n σ)) 3 z) (nI (s_n σ)) 4 5) (nI (s_n σ)) 5 2) (nI (s_n σ)) 6 2) (nI (s_n σ)) 7 3) (cwV 3 hts gX2_addBeing_X2_putTrait rfl rfl rfl (by decide +kernel) ⟨Nat.le_of_ble_eq_true rfl, Nat.le_of_ble_eq_true rfl⟩) ⟨preM_blind, va_recv hK hP (ci := 2) (q0 := 0) rfl rfl, preM_of hP hK hE hD [.ref (a 0), .int (nI (s_n σ)), .int 7, .int 3]⟩ rfl rfl hl.1 rfl (lv_room (Nat.le_of_ble_eq_true rfl)) dX2_addBeing_85 ⟨Nat.zero_le _, Nat.zero_le _⟩) hS (fun q _ h => hFc q h) hFc (fun u t9 H1 locs ht hvm hw hB hz1 hk1 hS => ?_)
  obtain ⟨hP1, hK1, hD1⟩ := hB
  rw [ht] at hP1
  subst hw
  obtain ⟨hP, hD⟩ := va_join (wr := []) (w1 := sW cI a (putTraitF (putTraitF (putTraitF (putTraitF (putTraitF (putTraitF (putTraitF (putTraitF (w_n σ (s_n σ + 1)) (nI (s_n σ)) 0 x) (nI (s_n σ)) 1 y) (nI (s_n σ)) 2 z) (nI (s_n σ)) 3 z) (nI (s_n σ)) 4 5) (nI (s_n σ)) 5 2) (nI (s_n σ)) 6 2) (nI (s_n σ)) 7 3)) hP hD [0, 1, 2, 3, 4, 5] [] rfl rfl (by decide) (by decide) hk1 hFc hP1 hD1
  generalize H1 = H at hP hS ⊢
  have hP : va_P D vwCl (sW cI a (putTraitF (putTraitF (putTraitF (putTraitF (putTraitF (putTraitF (putTraitF (putTraitF (w_n σ (s_n σ + 1)) (nI (s_n σ)) 0 x) (nI (s_n σ)) 1 y) (nI (s_n σ)) 2 z) (nI (s_n σ)) 3 z) (nI (s_n σ)) 4 5) (nI (s_n σ)) 5 2) (nI (s_n σ)) 6 2) (nI (s_n σ)) 7 3)) H := hP
  have hD : va_D A (sW cI a (putTraitF (putTraitF (putTraitF (putTraitF (putTraitF (putTraitF (putTraitF (putTraitF (w_n σ (s_n σ + 1)) (nI (s_n σ)) 0 x) (nI (s_n σ)) 1 y) (nI (s_n σ)) 2 z) (nI (s_n σ)) 3 z) (nI (s_n σ)) 4 5) (nI (s_n σ)) 5 2) (nI (s_n σ)) 6 2) (nI (s_n σ)) 7 3)) := hD
  refine lv_aload_n hx hb dX2_addBeing_88 rfl (lv_at hl 2 rfl) ?_
  refine lv_iload hx hb dX2_addBeing_89 (lv_at hl 0 rfl) ?_
  refine lv_bipush (v := 8) hx hb dX2_addBeing_91 (by decide) ?_
  refine lv_iload hx hb dX2_addBeing_93 (lv_at hl 1 rfl) ?_
  refine lv_iconst (v := (-1)) hx hb dX2_addBeing_95 (by decide) ?_
  have L111 : ∀ (tm : Int32) (hsp : tm = newT σ (newF0 (w_n σ (s_n σ + 1)) (nI (s_n σ)) x y z)) (H : Heap) (locs : List Loc) (ls : Array Slot), lv_has ls 7 [(5, .int (nI (s_n σ))), (4, .int (turnF σ)), (0, .ref (a 0)), (1, .int x), (2, .int y), (3, .int z)] → va_P D vwCl (sW cI a (putTraitF (putTraitF (putTraitF (putTraitF (putTraitF (putTraitF (putTraitF (putTraitF (w_n σ (s_n σ + 1)) (nI (s_n σ)) 0 x) (nI (s_n σ)) 1 y) (nI (s_n σ)) 2 z) (nI (s_n σ)) 3 z) (nI (s_n σ)) 4 5) (nI (s_n σ)) 5 2) (nI (s_n σ)) 6 2) (nI (s_n σ)) 7 3)) H → va_D A (sW cI a (putTraitF (putTraitF (putTraitF (putTraitF (putTraitF (putTraitF (putTraitF (putTraitF (w_n σ (s_n σ + 1)) (nI (s_n σ)) 0 x) (nI (s_n σ)) 1 y) (nI (s_n σ)) 2 z) (nI (s_n σ)) 3 z) (nI (s_n σ)) 4 5) (nI (s_n σ)) 5 2) (nI (s_n σ)) 6 2) (nI (s_n σ)) 7 3)) → va_S A s.heap H locs → W p l e ({ frames := 4, cells := 0, slots := 0, locals := 94 } : Room) s m ([.ref (a 0), .int x, .int y, .int z] : List Value).toArray below meth c H locs 0 0 (MQ below (va_Qi (fun (r : Int32) (u : SS) => r = newNo σ x y z ∧ u = addF σ x y z) (fun (u : SS) => posM D cI A (sW cI a u)) A) ([.ref (a 0), .int x, .int y, .int z] : List Value).toArray s 0 0 A) (F0 m 111 ls [.int tm, .int 8, .int (nI (s_n σ)), .ref (a 0)]) := by
    intro tm hsp H locs ls hl hP hD hS
    have hFc := va_free (wc := sW cI a (putTraitF (putTraitF (putTraitF (putTraitF (putTraitF (putTraitF (putTraitF (putTraitF (w_n σ (s_n σ + 1)) (nI (s_n σ)) 0 x) (nI (s_n σ)) 1 y) (nI (s_n σ)) 2 z) (nI (s_n σ)) 3 z) (nI (s_n σ)) 4 5) (nI (s_n σ)) 5 2) (nI (s_n σ)) 6 2) (nI (s_n σ)) 7 3)) hD hS hA [0, 1, 2, 3, 4, 5] rfl
    refine va_callv (va_runV (As := [.int (nI (s_n σ)), .int 8, .int tm]) (rest := []) ⟨hx, hb, hml, hown, hts⟩ (c_X2_putTrait l D cI _ a (putTraitF (putTraitF (putTraitF (putTraitF (putTraitF (putTraitF (putTraitF (putTraitF (w_n σ (s_n σ + 1)) (nI (s_n σ)) 0 x) (nI (s_n σ)) 1 y) (nI (s_n σ)) 2 z) (nI (s_n σ)) 3 z) (nI (s_n σ)) 4 5) (nI (s_n σ)) 5 2) (nI (s_n σ)) 6 2) (nI (s_n σ)) 7 3) (nI (s_n σ)) 8 tm) (cwV 3 hts gX2_addBeing_X2_putTrait rfl rfl rfl (by decide +kernel) ⟨Nat.le_of_ble_eq_true rfl, Nat.le_of_ble_eq_true rfl⟩) ⟨preM_blind, va_recv hK hP (ci := 2) (q0 := 0) rfl rfl, preM_of hP hK hE hD [.ref (a 0), .int (nI (s_n σ)), .int 8, .int tm]⟩ rfl rfl hl.1 rfl (lv_room (Nat.le_of_ble_eq_true rfl)) dX2_addBeing_111 ⟨Nat.zero_le _, Nat.zero_le _⟩) hS (fun q _ h => hFc q h) hFc (fun u t9 H1 locs ht hvm hw hB hz1 hk1 hS => ?_)
    obtain ⟨hP1, hK1, hD1⟩ := hB
    rw [ht] at hP1
    subst hw
    obtain ⟨hP, hD⟩ := va_join (wr := []) (w1 := sW cI a (putTraitF (putTraitF (putTraitF (putTraitF (putTraitF (putTraitF (putTraitF (putTraitF (putTraitF (w_n σ (s_n σ + 1)) (nI (s_n σ)) 0 x) (nI (s_n σ)) 1 y) (nI (s_n σ)) 2 z) (nI (s_n σ)) 3 z) (nI (s_n σ)) 4 5) (nI (s_n σ)) 5 2) (nI (s_n σ)) 6 2) (nI (s_n σ)) 7 3) (nI (s_n σ)) 8 tm)) hP hD [0, 1, 2, 3, 4, 5] [] rfl rfl (by decide) (by decide) hk1 hFc hP1 hD1
    generalize H1 = H at hP hS ⊢
    have hP : va_P D vwCl (sW cI a (putTraitF (putTraitF (putTraitF (putTraitF (putTraitF (putTraitF (putTraitF (putTraitF (putTraitF (w_n σ (s_n σ + 1)) (nI (s_n σ)) 0 x) (nI (s_n σ)) 1 y) (nI (s_n σ)) 2 z) (nI (s_n σ)) 3 z) (nI (s_n σ)) 4 5) (nI (s_n σ)) 5 2) (nI (s_n σ)) 6 2) (nI (s_n σ)) 7 3) (nI (s_n σ)) 8 tm)) H := hP
    have hD : va_D A (sW cI a (putTraitF (putTraitF (putTraitF (putTraitF (putTraitF (putTraitF (putTraitF (putTraitF (putTraitF (w_n σ (s_n σ + 1)) (nI (s_n σ)) 0 x) (nI (s_n σ)) 1 y) (nI (s_n σ)) 2 z) (nI (s_n σ)) 3 z) (nI (s_n σ)) 4 5) (nI (s_n σ)) 5 2) (nI (s_n σ)) 6 2) (nI (s_n σ)) 7 3) (nI (s_n σ)) 8 tm)) := hD
    refine lv_iconst (v := 0) hx hb dX2_addBeing_114 (by decide) ?_
    refine lv_istore (lv' := [(6, .int 0), (5, .int (nI (s_n σ))), (4, .int (turnF σ)), (0, .ref (a 0)), (1, .int x), (2, .int y), (3, .int z)]) hx hb dX2_addBeing_115 hl (by decide) rfl (fun ls hl => ?_)
    have L117 : ∀ (n k : Nat) (τ : SS) (hk : k + n = 5) (hsp1 : addF σ x y z = lookF (noEff (nI (s_n σ)) n k τ) (nI (s_n σ))) (H : Heap) (locs : List Loc) (ls : Array Slot), lv_has ls 7 [(6, .int (nI k)), (5, .int (nI (s_n σ))), (4, .int (turnF σ)), (0, .ref (a 0)), (1, .int x), (2, .int y), (3, .int z)] → va_P D vwCl (sW cI a τ) H → va_D A (sW cI a τ) → va_S A s.heap H locs → W p l e ({ frames := 4, cells := 0, slots := 0, locals := 94 } : Room) s m ([.ref (a 0), .int x, .int y, .int z] : List Value).toArray below meth c H locs 0 0 (MQ below (va_Qi (fun (r : Int32) (u : SS) => r = newNo σ x y z ∧ u = addF σ x y z) (fun (u : SS) => posM D cI A (sW cI a u)) A) ([.ref (a 0), .int x, .int y, .int z] : List Value).toArray s 0 0 A) (F0 m 117 ls []) := by
      intro n
      induction n with
      | zero =>
        intro k τ hk hsp1 H locs ls hl hP hD hS
        refine lv_iload hx hb dX2_addBeing_117 (lv_at hl 0 rfl) ?_
        refine lv_iconst (v := 5) hx hb dX2_addBeing_119 (by decide) ?_
        refine lv_icmp_ge (tgt := 139) hx hb dX2_addBeing_120 (by decide) (fun c_120 => ?_) (fun c_120 => absurd (nI_le (a := 5) (by omega) (by omega)) c_120)
        refine lv_aload_n hx hb dX2_addBeing_139 rfl (lv_at hl 3 rfl) ?_
        refine lv_iload hx hb dX2_addBeing_140 (lv_at hl 1 rfl) ?_
        have hFc := va_free (wc := sW cI a τ) hD hS hA [0, 1, 2, 3, 4, 5] rfl
        refine va_callv (va_runV (As := [.int (nI (s_n σ))]) (rest := []) ⟨hx, hb, hml, hown, hts⟩ (c_X2_look l D cI _ a τ (nI (s_n σ))) (cwV 1 hts gX2_addBeing_X2_look rfl rfl rfl (by decide +kernel) ⟨Nat.le_of_ble_eq_true rfl, Nat.le_of_ble_eq_true rfl⟩) ⟨preM_blind, va_recv hK hP (ci := 2) (q0 := 0) rfl rfl, preM_of hP hK hE hD [.ref (a 0), .int (nI (s_n σ))]⟩ rfl rfl hl.1 rfl (lv_room (Nat.le_of_ble_eq_true rfl)) dX2_addBeing_142 ⟨Nat.zero_le _, Nat.zero_le _⟩) hS (fun q _ h => hFc q h) hFc (fun u t9 H1 locs ht hvm hw hB hz1 hk1 hS => ?_)
        obtain ⟨hP1, hK1, hD1⟩ := hB
        rw [ht] at hP1
        subst hw
        obtain ⟨hP, hD⟩ := va_join (wr := []) (w1 := sW cI a (lookF τ (nI (s_n σ)))) hP hD [0, 1, 2, 3, 4, 5] [] rfl rfl (by decide) (by decide) hk1 hFc hP1 hD1
        generalize H1 = H at hP hS ⊢
        have hP : va_P D vwCl (sW cI a (lookF τ (nI (s_n σ)))) H := hP
        have hD : va_D A (sW cI a (lookF τ (nI (s_n σ)))) := hD
        refine lv_iload hx hb dX2_addBeing_145 (lv_at hl 1 rfl) ?_
        have hP9 := hP
        have hD9 := hD
        exact W.iret (v := (nI (s_n σ))) hx hb hr (fun T9 ht hW => ⟨⟨(nI (s_n σ)), (lookF τ (nI (s_n σ))), rfl, ⟨rfl, by rw [hsp1]; rfl⟩, by rw [ht]; exact hP9, va_K.moved hW.alike hK, hD9⟩, hS.F ht⟩) hS.2.2 dX2_addBeing_147
      | succ n ih117 =>
        intro k τ hk hsp1 H locs ls hl hP hD hS
        refine lv_iload hx hb dX2_addBeing_117 (lv_at hl 0 rfl) ?_
        refine lv_iconst (v := 5) hx hb dX2_addBeing_119 (by decide) ?_
        refine lv_icmp_ge (tgt := 139) hx hb dX2_addBeing_120 (by decide) (fun c_120 => absurd c_120 (nI_ge (b := 5) (by omega) (by omega))) (fun c_120 => ?_)
        refine lv_aload_n hx hb dX2_addBeing_123 rfl (lv_at hl 3 rfl) ?_
        refine lv_iload hx hb dX2_addBeing_124 (lv_at hl 1 rfl) ?_
        refine lv_iload hx hb dX2_addBeing_126 (lv_at hl 0 rfl) ?_
        refine lv_iconst (v := 0) hx hb dX2_addBeing_128 (by decide) ?_
        refine lv_iconst (v := 0) hx hb dX2_addBeing_129 (by decide) ?_
        have hFc := va_free (wc := sW cI a τ) hD hS hA [0, 1, 2, 3, 4, 5] rfl
        refine va_callv (va_runV (As := [.int (nI (s_n σ)), .int (nI k), .int 0, .int 0]) (rest := []) ⟨hx, hb, hml, hown, hts⟩ (c_X2_putEffect l D cI _ a τ (nI (s_n σ)) (nI k) 0 0) (cwV 4 hts gX2_addBeing_X2_putEffect rfl rfl rfl (by decide +kernel) ⟨Nat.le_of_ble_eq_true rfl, Nat.le_of_ble_eq_true rfl⟩) ⟨preM_blind, va_recv hK hP (ci := 2) (q0 := 0) rfl rfl, preM_of hP hK hE hD [.ref (a 0), .int (nI (s_n σ)), .int (nI k), .int 0, .int 0]⟩ rfl rfl hl.1 rfl (lv_room (Nat.le_of_ble_eq_true rfl)) dX2_addBeing_130 ⟨Nat.zero_le _, Nat.zero_le _⟩) hS (fun q _ h => hFc q h) hFc (fun u t9 H1 locs ht hvm hw hB hz1 hk1 hS => ?_)
        obtain ⟨hP1, hK1, hD1⟩ := hB
        rw [ht] at hP1
        subst hw
        obtain ⟨hP, hD⟩ := va_join (wr := []) (w1 := sW cI a (putEffectF τ (nI (s_n σ)) (nI k) 0 0)) hP hD [0, 1, 2, 3, 4, 5] [] rfl rfl (by decide) (by decide) hk1 hFc hP1 hD1
        generalize H1 = H at hP hS ⊢
        have hP : va_P D vwCl (sW cI a (putEffectF τ (nI (s_n σ)) (nI k) 0 0)) H := hP
        have hD : va_D A (sW cI a (putEffectF τ (nI (s_n σ)) (nI k) 0 0)) := hD
        refine lv_iinc (v := (nI (k + 1))) (lv' := [(6, .int (nI (k + 1))), (5, .int (nI (s_n σ))), (4, .int (turnF σ)), (0, .ref (a 0)), (1, .int x), (2, .int y), (3, .int z)]) hx hb dX2_addBeing_133 hl (k := 0) rfl (nI_1 k) (by decide) rfl (fun ls hl => ?_)
        refine lv_goto (tgt := 117) hx hb dX2_addBeing_136 (by decide) ?_
        exact ih117 (k + 1) (putEffectF τ (nI (s_n σ)) (nI k) 0 0) (by omega) (by rw [hsp1]; rfl) _ _ ls (lv_sub hl [0, 1, 2, 3, 4, 5, 6] rfl) hP hD hS
    exact L117 5 0 (putTraitF (putTraitF (putTraitF (putTraitF (putTraitF (putTraitF (putTraitF (putTraitF (putTraitF (w_n σ (s_n σ + 1)) (nI (s_n σ)) 0 x) (nI (s_n σ)) 1 y) (nI (s_n σ)) 2 z) (nI (s_n σ)) 3 z) (nI (s_n σ)) 4 5) (nI (s_n σ)) 5 2) (nI (s_n σ)) 6 2) (nI (s_n σ)) 7 3) (nI (s_n σ)) 8 tm) (by omega) (by rw [hsp]; rfl) _ _ ls (lv_sub hl [0, 1, 2, 3, 4, 5, 6] rfl) hP hD hS
  refine lv_icmp_ne (tgt := 103) hx hb dX2_addBeing_96 (by decide) (fun c_96 => ?_) (fun c_96 => ?_)
  · refine lv_aload_n hx hb dX2_addBeing_103 rfl (lv_at hl 2 rfl) ?_
    refine lv_iload hx hb dX2_addBeing_104 (lv_at hl 1 rfl) ?_
    refine lv_bipush (v := 8) hx hb dX2_addBeing_106 (by decide) ?_
    refine vp_callSi (va_Run.run (va_runV (As := [.int (turnF σ), .int 8]) (rest := [.int 8, .int (nI (s_n σ)), .ref (a 0)]) ⟨hx, hb, hml, hown, hts⟩ (c_X2_trait l D cI a (putTraitF (putTraitF (putTraitF (putTraitF (putTraitF (putTraitF (putTraitF (putTraitF (w_n σ (s_n σ + 1)) (nI (s_n σ)) 0 x) (nI (s_n σ)) 1 y) (nI (s_n σ)) 2 z) (nI (s_n σ)) 3 z) (nI (s_n σ)) 4 5) (nI (s_n σ)) 5 2) (nI (s_n σ)) 6 2) (nI (s_n σ)) 7 3) (turnF σ) 8) (cwV 2 hts gX2_addBeing_X2_trait rfl rfl rfl (by decide +kernel) ⟨Nat.le_of_ble_eq_true rfl, Nat.le_of_ble_eq_true rfl⟩) ⟨preR_blind, va_recv hK hP (ci := 2) (q0 := 0) rfl rfl, preR_of hP hK hE [.ref (a 0), .int (turnF σ), .int 8]⟩ rfl rfl hl.1 rfl (lv_room (Nat.le_of_ble_eq_true rfl)) dX2_addBeing_108 ⟨Nat.zero_le _, Nat.zero_le _⟩)) (fun r hr9 => ?_)
    subst hr9
    exact L111 (traitF (putTraitF (putTraitF (putTraitF (putTraitF (putTraitF (putTraitF (putTraitF (putTraitF (w_n σ (s_n σ + 1)) (nI (s_n σ)) 0 x) (nI (s_n σ)) 1 y) (nI (s_n σ)) 2 z) (nI (s_n σ)) 3 z) (nI (s_n σ)) 4 5) (nI (s_n σ)) 5 2) (nI (s_n σ)) 6 2) (nI (s_n σ)) 7 3) (turnF σ) 8) (by simp [newT, c_96]; try rfl) _ _ ls (lv_sub hl [0, 1, 2, 3, 4, 5] rfl) hP hD hS
  · refine lv_iconst (v := 0) hx hb dX2_addBeing_99 (by decide) ?_
    refine lv_goto (tgt := 111) hx hb dX2_addBeing_100 (by decide) ?_
    exact L111 0 (by simp [newT, c_96]; try rfl) _ _ ls (lv_sub hl [0, 1, 2, 3, 4, 5] rfl) hP hD hS
end
section
set_option maxRecDepth 20000 in
theorem ggX4_init_X2_init : GoodIn wsX4_init wsX2_init := goodIn_r _ [19, 20, 2, 3, 21, 22, 23, 24, 25, 26, 27, 28, 29, 30, 59, 60, 61, 62, 63, 64, 65, 66] (by decide +kernel) (by decide +kernel)
set_option maxRecDepth 20000 in
theorem gX4_init_X2_init : GoodIn wsX4_init (wsX2_init) := ggX4_init_X2_init
set_option maxRecDepth 20000 in
theorem ggX4_init_Jx4a65c_init_da8c8 : GoodIn wsX4_init wsJx4a65c_init_da8c8 := goodIn_r _ [33, 34, 35, 36, 37, 38, 39, 40, 41, 42, 43, 44, 45, 2, 3, 71, 72, 73] (by decide +kernel) (by decide +kernel)
set_option maxRecDepth 20000 in
theorem gX4_init_Jx4a65c_init_da8c8 : GoodIn wsX4_init (wsJx4a65c_init_da8c8) := ggX4_init_Jx4a65c_init_da8c8
set_option maxRecDepth 20000 in
theorem ggX4_init_X0_init : GoodIn wsX4_init wsX0_init := goodIn_r _ [47, 48, 2, 3, 49, 50, 51, 52, 21, 53, 54, 55, 56, 57, 58, 76, 77, 78, 74, 75] (by decide +kernel) (by decide +kernel)
set_option maxRecDepth 20000 in
theorem gX4_init_X0_init_n28 : GoodIn wsX4_init (wsX0_init) := ggX4_init_X0_init
theorem dX4_init_0 : decode cX4_init 0 = .ok (.aload_n 0, 1) := by decide +kernel
theorem dX4_init_1 : decode cX4_init 1 = .ok (.invokespecial 3, 3) := by decide +kernel
theorem dX4_init_4 : decode cX4_init 4 = .ok (.aload_n 0, 1) := by decide +kernel
theorem dX4_init_5 : decode cX4_init 5 = .ok (.new 9, 3) := by decide +kernel
theorem dX4_init_8 : decode cX4_init 8 = .ok (.dup, 1) := by decide +kernel
theorem dX4_init_9 : decode cX4_init 9 = .ok (.invokespecial 11, 3) := by decide +kernel
theorem dX4_init_12 : decode cX4_init 12 = .ok (.putfield 12, 3) := by decide +kernel
theorem dX4_init_15 : decode cX4_init 15 = .ok (.aload_n 0, 1) := by decide +kernel
theorem dX4_init_16 : decode cX4_init 16 = .ok (.new 9, 3) := by decide +kernel
theorem dX4_init_19 : decode cX4_init 19 = .ok (.dup, 1) := by decide +kernel
theorem dX4_init_20 : decode cX4_init 20 = .ok (.invokespecial 11, 3) := by decide +kernel
theorem dX4_init_23 : decode cX4_init 23 = .ok (.putfield 16, 3) := by decide +kernel
theorem dX4_init_26 : decode cX4_init 26 = .ok (.aload_n 0, 1) := by decide +kernel
theorem dX4_init_27 : decode cX4_init 27 = .ok (.new 19, 3) := by decide +kernel
theorem dX4_init_30 : decode cX4_init 30 = .ok (.dup, 1) := by decide +kernel
theorem dX4_init_31 : decode cX4_init 31 = .ok (.invokespecial 21, 3) := by decide +kernel
theorem dX4_init_34 : decode cX4_init 34 = .ok (.putfield 22, 3) := by decide +kernel
theorem dX4_init_37 : decode cX4_init 37 = .ok (.aload_n 0, 1) := by decide +kernel
theorem dX4_init_38 : decode cX4_init 38 = .ok (.new 26, 3) := by decide +kernel
theorem dX4_init_41 : decode cX4_init 41 = .ok (.dup, 1) := by decide +kernel
theorem dX4_init_42 : decode cX4_init 42 = .ok (.invokespecial 28, 3) := by decide +kernel
theorem dX4_init_45 : decode cX4_init 45 = .ok (.putfield 29, 3) := by decide +kernel
theorem dX4_init_48 : decode cX4_init 48 = .ok (.return_, 1) := by decide +kernel
set_option maxRecDepth 20000 in
theorem ggX4_dig_X4_isWithin : GoodIn wsX4_dig wsX4_isWithin := goodIn_r _ [7] (by decide +kernel) (by decide +kernel)
set_option maxRecDepth 20000 in
theorem gX4_dig_X4_isWithin : GoodIn wsX4_dig (va_wsS RX4 33 yX4_isWithin wsX4_isWithin) := goodIn_app (goodIn_of _ (by decide +kernel)) ggX4_dig_X4_isWithin
set_option maxRecDepth 20000 in
theorem ggX4_dig_X2_digRoom : GoodIn wsX4_dig wsX2_digRoom := goodIn_r _ [12, 13, 6, 14, 15, 16, 17, 11, 18, 19, 20, 21, 22, 23, 28, 29, 30, 31, 32, 33, 34, 35] (by decide +kernel) (by decide +kernel)
set_option maxRecDepth 20000 in
theorem gX4_dig_X2_digRoom : GoodIn wsX4_dig (wsV RX4 44 RX2 yX2_digRoom wsX2_digRoom) := goodIn_app (goodIn_of _ (by decide +kernel)) ggX4_dig_X2_digRoom
theorem dX4_dig_0 : decode cX4_dig 0 = .ok (.iload_n 1, 1) := by decide +kernel
theorem dX4_dig_1 : decode cX4_dig 1 = .ok (.iconst 0, 1) := by decide +kernel
theorem dX4_dig_2 : decode cX4_dig 2 = .ok (.bipush 15, 2) := by decide +kernel
theorem dX4_dig_4 : decode cX4_dig 4 = .ok (.invokestatic 33, 3) := by decide +kernel
theorem dX4_dig_7 : decode cX4_dig 7 = .ok (.ifCond .eq 38, 3) := by decide +kernel
theorem dX4_dig_10 : decode cX4_dig 10 = .ok (.iload_n 2, 1) := by decide +kernel
theorem dX4_dig_11 : decode cX4_dig 11 = .ok (.iconst 0, 1) := by decide +kernel
theorem dX4_dig_12 : decode cX4_dig 12 = .ok (.bipush 9, 2) := by decide +kernel
theorem dX4_dig_14 : decode cX4_dig 14 = .ok (.invokestatic 33, 3) := by decide +kernel
theorem dX4_dig_17 : decode cX4_dig 17 = .ok (.ifCond .eq 28, 3) := by decide +kernel
theorem dX4_dig_20 : decode cX4_dig 20 = .ok (.iload_n 3, 1) := by decide +kernel
theorem dX4_dig_21 : decode cX4_dig 21 = .ok (.iconst 1, 1) := by decide +kernel
theorem dX4_dig_22 : decode cX4_dig 22 = .ok (.bipush 16, 2) := by decide +kernel
theorem dX4_dig_24 : decode cX4_dig 24 = .ok (.iload_n 1, 1) := by decide +kernel
theorem dX4_dig_25 : decode cX4_dig 25 = .ok (.isub, 1) := by decide +kernel
theorem dX4_dig_26 : decode cX4_dig 26 = .ok (.invokestatic 33, 3) := by decide +kernel
theorem dX4_dig_29 : decode cX4_dig 29 = .ok (.ifCond .eq 16, 3) := by decide +kernel
theorem dX4_dig_32 : decode cX4_dig 32 = .ok (.iload 4, 2) := by decide +kernel
theorem dX4_dig_34 : decode cX4_dig 34 = .ok (.iconst 1, 1) := by decide +kernel
theorem dX4_dig_35 : decode cX4_dig 35 = .ok (.bipush 10, 2) := by decide +kernel
theorem dX4_dig_37 : decode cX4_dig 37 = .ok (.iload_n 2, 1) := by decide +kernel
theorem dX4_dig_38 : decode cX4_dig 38 = .ok (.isub, 1) := by decide +kernel
theorem dX4_dig_39 : decode cX4_dig 39 = .ok (.invokestatic 33, 3) := by decide +kernel
theorem dX4_dig_42 : decode cX4_dig 42 = .ok (.ifCond .ne 13, 3) := by decide +kernel
theorem dX4_dig_45 : decode cX4_dig 45 = .ok (.new 37, 3) := by decide +kernel
theorem dX4_dig_48 : decode cX4_dig 48 = .ok (.dup, 1) := by decide +kernel
theorem dX4_dig_49 : decode cX4_dig 49 = .ok (.ldc 39, 2) := by decide +kernel
theorem dX4_dig_51 : decode cX4_dig 51 = .ok (.invokespecial 41, 3) := by decide +kernel
theorem dX4_dig_54 : decode cX4_dig 54 = .ok (.athrow, 1) := by decide +kernel
theorem dX4_dig_55 : decode cX4_dig 55 = .ok (.aload_n 0, 1) := by decide +kernel
theorem dX4_dig_56 : decode cX4_dig 56 = .ok (.getfield 12, 3) := by decide +kernel
theorem dX4_dig_59 : decode cX4_dig 59 = .ok (.iload_n 1, 1) := by decide +kernel
theorem dX4_dig_60 : decode cX4_dig 60 = .ok (.iload_n 2, 1) := by decide +kernel
theorem dX4_dig_61 : decode cX4_dig 61 = .ok (.iload_n 3, 1) := by decide +kernel
theorem dX4_dig_62 : decode cX4_dig 62 = .ok (.iload 4, 2) := by decide +kernel
theorem dX4_dig_64 : decode cX4_dig 64 = .ok (.invokevirtual 44, 3) := by decide +kernel
theorem dX4_dig_67 : decode cX4_dig 67 = .ok (.ireturn, 1) := by decide +kernel
set_option maxRecDepth 20000 in
theorem ggX4_set_X4_isCell : GoodIn wsX4_set wsX4_isCell := goodIn_r _ [11] (by decide +kernel) (by decide +kernel)
set_option maxRecDepth 20000 in
theorem gX4_set_X4_isCell : GoodIn wsX4_set (va_wsS RX4 48 yX4_isCell wsX4_isCell) := goodIn_app (goodIn_of _ (by decide +kernel)) ggX4_set_X4_isCell
set_option maxRecDepth 20000 in
theorem ggX4_set_X4_isWithin : GoodIn wsX4_set wsX4_isWithin := goodIn_r _ [14] (by decide +kernel) (by decide +kernel)
set_option maxRecDepth 20000 in
theorem gX4_set_X4_isWithin : GoodIn wsX4_set (va_wsS RX4 33 yX4_isWithin wsX4_isWithin) := goodIn_app (goodIn_of _ (by decide +kernel)) ggX4_set_X4_isWithin
set_option maxRecDepth 20000 in
theorem ggX4_set_X4_isEdge : GoodIn wsX4_set wsX4_isEdge := goodIn_r _ [17] (by decide +kernel) (by decide +kernel)
set_option maxRecDepth 20000 in
theorem gX4_set_X4_isEdge : GoodIn wsX4_set (va_wsS RX4 57 yX4_isEdge wsX4_isEdge) := goodIn_app (goodIn_of _ (by decide +kernel)) ggX4_set_X4_isEdge
set_option maxRecDepth 20000 in
theorem ggX4_set_X4_stopsSight : GoodIn wsX4_set wsX4_stopsSight := goodIn_r _ [20] (by decide +kernel) (by decide +kernel)
set_option maxRecDepth 20000 in
theorem gX4_set_X4_stopsSight : GoodIn wsX4_set (va_wsS RX4 62 yX4_stopsSight wsX4_stopsSight) := goodIn_app (goodIn_of _ (by decide +kernel)) ggX4_set_X4_stopsSight
set_option maxRecDepth 20000 in
theorem ggX4_set_X2_whoIsOn : GoodIn wsX4_set wsX2_whoIsOn := goodIn_r _ [25, 26, 27, 28, 29, 24, 30, 31, 45, 46, 47, 48, 49, 50, 51, 52] (by decide +kernel) (by decide +kernel)
set_option maxRecDepth 20000 in
theorem gX4_set_X2_whoIsOn : GoodIn wsX4_set (wsV RX4 65 RX2 yX2_whoIsOn wsX2_whoIsOn) := goodIn_app (goodIn_of _ (by decide +kernel)) ggX4_set_X2_whoIsOn
set_option maxRecDepth 20000 in
theorem ggX4_set_X2_kindAt : GoodIn wsX4_set wsX2_kindAt := goodIn_r _ [35, 36, 45, 46, 47, 48, 49, 50, 51, 52] (by decide +kernel) (by decide +kernel)
set_option maxRecDepth 20000 in
theorem gX4_set_X2_kindAt : GoodIn wsX4_set (wsV RX4 74 RX2 yX2_kindAt wsX2_kindAt) := goodIn_app (goodIn_of _ (by decide +kernel)) ggX4_set_X2_kindAt
set_option maxRecDepth 20000 in
theorem ggX4_set_X2_putKind : GoodIn wsX4_set wsX2_putKind := goodIn_r _ [40, 36, 45, 46, 47, 48, 49, 50, 51, 52] (by decide +kernel) (by decide +kernel)
set_option maxRecDepth 20000 in
theorem gX4_set_X2_putKind : GoodIn wsX4_set (wsV RX4 77 RX2 yX2_putKind wsX2_putKind) := goodIn_app (goodIn_of _ (by decide +kernel)) ggX4_set_X2_putKind
theorem dX4_set_0 : decode cX4_set 0 = .ok (.iload_n 1, 1) := by decide +kernel
theorem dX4_set_1 : decode cX4_set 1 = .ok (.invokestatic 48, 3) := by decide +kernel
theorem dX4_set_4 : decode cX4_set 4 = .ok (.ifCond .ne 13, 3) := by decide +kernel
theorem dX4_set_7 : decode cX4_set 7 = .ok (.new 52, 3) := by decide +kernel
theorem dX4_set_10 : decode cX4_set 10 = .ok (.dup, 1) := by decide +kernel
theorem dX4_set_11 : decode cX4_set 11 = .ok (.ldc 54, 2) := by decide +kernel
theorem dX4_set_13 : decode cX4_set 13 = .ok (.invokespecial 56, 3) := by decide +kernel
theorem dX4_set_16 : decode cX4_set 16 = .ok (.athrow, 1) := by decide +kernel
theorem dX4_set_17 : decode cX4_set 17 = .ok (.iload_n 2, 1) := by decide +kernel
theorem dX4_set_18 : decode cX4_set 18 = .ok (.iconst 0, 1) := by decide +kernel
theorem dX4_set_19 : decode cX4_set 19 = .ok (.iconst 3, 1) := by decide +kernel
theorem dX4_set_20 : decode cX4_set 20 = .ok (.invokestatic 33, 3) := by decide +kernel
theorem dX4_set_23 : decode cX4_set 23 = .ok (.ifCond .eq 15, 3) := by decide +kernel
theorem dX4_set_26 : decode cX4_set 26 = .ok (.iload_n 1, 1) := by decide +kernel
theorem dX4_set_27 : decode cX4_set 27 = .ok (.invokestatic 57, 3) := by decide +kernel
theorem dX4_set_30 : decode cX4_set 30 = .ok (.ifCond .eq 18, 3) := by decide +kernel
theorem dX4_set_33 : decode cX4_set 33 = .ok (.iload_n 2, 1) := by decide +kernel
theorem dX4_set_34 : decode cX4_set 34 = .ok (.iconst 1, 1) := by decide +kernel
theorem dX4_set_35 : decode cX4_set 35 = .ok (.if_icmp .eq 13, 3) := by decide +kernel
theorem dX4_set_38 : decode cX4_set 38 = .ok (.new 37, 3) := by decide +kernel
theorem dX4_set_41 : decode cX4_set 41 = .ok (.dup, 1) := by decide +kernel
theorem dX4_set_42 : decode cX4_set 42 = .ok (.ldc 60, 2) := by decide +kernel
theorem dX4_set_44 : decode cX4_set 44 = .ok (.invokespecial 41, 3) := by decide +kernel
theorem dX4_set_47 : decode cX4_set 47 = .ok (.athrow, 1) := by decide +kernel
theorem dX4_set_48 : decode cX4_set 48 = .ok (.iload_n 2, 1) := by decide +kernel
theorem dX4_set_49 : decode cX4_set 49 = .ok (.invokestatic 62, 3) := by decide +kernel
theorem dX4_set_52 : decode cX4_set 52 = .ok (.ifCond .eq 25, 3) := by decide +kernel
theorem dX4_set_55 : decode cX4_set 55 = .ok (.aload_n 0, 1) := by decide +kernel
theorem dX4_set_56 : decode cX4_set 56 = .ok (.getfield 12, 3) := by decide +kernel
theorem dX4_set_59 : decode cX4_set 59 = .ok (.iload_n 1, 1) := by decide +kernel
theorem dX4_set_60 : decode cX4_set 60 = .ok (.invokevirtual 65, 3) := by decide +kernel
theorem dX4_set_63 : decode cX4_set 63 = .ok (.iconst (-1), 1) := by decide +kernel
theorem dX4_set_64 : decode cX4_set 64 = .ok (.if_icmp .eq 13, 3) := by decide +kernel
theorem dX4_set_67 : decode cX4_set 67 = .ok (.new 69, 3) := by decide +kernel
theorem dX4_set_70 : decode cX4_set 70 = .ok (.dup, 1) := by decide +kernel
theorem dX4_set_71 : decode cX4_set 71 = .ok (.ldc 71, 2) := by decide +kernel
theorem dX4_set_73 : decode cX4_set 73 = .ok (.invokespecial 73, 3) := by decide +kernel
theorem dX4_set_76 : decode cX4_set 76 = .ok (.athrow, 1) := by decide +kernel
theorem dX4_set_77 : decode cX4_set 77 = .ok (.aload_n 0, 1) := by decide +kernel
theorem dX4_set_78 : decode cX4_set 78 = .ok (.getfield 12, 3) := by decide +kernel
theorem dX4_set_81 : decode cX4_set 81 = .ok (.iload_n 1, 1) := by decide +kernel
theorem dX4_set_82 : decode cX4_set 82 = .ok (.invokevirtual 74, 3) := by decide +kernel
theorem dX4_set_85 : decode cX4_set 85 = .ok (.istore_n 3, 1) := by decide +kernel
theorem dX4_set_86 : decode cX4_set 86 = .ok (.aload_n 0, 1) := by decide +kernel
theorem dX4_set_87 : decode cX4_set 87 = .ok (.getfield 12, 3) := by decide +kernel
theorem dX4_set_90 : decode cX4_set 90 = .ok (.iload_n 1, 1) := by decide +kernel
theorem dX4_set_91 : decode cX4_set 91 = .ok (.iload_n 2, 1) := by decide +kernel
theorem dX4_set_92 : decode cX4_set 92 = .ok (.invokevirtual 77, 3) := by decide +kernel
theorem dX4_set_95 : decode cX4_set 95 = .ok (.iload_n 3, 1) := by decide +kernel
theorem dX4_set_96 : decode cX4_set 96 = .ok (.ireturn, 1) := by decide +kernel
set_option maxRecDepth 20000 in
theorem ggX4_cell_X4_isCell : GoodIn wsX4_cell wsX4_isCell := goodIn_r _ [7] (by decide +kernel) (by decide +kernel)
set_option maxRecDepth 20000 in
theorem gX4_cell_X4_isCell : GoodIn wsX4_cell (va_wsS RX4 48 yX4_isCell wsX4_isCell) := goodIn_app (goodIn_of _ (by decide +kernel)) ggX4_cell_X4_isCell
set_option maxRecDepth 20000 in
theorem ggX4_cell_X2_kindAt : GoodIn wsX4_cell wsX2_kindAt := goodIn_r _ [12, 13, 18, 19, 20, 21, 22, 23, 24, 25] (by decide +kernel) (by decide +kernel)
set_option maxRecDepth 20000 in
theorem gX4_cell_X2_kindAt : GoodIn wsX4_cell (wsV RX4 74 RX2 yX2_kindAt wsX2_kindAt) := goodIn_app (goodIn_of _ (by decide +kernel)) ggX4_cell_X2_kindAt
theorem dX4_cell_0 : decode cX4_cell 0 = .ok (.iload_n 1, 1) := by decide +kernel
theorem dX4_cell_1 : decode cX4_cell 1 = .ok (.invokestatic 48, 3) := by decide +kernel
theorem dX4_cell_4 : decode cX4_cell 4 = .ok (.ifCond .ne 13, 3) := by decide +kernel
theorem dX4_cell_7 : decode cX4_cell 7 = .ok (.new 52, 3) := by decide +kernel
theorem dX4_cell_10 : decode cX4_cell 10 = .ok (.dup, 1) := by decide +kernel
theorem dX4_cell_11 : decode cX4_cell 11 = .ok (.ldc 54, 2) := by decide +kernel
theorem dX4_cell_13 : decode cX4_cell 13 = .ok (.invokespecial 56, 3) := by decide +kernel
theorem dX4_cell_16 : decode cX4_cell 16 = .ok (.athrow, 1) := by decide +kernel
theorem dX4_cell_17 : decode cX4_cell 17 = .ok (.aload_n 0, 1) := by decide +kernel
theorem dX4_cell_18 : decode cX4_cell 18 = .ok (.getfield 12, 3) := by decide +kernel
theorem dX4_cell_21 : decode cX4_cell 21 = .ok (.iload_n 1, 1) := by decide +kernel
theorem dX4_cell_22 : decode cX4_cell 22 = .ok (.invokevirtual 74, 3) := by decide +kernel
theorem dX4_cell_25 : decode cX4_cell 25 = .ok (.ireturn, 1) := by decide +kernel
set_option maxRecDepth 20000 in
theorem ggX4_on_X4_isCell : GoodIn wsX4_on wsX4_isCell := goodIn_r _ [7] (by decide +kernel) (by decide +kernel)
set_option maxRecDepth 20000 in
theorem gX4_on_X4_isCell : GoodIn wsX4_on (va_wsS RX4 48 yX4_isCell wsX4_isCell) := goodIn_app (goodIn_of _ (by decide +kernel)) ggX4_on_X4_isCell
set_option maxRecDepth 20000 in
theorem ggX4_on_X2_whoIsOn : GoodIn wsX4_on wsX2_whoIsOn := goodIn_r _ [12, 13, 14, 15, 16, 11, 17, 18, 23, 24, 25, 26, 27, 28, 29, 30] (by decide +kernel) (by decide +kernel)
set_option maxRecDepth 20000 in
theorem gX4_on_X2_whoIsOn : GoodIn wsX4_on (wsV RX4 65 RX2 yX2_whoIsOn wsX2_whoIsOn) := goodIn_app (goodIn_of _ (by decide +kernel)) ggX4_on_X2_whoIsOn
theorem dX4_on_0 : decode cX4_on 0 = .ok (.iload_n 1, 1) := by decide +kernel
theorem dX4_on_1 : decode cX4_on 1 = .ok (.invokestatic 48, 3) := by decide +kernel
theorem dX4_on_4 : decode cX4_on 4 = .ok (.ifCond .ne 13, 3) := by decide +kernel
theorem dX4_on_7 : decode cX4_on 7 = .ok (.new 52, 3) := by decide +kernel
theorem dX4_on_10 : decode cX4_on 10 = .ok (.dup, 1) := by decide +kernel
theorem dX4_on_11 : decode cX4_on 11 = .ok (.ldc 54, 2) := by decide +kernel
theorem dX4_on_13 : decode cX4_on 13 = .ok (.invokespecial 56, 3) := by decide +kernel
theorem dX4_on_16 : decode cX4_on 16 = .ok (.athrow, 1) := by decide +kernel
theorem dX4_on_17 : decode cX4_on 17 = .ok (.aload_n 0, 1) := by decide +kernel
theorem dX4_on_18 : decode cX4_on 18 = .ok (.getfield 12, 3) := by decide +kernel
theorem dX4_on_21 : decode cX4_on 21 = .ok (.iload_n 1, 1) := by decide +kernel
theorem dX4_on_22 : decode cX4_on 22 = .ok (.invokevirtual 65, 3) := by decide +kernel
theorem dX4_on_25 : decode cX4_on 25 = .ok (.ireturn, 1) := by decide +kernel
set_option maxRecDepth 20000 in
theorem ggX4_sees_X4_isCell : GoodIn wsX4_sees wsX4_isCell := goodIn_r _ [7] (by decide +kernel) (by decide +kernel)
set_option maxRecDepth 20000 in
theorem gX4_sees_X4_isCell : GoodIn wsX4_sees (va_wsS RX4 48 yX4_isCell wsX4_isCell) := goodIn_app (goodIn_of _ (by decide +kernel)) ggX4_sees_X4_isCell
set_option maxRecDepth 20000 in
theorem ggX4_sees_X2_isSeenFrom : GoodIn wsX4_sees wsX2_isSeenFrom := goodIn_r _ [12, 13, 14, 11, 15, 16, 17, 18, 19, 20, 21, 22, 23, 24, 25, 26, 27, 28, 29, 30, 31, 32, 33, 34, 35, 6, 36, 41, 42, 43, 44, 45, 46, 47, 48] (by decide +kernel) (by decide +kernel)
set_option maxRecDepth 20000 in
theorem gX4_sees_X2_isSeenFrom : GoodIn wsX4_sees (wsV RX4 81 RX2 yX2_isSeenFrom wsX2_isSeenFrom) := goodIn_app (goodIn_of _ (by decide +kernel)) ggX4_sees_X2_isSeenFrom
theorem dX4_sees_0 : decode cX4_sees 0 = .ok (.iload_n 1, 1) := by decide +kernel
theorem dX4_sees_1 : decode cX4_sees 1 = .ok (.invokestatic 48, 3) := by decide +kernel
theorem dX4_sees_4 : decode cX4_sees 4 = .ok (.ifCond .eq 10, 3) := by decide +kernel
theorem dX4_sees_7 : decode cX4_sees 7 = .ok (.iload_n 2, 1) := by decide +kernel
theorem dX4_sees_8 : decode cX4_sees 8 = .ok (.invokestatic 48, 3) := by decide +kernel
theorem dX4_sees_11 : decode cX4_sees 11 = .ok (.ifCond .ne 13, 3) := by decide +kernel
theorem dX4_sees_14 : decode cX4_sees 14 = .ok (.new 52, 3) := by decide +kernel
theorem dX4_sees_17 : decode cX4_sees 17 = .ok (.dup, 1) := by decide +kernel
theorem dX4_sees_18 : decode cX4_sees 18 = .ok (.ldc 54, 2) := by decide +kernel
theorem dX4_sees_20 : decode cX4_sees 20 = .ok (.invokespecial 56, 3) := by decide +kernel
theorem dX4_sees_23 : decode cX4_sees 23 = .ok (.athrow, 1) := by decide +kernel
theorem dX4_sees_24 : decode cX4_sees 24 = .ok (.aload_n 0, 1) := by decide +kernel
theorem dX4_sees_25 : decode cX4_sees 25 = .ok (.getfield 12, 3) := by decide +kernel
theorem dX4_sees_28 : decode cX4_sees 28 = .ok (.iload_n 1, 1) := by decide +kernel
theorem dX4_sees_29 : decode cX4_sees 29 = .ok (.iload_n 2, 1) := by decide +kernel
theorem dX4_sees_30 : decode cX4_sees 30 = .ok (.invokevirtual 81, 3) := by decide +kernel
theorem dX4_sees_33 : decode cX4_sees 33 = .ok (.ireturn, 1) := by decide +kernel
set_option maxRecDepth 20000 in
theorem ggX4_knows_X4_isSide : GoodIn wsX4_knows wsX4_isSide := goodIn_r _ [9] (by decide +kernel) (by decide +kernel)
set_option maxRecDepth 20000 in
theorem gX4_knows_X4_isSide : GoodIn wsX4_knows (va_wsS RX4 85 yX4_isSide wsX4_isSide) := goodIn_app (goodIn_of _ (by decide +kernel)) ggX4_knows_X4_isSide
set_option maxRecDepth 20000 in
theorem ggX4_knows_X4_isCell : GoodIn wsX4_knows wsX4_isCell := goodIn_r _ [12] (by decide +kernel) (by decide +kernel)
set_option maxRecDepth 20000 in
theorem gX4_knows_X4_isCell : GoodIn wsX4_knows (va_wsS RX4 48 yX4_isCell wsX4_isCell) := goodIn_app (goodIn_of _ (by decide +kernel)) ggX4_knows_X4_isCell
set_option maxRecDepth 20000 in
theorem ggX4_knows_X2_isKnown : GoodIn wsX4_knows wsX2_isKnown := goodIn_r _ [17, 18, 23, 24, 25, 26, 27, 28, 29, 30] (by decide +kernel) (by decide +kernel)
set_option maxRecDepth 20000 in
theorem gX4_knows_X2_isKnown : GoodIn wsX4_knows (wsV RX4 90 RX2 yX2_isKnown wsX2_isKnown) := goodIn_app (goodIn_of _ (by decide +kernel)) ggX4_knows_X2_isKnown
theorem dX4_knows_0 : decode cX4_knows 0 = .ok (.iload_n 1, 1) := by decide +kernel
theorem dX4_knows_1 : decode cX4_knows 1 = .ok (.invokestatic 85, 3) := by decide +kernel
theorem dX4_knows_4 : decode cX4_knows 4 = .ok (.ifCond .ne 13, 3) := by decide +kernel
theorem dX4_knows_7 : decode cX4_knows 7 = .ok (.new 37, 3) := by decide +kernel
theorem dX4_knows_10 : decode cX4_knows 10 = .ok (.dup, 1) := by decide +kernel
theorem dX4_knows_11 : decode cX4_knows 11 = .ok (.ldc 88, 2) := by decide +kernel
theorem dX4_knows_13 : decode cX4_knows 13 = .ok (.invokespecial 41, 3) := by decide +kernel
theorem dX4_knows_16 : decode cX4_knows 16 = .ok (.athrow, 1) := by decide +kernel
theorem dX4_knows_17 : decode cX4_knows 17 = .ok (.iload_n 2, 1) := by decide +kernel
theorem dX4_knows_18 : decode cX4_knows 18 = .ok (.invokestatic 48, 3) := by decide +kernel
theorem dX4_knows_21 : decode cX4_knows 21 = .ok (.ifCond .ne 13, 3) := by decide +kernel
theorem dX4_knows_24 : decode cX4_knows 24 = .ok (.new 52, 3) := by decide +kernel
theorem dX4_knows_27 : decode cX4_knows 27 = .ok (.dup, 1) := by decide +kernel
theorem dX4_knows_28 : decode cX4_knows 28 = .ok (.ldc 54, 2) := by decide +kernel
theorem dX4_knows_30 : decode cX4_knows 30 = .ok (.invokespecial 56, 3) := by decide +kernel
theorem dX4_knows_33 : decode cX4_knows 33 = .ok (.athrow, 1) := by decide +kernel
theorem dX4_knows_34 : decode cX4_knows 34 = .ok (.aload_n 0, 1) := by decide +kernel
theorem dX4_knows_35 : decode cX4_knows 35 = .ok (.getfield 12, 3) := by decide +kernel
theorem dX4_knows_38 : decode cX4_knows 38 = .ok (.iload_n 1, 1) := by decide +kernel
theorem dX4_knows_39 : decode cX4_knows 39 = .ok (.iload_n 2, 1) := by decide +kernel
theorem dX4_knows_40 : decode cX4_knows 40 = .ok (.invokevirtual 90, 3) := by decide +kernel
theorem dX4_knows_43 : decode cX4_knows 43 = .ok (.ireturn, 1) := by decide +kernel
set_option maxRecDepth 20000 in
theorem ggX4_come_X4_isCell : GoodIn wsX4_come wsX4_isCell := goodIn_r _ [11] (by decide +kernel) (by decide +kernel)
set_option maxRecDepth 20000 in
theorem gX4_come_X4_isCell : GoodIn wsX4_come (va_wsS RX4 48 yX4_isCell wsX4_isCell) := goodIn_app (goodIn_of _ (by decide +kernel)) ggX4_come_X4_isCell
set_option maxRecDepth 20000 in
theorem ggX4_come_X4_isSide : GoodIn wsX4_come wsX4_isSide := goodIn_r _ [14] (by decide +kernel) (by decide +kernel)
set_option maxRecDepth 20000 in
theorem gX4_come_X4_isSide : GoodIn wsX4_come (va_wsS RX4 85 yX4_isSide wsX4_isSide) := goodIn_app (goodIn_of _ (by decide +kernel)) ggX4_come_X4_isSide
set_option maxRecDepth 20000 in
theorem ggX4_come_X4_isWithin : GoodIn wsX4_come wsX4_isWithin := goodIn_r _ [17] (by decide +kernel) (by decide +kernel)
set_option maxRecDepth 20000 in
theorem gX4_come_X4_isWithin : GoodIn wsX4_come (va_wsS RX4 33 yX4_isWithin wsX4_isWithin) := goodIn_app (goodIn_of _ (by decide +kernel)) ggX4_come_X4_isWithin
set_option maxRecDepth 20000 in
theorem ggX4_come_X2_kindAt : GoodIn wsX4_come wsX2_kindAt := goodIn_r _ [22, 23, 98, 99, 100, 101, 102, 103, 104, 105] (by decide +kernel) (by decide +kernel)
set_option maxRecDepth 20000 in
theorem gX4_come_X2_kindAt : GoodIn wsX4_come (wsV RX4 74 RX2 yX2_kindAt wsX2_kindAt) := goodIn_app (goodIn_of _ (by decide +kernel)) ggX4_come_X2_kindAt
set_option maxRecDepth 20000 in
theorem ggX4_come_X4_stopsSight : GoodIn wsX4_come wsX4_stopsSight := goodIn_r _ [26] (by decide +kernel) (by decide +kernel)
set_option maxRecDepth 20000 in
theorem gX4_come_X4_stopsSight : GoodIn wsX4_come (va_wsS RX4 62 yX4_stopsSight wsX4_stopsSight) := goodIn_app (goodIn_of _ (by decide +kernel)) ggX4_come_X4_stopsSight
set_option maxRecDepth 20000 in
theorem ggX4_come_X2_whoIsOn : GoodIn wsX4_come wsX2_whoIsOn := goodIn_r _ [30, 31, 32, 33, 34, 21, 35, 36, 98, 99, 100, 101, 102, 103, 104, 105] (by decide +kernel) (by decide +kernel)
set_option maxRecDepth 20000 in
theorem gX4_come_X2_whoIsOn : GoodIn wsX4_come (wsV RX4 65 RX2 yX2_whoIsOn wsX2_whoIsOn) := goodIn_app (goodIn_of _ (by decide +kernel)) ggX4_come_X2_whoIsOn
set_option maxRecDepth 20000 in
theorem ggX4_come_X2_hasRoom : GoodIn wsX4_come wsX2_hasRoom := goodIn_r _ [40, 31, 98, 99, 100, 101, 102, 103, 104, 105] (by decide +kernel) (by decide +kernel)
set_option maxRecDepth 20000 in
theorem gX4_come_X2_hasRoom : GoodIn wsX4_come (wsV RX4 95 RX2 yX2_hasRoom wsX2_hasRoom) := goodIn_app (goodIn_of _ (by decide +kernel)) ggX4_come_X2_hasRoom
set_option maxRecDepth 20000 in
theorem ggX4_come_X2_addBeing : GoodIn wsX4_come wsX2_addBeing := goodIn_r _ [44, 31, 45, 46, 47, 21, 48, 49, 50, 51, 52, 32, 33, 34, 35, 36, 53, 54, 55, 56, 57, 58, 59, 60, 61, 62, 63, 64, 65, 66, 67, 68, 69, 70, 71, 72, 73, 74, 75, 76, 77, 78, 79, 80, 81, 82, 83, 84, 85, 86, 87, 88, 89, 90, 91, 92, 93, 19, 20, 22, 23, 25, 10, 26, 98, 99, 100, 101, 102, 103, 104, 105] (by decide +kernel) (by decide +kernel)
set_option maxRecDepth 20000 in
theorem gX4_come_X2_addBeing : GoodIn wsX4_come (wsV RX4 101 RX2 yX2_addBeing wsX2_addBeing) := goodIn_app (goodIn_of _ (by decide +kernel)) ggX4_come_X2_addBeing
theorem dX4_come_0 : decode cX4_come 0 = .ok (.iload_n 2, 1) := by decide +kernel
theorem dX4_come_1 : decode cX4_come 1 = .ok (.invokestatic 48, 3) := by decide +kernel
theorem dX4_come_4 : decode cX4_come 4 = .ok (.ifCond .ne 13, 3) := by decide +kernel
theorem dX4_come_7 : decode cX4_come 7 = .ok (.new 52, 3) := by decide +kernel
theorem dX4_come_10 : decode cX4_come 10 = .ok (.dup, 1) := by decide +kernel
theorem dX4_come_11 : decode cX4_come 11 = .ok (.ldc 54, 2) := by decide +kernel
theorem dX4_come_13 : decode cX4_come 13 = .ok (.invokespecial 56, 3) := by decide +kernel
theorem dX4_come_16 : decode cX4_come 16 = .ok (.athrow, 1) := by decide +kernel
theorem dX4_come_17 : decode cX4_come 17 = .ok (.iload_n 1, 1) := by decide +kernel
theorem dX4_come_18 : decode cX4_come 18 = .ok (.invokestatic 85, 3) := by decide +kernel
theorem dX4_come_21 : decode cX4_come 21 = .ok (.ifCond .eq 13, 3) := by decide +kernel
theorem dX4_come_24 : decode cX4_come 24 = .ok (.iload_n 3, 1) := by decide +kernel
theorem dX4_come_25 : decode cX4_come 25 = .ok (.iconst 1, 1) := by decide +kernel
theorem dX4_come_26 : decode cX4_come 26 = .ok (.bipush 60, 2) := by decide +kernel
theorem dX4_come_28 : decode cX4_come 28 = .ok (.invokestatic 33, 3) := by decide +kernel
theorem dX4_come_31 : decode cX4_come 31 = .ok (.ifCond .ne 13, 3) := by decide +kernel
theorem dX4_come_34 : decode cX4_come 34 = .ok (.new 37, 3) := by decide +kernel
theorem dX4_come_37 : decode cX4_come 37 = .ok (.dup, 1) := by decide +kernel
theorem dX4_come_38 : decode cX4_come 38 = .ok (.ldc 93, 2) := by decide +kernel
theorem dX4_come_40 : decode cX4_come 40 = .ok (.invokespecial 41, 3) := by decide +kernel
theorem dX4_come_43 : decode cX4_come 43 = .ok (.athrow, 1) := by decide +kernel
theorem dX4_come_44 : decode cX4_come 44 = .ok (.aload_n 0, 1) := by decide +kernel
theorem dX4_come_45 : decode cX4_come 45 = .ok (.getfield 12, 3) := by decide +kernel
theorem dX4_come_48 : decode cX4_come 48 = .ok (.iload_n 2, 1) := by decide +kernel
theorem dX4_come_49 : decode cX4_come 49 = .ok (.invokevirtual 74, 3) := by decide +kernel
theorem dX4_come_52 : decode cX4_come 52 = .ok (.invokestatic 62, 3) := by decide +kernel
theorem dX4_come_55 : decode cX4_come 55 = .ok (.ifCond .ne 25, 3) := by decide +kernel
theorem dX4_come_58 : decode cX4_come 58 = .ok (.aload_n 0, 1) := by decide +kernel
theorem dX4_come_59 : decode cX4_come 59 = .ok (.getfield 12, 3) := by decide +kernel
theorem dX4_come_62 : decode cX4_come 62 = .ok (.iload_n 2, 1) := by decide +kernel
theorem dX4_come_63 : decode cX4_come 63 = .ok (.invokevirtual 65, 3) := by decide +kernel
theorem dX4_come_66 : decode cX4_come 66 = .ok (.iconst (-1), 1) := by decide +kernel
theorem dX4_come_67 : decode cX4_come 67 = .ok (.if_icmp .ne 13, 3) := by decide +kernel
theorem dX4_come_70 : decode cX4_come 70 = .ok (.aload_n 0, 1) := by decide +kernel
theorem dX4_come_71 : decode cX4_come 71 = .ok (.getfield 12, 3) := by decide +kernel
theorem dX4_come_74 : decode cX4_come 74 = .ok (.invokevirtual 95, 3) := by decide +kernel
theorem dX4_come_77 : decode cX4_come 77 = .ok (.ifCond .ne 13, 3) := by decide +kernel
theorem dX4_come_80 : decode cX4_come 80 = .ok (.new 69, 3) := by decide +kernel
theorem dX4_come_83 : decode cX4_come 83 = .ok (.dup, 1) := by decide +kernel
theorem dX4_come_84 : decode cX4_come 84 = .ok (.ldc 99, 2) := by decide +kernel
theorem dX4_come_86 : decode cX4_come 86 = .ok (.invokespecial 73, 3) := by decide +kernel
theorem dX4_come_89 : decode cX4_come 89 = .ok (.athrow, 1) := by decide +kernel
theorem dX4_come_90 : decode cX4_come 90 = .ok (.aload_n 0, 1) := by decide +kernel
theorem dX4_come_91 : decode cX4_come 91 = .ok (.getfield 12, 3) := by decide +kernel
theorem dX4_come_94 : decode cX4_come 94 = .ok (.iload_n 1, 1) := by decide +kernel
theorem dX4_come_95 : decode cX4_come 95 = .ok (.iload_n 2, 1) := by decide +kernel
theorem dX4_come_96 : decode cX4_come 96 = .ok (.iload_n 3, 1) := by decide +kernel
theorem dX4_come_97 : decode cX4_come 97 = .ok (.invokevirtual 101, 3) := by decide +kernel
theorem dX4_come_100 : decode cX4_come 100 = .ok (.ireturn, 1) := by decide +kernel
set_option maxRecDepth 20000 in
theorem ggX4_become_X2_isBeing : GoodIn wsX4_become wsX2_isBeing := goodIn_r _ [10, 11, 29, 30, 31, 32, 33, 34, 35, 36] (by decide +kernel) (by decide +kernel)
set_option maxRecDepth 20000 in
theorem gX4_become_X2_isBeing : GoodIn wsX4_become (wsV RX4 105 RX2 yX2_isBeing wsX2_isBeing) := goodIn_app (goodIn_of _ (by decide +kernel)) ggX4_become_X2_isBeing
set_option maxRecDepth 20000 in
theorem ggX4_become_X4_isWithin : GoodIn wsX4_become wsX4_isWithin := goodIn_r _ [15] (by decide +kernel) (by decide +kernel)
set_option maxRecDepth 20000 in
theorem gX4_become_X4_isWithin : GoodIn wsX4_become (va_wsS RX4 33 yX4_isWithin wsX4_isWithin) := goodIn_app (goodIn_of _ (by decide +kernel)) ggX4_become_X4_isWithin
set_option maxRecDepth 20000 in
theorem ggX4_become_X2_trait : GoodIn wsX4_become wsX2_trait := goodIn_r _ [19, 20, 29, 30, 31, 32, 33, 34, 35, 36] (by decide +kernel) (by decide +kernel)
set_option maxRecDepth 20000 in
theorem gX4_become_X2_trait : GoodIn wsX4_become (wsV RX4 112 RX2 yX2_trait wsX2_trait) := goodIn_app (goodIn_of _ (by decide +kernel)) ggX4_become_X2_trait
set_option maxRecDepth 20000 in
theorem ggX4_become_X2_putTrait : GoodIn wsX4_become wsX2_putTrait := goodIn_r _ [24, 20, 29, 30, 31, 32, 33, 34, 35, 36] (by decide +kernel) (by decide +kernel)
set_option maxRecDepth 20000 in
theorem gX4_become_X2_putTrait : GoodIn wsX4_become (wsV RX4 116 RX2 yX2_putTrait wsX2_putTrait) := goodIn_app (goodIn_of _ (by decide +kernel)) ggX4_become_X2_putTrait
theorem dX4_become_0 : decode cX4_become 0 = .ok (.aload_n 0, 1) := by decide +kernel
theorem dX4_become_1 : decode cX4_become 1 = .ok (.getfield 12, 3) := by decide +kernel
theorem dX4_become_4 : decode cX4_become 4 = .ok (.iload_n 1, 1) := by decide +kernel
theorem dX4_become_5 : decode cX4_become 5 = .ok (.invokevirtual 105, 3) := by decide +kernel
theorem dX4_become_8 : decode cX4_become 8 = .ok (.ifCond .ne 13, 3) := by decide +kernel
theorem dX4_become_11 : decode cX4_become 11 = .ok (.new 52, 3) := by decide +kernel
theorem dX4_become_14 : decode cX4_become 14 = .ok (.dup, 1) := by decide +kernel
theorem dX4_become_15 : decode cX4_become 15 = .ok (.ldc 108, 2) := by decide +kernel
theorem dX4_become_17 : decode cX4_become 17 = .ok (.invokespecial 56, 3) := by decide +kernel
theorem dX4_become_20 : decode cX4_become 20 = .ok (.athrow, 1) := by decide +kernel
theorem dX4_become_21 : decode cX4_become 21 = .ok (.iload_n 2, 1) := by decide +kernel
theorem dX4_become_22 : decode cX4_become 22 = .ok (.iconst 0, 1) := by decide +kernel
theorem dX4_become_23 : decode cX4_become 23 = .ok (.bipush 20, 2) := by decide +kernel
theorem dX4_become_25 : decode cX4_become 25 = .ok (.invokestatic 33, 3) := by decide +kernel
theorem dX4_become_28 : decode cX4_become 28 = .ok (.ifCond .eq 23, 3) := by decide +kernel
theorem dX4_become_31 : decode cX4_become 31 = .ok (.iload_n 3, 1) := by decide +kernel
theorem dX4_become_32 : decode cX4_become 32 = .ok (.iconst 0, 1) := by decide +kernel
theorem dX4_become_33 : decode cX4_become 33 = .ok (.bipush 20, 2) := by decide +kernel
theorem dX4_become_35 : decode cX4_become 35 = .ok (.invokestatic 33, 3) := by decide +kernel
theorem dX4_become_38 : decode cX4_become 38 = .ok (.ifCond .eq 13, 3) := by decide +kernel
theorem dX4_become_41 : decode cX4_become 41 = .ok (.iload 4, 2) := by decide +kernel
theorem dX4_become_43 : decode cX4_become 43 = .ok (.iconst 1, 1) := by decide +kernel
theorem dX4_become_44 : decode cX4_become 44 = .ok (.iconst 4, 1) := by decide +kernel
theorem dX4_become_45 : decode cX4_become 45 = .ok (.invokestatic 33, 3) := by decide +kernel
theorem dX4_become_48 : decode cX4_become 48 = .ok (.ifCond .ne 13, 3) := by decide +kernel
theorem dX4_become_51 : decode cX4_become 51 = .ok (.new 37, 3) := by decide +kernel
theorem dX4_become_54 : decode cX4_become 54 = .ok (.dup, 1) := by decide +kernel
theorem dX4_become_55 : decode cX4_become 55 = .ok (.ldc 110, 2) := by decide +kernel
theorem dX4_become_57 : decode cX4_become 57 = .ok (.invokespecial 41, 3) := by decide +kernel
theorem dX4_become_60 : decode cX4_become 60 = .ok (.athrow, 1) := by decide +kernel
theorem dX4_become_61 : decode cX4_become 61 = .ok (.aload_n 0, 1) := by decide +kernel
theorem dX4_become_62 : decode cX4_become 62 = .ok (.getfield 12, 3) := by decide +kernel
theorem dX4_become_65 : decode cX4_become 65 = .ok (.iload_n 1, 1) := by decide +kernel
theorem dX4_become_66 : decode cX4_become 66 = .ok (.iconst 4, 1) := by decide +kernel
theorem dX4_become_67 : decode cX4_become 67 = .ok (.invokevirtual 112, 3) := by decide +kernel
theorem dX4_become_70 : decode cX4_become 70 = .ok (.istore 5, 2) := by decide +kernel
theorem dX4_become_72 : decode cX4_become 72 = .ok (.aload_n 0, 1) := by decide +kernel
theorem dX4_become_73 : decode cX4_become 73 = .ok (.getfield 12, 3) := by decide +kernel
theorem dX4_become_76 : decode cX4_become 76 = .ok (.iload_n 1, 1) := by decide +kernel
theorem dX4_become_77 : decode cX4_become 77 = .ok (.iconst 4, 1) := by decide +kernel
theorem dX4_become_78 : decode cX4_become 78 = .ok (.iload_n 2, 1) := by decide +kernel
theorem dX4_become_79 : decode cX4_become 79 = .ok (.invokevirtual 116, 3) := by decide +kernel
theorem dX4_become_82 : decode cX4_become 82 = .ok (.aload_n 0, 1) := by decide +kernel
theorem dX4_become_83 : decode cX4_become 83 = .ok (.getfield 12, 3) := by decide +kernel
theorem dX4_become_86 : decode cX4_become 86 = .ok (.iload_n 1, 1) := by decide +kernel
theorem dX4_become_87 : decode cX4_become 87 = .ok (.iconst 5, 1) := by decide +kernel
theorem dX4_become_88 : decode cX4_become 88 = .ok (.iload_n 3, 1) := by decide +kernel
theorem dX4_become_89 : decode cX4_become 89 = .ok (.invokevirtual 116, 3) := by decide +kernel
theorem dX4_become_92 : decode cX4_become 92 = .ok (.aload_n 0, 1) := by decide +kernel
theorem dX4_become_93 : decode cX4_become 93 = .ok (.getfield 12, 3) := by decide +kernel
theorem dX4_become_96 : decode cX4_become 96 = .ok (.iload_n 1, 1) := by decide +kernel
theorem dX4_become_97 : decode cX4_become 97 = .ok (.bipush 6, 2) := by decide +kernel
theorem dX4_become_99 : decode cX4_become 99 = .ok (.iload 4, 2) := by decide +kernel
theorem dX4_become_101 : decode cX4_become 101 = .ok (.invokevirtual 116, 3) := by decide +kernel
theorem dX4_become_104 : decode cX4_become 104 = .ok (.iload 5, 2) := by decide +kernel
theorem dX4_become_106 : decode cX4_become 106 = .ok (.ireturn, 1) := by decide +kernel
set_option maxRecDepth 20000 in
theorem ggX4_lay_X2_isBeing : GoodIn wsX4_lay wsX2_isBeing := goodIn_r _ [12, 13, 57, 58, 59, 60, 61, 62, 63, 64] (by decide +kernel) (by decide +kernel)
set_option maxRecDepth 20000 in
theorem gX4_lay_X2_isBeing : GoodIn wsX4_lay (wsV RX4 105 RX2 yX2_isBeing wsX2_isBeing) := goodIn_app (goodIn_of _ (by decide +kernel)) ggX4_lay_X2_isBeing
set_option maxRecDepth 20000 in
theorem ggX4_lay_X4_isWithin : GoodIn wsX4_lay wsX4_isWithin := goodIn_r _ [17] (by decide +kernel) (by decide +kernel)
set_option maxRecDepth 20000 in
theorem gX4_lay_X4_isWithin : GoodIn wsX4_lay (va_wsS RX4 33 yX4_isWithin wsX4_isWithin) := goodIn_app (goodIn_of _ (by decide +kernel)) ggX4_lay_X4_isWithin
set_option maxRecDepth 20000 in
theorem ggX4_lay_X2_isAlive : GoodIn wsX4_lay wsX2_isAlive := goodIn_r _ [21, 22, 23, 24, 11, 25, 26, 57, 58, 59, 60, 61, 62, 63, 64] (by decide +kernel) (by decide +kernel)
set_option maxRecDepth 20000 in
theorem gX4_lay_X2_isAlive : GoodIn wsX4_lay (wsV RX4 122 RX2 yX2_isAlive wsX2_isAlive) := goodIn_app (goodIn_of _ (by decide +kernel)) ggX4_lay_X2_isAlive
set_option maxRecDepth 20000 in
theorem ggX4_lay_X2_addEffect : GoodIn wsX4_lay wsX2_addEffect := goodIn_r _ [30, 31, 32, 33, 34, 35, 36, 37, 38, 39, 40, 11, 41, 42, 43, 44, 45, 46, 47, 48, 49, 50, 51, 57, 58, 59, 60, 61, 62, 63, 64] (by decide +kernel) (by decide +kernel)
set_option maxRecDepth 20000 in
theorem gX4_lay_X2_addEffect : GoodIn wsX4_lay (wsV RX4 127 RX2 yX2_addEffect wsX2_addEffect) := goodIn_app (goodIn_of _ (by decide +kernel)) ggX4_lay_X2_addEffect
set_option maxRecDepth 20000 in
theorem ggX4_lay_X2_stackOf : GoodIn wsX4_lay wsX2_stackOf := goodIn_r _ [41, 42, 57, 58, 59, 60, 61, 62, 63, 64] (by decide +kernel) (by decide +kernel)
set_option maxRecDepth 20000 in
theorem gX4_lay_X2_stackOf : GoodIn wsX4_lay (wsV RX4 131 RX2 yX2_stackOf wsX2_stackOf) := goodIn_app (goodIn_of _ (by decide +kernel)) ggX4_lay_X2_stackOf
theorem dX4_lay_0 : decode cX4_lay 0 = .ok (.aload_n 0, 1) := by decide +kernel
theorem dX4_lay_1 : decode cX4_lay 1 = .ok (.getfield 12, 3) := by decide +kernel
theorem dX4_lay_4 : decode cX4_lay 4 = .ok (.iload_n 1, 1) := by decide +kernel
theorem dX4_lay_5 : decode cX4_lay 5 = .ok (.invokevirtual 105, 3) := by decide +kernel
theorem dX4_lay_8 : decode cX4_lay 8 = .ok (.ifCond .ne 13, 3) := by decide +kernel
theorem dX4_lay_11 : decode cX4_lay 11 = .ok (.new 52, 3) := by decide +kernel
theorem dX4_lay_14 : decode cX4_lay 14 = .ok (.dup, 1) := by decide +kernel
theorem dX4_lay_15 : decode cX4_lay 15 = .ok (.ldc 108, 2) := by decide +kernel
theorem dX4_lay_17 : decode cX4_lay 17 = .ok (.invokespecial 56, 3) := by decide +kernel
theorem dX4_lay_20 : decode cX4_lay 20 = .ok (.athrow, 1) := by decide +kernel
theorem dX4_lay_21 : decode cX4_lay 21 = .ok (.iload_n 2, 1) := by decide +kernel
theorem dX4_lay_22 : decode cX4_lay 22 = .ok (.iconst 0, 1) := by decide +kernel
theorem dX4_lay_23 : decode cX4_lay 23 = .ok (.iconst 4, 1) := by decide +kernel
theorem dX4_lay_24 : decode cX4_lay 24 = .ok (.invokestatic 33, 3) := by decide +kernel
theorem dX4_lay_27 : decode cX4_lay 27 = .ok (.ifCond .eq 24, 3) := by decide +kernel
theorem dX4_lay_30 : decode cX4_lay 30 = .ok (.iload_n 3, 1) := by decide +kernel
theorem dX4_lay_31 : decode cX4_lay 31 = .ok (.iconst 1, 1) := by decide +kernel
theorem dX4_lay_32 : decode cX4_lay 32 = .ok (.bipush 9, 2) := by decide +kernel
theorem dX4_lay_34 : decode cX4_lay 34 = .ok (.invokestatic 33, 3) := by decide +kernel
theorem dX4_lay_37 : decode cX4_lay 37 = .ok (.ifCond .eq 14, 3) := by decide +kernel
theorem dX4_lay_40 : decode cX4_lay 40 = .ok (.iload 4, 2) := by decide +kernel
theorem dX4_lay_42 : decode cX4_lay 42 = .ok (.iconst 1, 1) := by decide +kernel
theorem dX4_lay_43 : decode cX4_lay 43 = .ok (.bipush 20, 2) := by decide +kernel
theorem dX4_lay_45 : decode cX4_lay 45 = .ok (.invokestatic 33, 3) := by decide +kernel
theorem dX4_lay_48 : decode cX4_lay 48 = .ok (.ifCond .ne 13, 3) := by decide +kernel
theorem dX4_lay_51 : decode cX4_lay 51 = .ok (.new 37, 3) := by decide +kernel
theorem dX4_lay_54 : decode cX4_lay 54 = .ok (.dup, 1) := by decide +kernel
theorem dX4_lay_55 : decode cX4_lay 55 = .ok (.ldc 120, 2) := by decide +kernel
theorem dX4_lay_57 : decode cX4_lay 57 = .ok (.invokespecial 41, 3) := by decide +kernel
theorem dX4_lay_60 : decode cX4_lay 60 = .ok (.athrow, 1) := by decide +kernel
theorem dX4_lay_61 : decode cX4_lay 61 = .ok (.aload_n 0, 1) := by decide +kernel
theorem dX4_lay_62 : decode cX4_lay 62 = .ok (.getfield 12, 3) := by decide +kernel
theorem dX4_lay_65 : decode cX4_lay 65 = .ok (.iload_n 1, 1) := by decide +kernel
theorem dX4_lay_66 : decode cX4_lay 66 = .ok (.invokevirtual 122, 3) := by decide +kernel
theorem dX4_lay_69 : decode cX4_lay 69 = .ok (.ifCond .ne 13, 3) := by decide +kernel
theorem dX4_lay_72 : decode cX4_lay 72 = .ok (.new 69, 3) := by decide +kernel
theorem dX4_lay_75 : decode cX4_lay 75 = .ok (.dup, 1) := by decide +kernel
theorem dX4_lay_76 : decode cX4_lay 76 = .ok (.ldc 125, 2) := by decide +kernel
theorem dX4_lay_78 : decode cX4_lay 78 = .ok (.invokespecial 73, 3) := by decide +kernel
theorem dX4_lay_81 : decode cX4_lay 81 = .ok (.athrow, 1) := by decide +kernel
theorem dX4_lay_82 : decode cX4_lay 82 = .ok (.aload_n 0, 1) := by decide +kernel
theorem dX4_lay_83 : decode cX4_lay 83 = .ok (.getfield 12, 3) := by decide +kernel
theorem dX4_lay_86 : decode cX4_lay 86 = .ok (.iload_n 1, 1) := by decide +kernel
theorem dX4_lay_87 : decode cX4_lay 87 = .ok (.iload_n 2, 1) := by decide +kernel
theorem dX4_lay_88 : decode cX4_lay 88 = .ok (.iload_n 3, 1) := by decide +kernel
theorem dX4_lay_89 : decode cX4_lay 89 = .ok (.iload 4, 2) := by decide +kernel
theorem dX4_lay_91 : decode cX4_lay 91 = .ok (.invokevirtual 127, 3) := by decide +kernel
theorem dX4_lay_94 : decode cX4_lay 94 = .ok (.aload_n 0, 1) := by decide +kernel
theorem dX4_lay_95 : decode cX4_lay 95 = .ok (.getfield 12, 3) := by decide +kernel
theorem dX4_lay_98 : decode cX4_lay 98 = .ok (.iload_n 1, 1) := by decide +kernel
theorem dX4_lay_99 : decode cX4_lay 99 = .ok (.iload_n 2, 1) := by decide +kernel
theorem dX4_lay_100 : decode cX4_lay 100 = .ok (.invokevirtual 131, 3) := by decide +kernel
theorem dX4_lay_103 : decode cX4_lay 103 = .ok (.ireturn, 1) := by decide +kernel
set_option maxRecDepth 20000 in
theorem ggX4_of_X2_isBeing : GoodIn wsX4_of wsX2_isBeing := goodIn_r _ [10, 11, 34, 35, 36, 37, 38, 39, 40, 41] (by decide +kernel) (by decide +kernel)
set_option maxRecDepth 20000 in
theorem gX4_of_X2_isBeing : GoodIn wsX4_of (wsV RX4 105 RX2 yX2_isBeing wsX2_isBeing) := goodIn_app (goodIn_of _ (by decide +kernel)) ggX4_of_X2_isBeing
set_option maxRecDepth 20000 in
theorem ggX4_of_X4_isWithin : GoodIn wsX4_of wsX4_isWithin := goodIn_r _ [15] (by decide +kernel) (by decide +kernel)
set_option maxRecDepth 20000 in
theorem gX4_of_X4_isWithin : GoodIn wsX4_of (va_wsS RX4 33 yX4_isWithin wsX4_isWithin) := goodIn_app (goodIn_of _ (by decide +kernel)) ggX4_of_X4_isWithin
set_option maxRecDepth 20000 in
theorem ggX4_of_X4_answerOf : GoodIn wsX4_of wsX4_answerOf := goodIn_r _ [19, 5, 20, 21, 22, 9, 23, 24, 25, 26, 27, 28, 29, 30, 31, 32, 33, 34, 35, 36, 37, 38, 39, 40, 41] (by decide +kernel) (by decide +kernel)
set_option maxRecDepth 20000 in
theorem gX4_of_X4_answerOf : GoodIn wsX4_of (wsV RX4 136 RX4 yX4_answerOf wsX4_answerOf) := goodIn_app (goodIn_of _ (by decide +kernel)) ggX4_of_X4_answerOf
theorem dX4_of_0 : decode cX4_of 0 = .ok (.aload_n 0, 1) := by decide +kernel
theorem dX4_of_1 : decode cX4_of 1 = .ok (.getfield 12, 3) := by decide +kernel
theorem dX4_of_4 : decode cX4_of 4 = .ok (.iload_n 1, 1) := by decide +kernel
theorem dX4_of_5 : decode cX4_of 5 = .ok (.invokevirtual 105, 3) := by decide +kernel
theorem dX4_of_8 : decode cX4_of 8 = .ok (.ifCond .ne 13, 3) := by decide +kernel
theorem dX4_of_11 : decode cX4_of 11 = .ok (.new 52, 3) := by decide +kernel
theorem dX4_of_14 : decode cX4_of 14 = .ok (.dup, 1) := by decide +kernel
theorem dX4_of_15 : decode cX4_of 15 = .ok (.ldc 108, 2) := by decide +kernel
theorem dX4_of_17 : decode cX4_of 17 = .ok (.invokespecial 56, 3) := by decide +kernel
theorem dX4_of_20 : decode cX4_of 20 = .ok (.athrow, 1) := by decide +kernel
theorem dX4_of_21 : decode cX4_of 21 = .ok (.iload_n 2, 1) := by decide +kernel
theorem dX4_of_22 : decode cX4_of 22 = .ok (.iconst 0, 1) := by decide +kernel
theorem dX4_of_23 : decode cX4_of 23 = .ok (.bipush 9, 2) := by decide +kernel
theorem dX4_of_25 : decode cX4_of 25 = .ok (.invokestatic 33, 3) := by decide +kernel
theorem dX4_of_28 : decode cX4_of 28 = .ok (.ifCond .ne 13, 3) := by decide +kernel
theorem dX4_of_31 : decode cX4_of 31 = .ok (.new 37, 3) := by decide +kernel
theorem dX4_of_34 : decode cX4_of 34 = .ok (.dup, 1) := by decide +kernel
theorem dX4_of_35 : decode cX4_of 35 = .ok (.ldc 134, 2) := by decide +kernel
theorem dX4_of_37 : decode cX4_of 37 = .ok (.invokespecial 41, 3) := by decide +kernel
theorem dX4_of_40 : decode cX4_of 40 = .ok (.athrow, 1) := by decide +kernel
theorem dX4_of_41 : decode cX4_of 41 = .ok (.aload_n 0, 1) := by decide +kernel
theorem dX4_of_42 : decode cX4_of 42 = .ok (.iload_n 1, 1) := by decide +kernel
theorem dX4_of_43 : decode cX4_of 43 = .ok (.iload_n 2, 1) := by decide +kernel
theorem dX4_of_44 : decode cX4_of 44 = .ok (.invokevirtual 136, 3) := by decide +kernel
theorem dX4_of_47 : decode cX4_of 47 = .ok (.ireturn, 1) := by decide +kernel
set_option maxRecDepth 20000 in
theorem ggX4_effect_X2_isBeing : GoodIn wsX4_effect wsX2_isBeing := goodIn_r _ [10, 11, 30, 31, 32, 33, 34, 35, 36, 37] (by decide +kernel) (by decide +kernel)
set_option maxRecDepth 20000 in
theorem gX4_effect_X2_isBeing : GoodIn wsX4_effect (wsV RX4 105 RX2 yX2_isBeing wsX2_isBeing) := goodIn_app (goodIn_of _ (by decide +kernel)) ggX4_effect_X2_isBeing
set_option maxRecDepth 20000 in
theorem ggX4_effect_X4_isWithin : GoodIn wsX4_effect wsX4_isWithin := goodIn_r _ [15] (by decide +kernel) (by decide +kernel)
set_option maxRecDepth 20000 in
theorem gX4_effect_X4_isWithin : GoodIn wsX4_effect (va_wsS RX4 33 yX4_isWithin wsX4_isWithin) := goodIn_app (goodIn_of _ (by decide +kernel)) ggX4_effect_X4_isWithin
set_option maxRecDepth 20000 in
theorem ggX4_effect_X2_turnsOf : GoodIn wsX4_effect wsX2_turnsOf := goodIn_r _ [19, 20, 30, 31, 32, 33, 34, 35, 36, 37] (by decide +kernel) (by decide +kernel)
set_option maxRecDepth 20000 in
theorem gX4_effect_X2_turnsOf : GoodIn wsX4_effect (wsV RX4 141 RX2 yX2_turnsOf wsX2_turnsOf) := goodIn_app (goodIn_of _ (by decide +kernel)) ggX4_effect_X2_turnsOf
set_option maxRecDepth 20000 in
theorem ggX4_effect_X2_stackOf : GoodIn wsX4_effect wsX2_stackOf := goodIn_r _ [24, 25, 30, 31, 32, 33, 34, 35, 36, 37] (by decide +kernel) (by decide +kernel)
set_option maxRecDepth 20000 in
theorem gX4_effect_X2_stackOf : GoodIn wsX4_effect (wsV RX4 131 RX2 yX2_stackOf wsX2_stackOf) := goodIn_app (goodIn_of _ (by decide +kernel)) ggX4_effect_X2_stackOf
theorem dX4_effect_0 : decode cX4_effect 0 = .ok (.aload_n 0, 1) := by decide +kernel
theorem dX4_effect_1 : decode cX4_effect 1 = .ok (.getfield 12, 3) := by decide +kernel
theorem dX4_effect_4 : decode cX4_effect 4 = .ok (.iload_n 1, 1) := by decide +kernel
theorem dX4_effect_5 : decode cX4_effect 5 = .ok (.invokevirtual 105, 3) := by decide +kernel
theorem dX4_effect_8 : decode cX4_effect 8 = .ok (.ifCond .ne 13, 3) := by decide +kernel
theorem dX4_effect_11 : decode cX4_effect 11 = .ok (.new 52, 3) := by decide +kernel
theorem dX4_effect_14 : decode cX4_effect 14 = .ok (.dup, 1) := by decide +kernel
theorem dX4_effect_15 : decode cX4_effect 15 = .ok (.ldc 108, 2) := by decide +kernel
theorem dX4_effect_17 : decode cX4_effect 17 = .ok (.invokespecial 56, 3) := by decide +kernel
theorem dX4_effect_20 : decode cX4_effect 20 = .ok (.athrow, 1) := by decide +kernel
theorem dX4_effect_21 : decode cX4_effect 21 = .ok (.iload_n 2, 1) := by decide +kernel
theorem dX4_effect_22 : decode cX4_effect 22 = .ok (.iconst 0, 1) := by decide +kernel
theorem dX4_effect_23 : decode cX4_effect 23 = .ok (.iconst 4, 1) := by decide +kernel
theorem dX4_effect_24 : decode cX4_effect 24 = .ok (.invokestatic 33, 3) := by decide +kernel
theorem dX4_effect_27 : decode cX4_effect 27 = .ok (.ifCond .ne 13, 3) := by decide +kernel
theorem dX4_effect_30 : decode cX4_effect 30 = .ok (.new 37, 3) := by decide +kernel
theorem dX4_effect_33 : decode cX4_effect 33 = .ok (.dup, 1) := by decide +kernel
theorem dX4_effect_34 : decode cX4_effect 34 = .ok (.ldc 139, 2) := by decide +kernel
theorem dX4_effect_36 : decode cX4_effect 36 = .ok (.invokespecial 41, 3) := by decide +kernel
theorem dX4_effect_39 : decode cX4_effect 39 = .ok (.athrow, 1) := by decide +kernel
theorem dX4_effect_40 : decode cX4_effect 40 = .ok (.iload_n 3, 1) := by decide +kernel
theorem dX4_effect_41 : decode cX4_effect 41 = .ok (.ifCond .eq 15, 3) := by decide +kernel
theorem dX4_effect_44 : decode cX4_effect 44 = .ok (.aload_n 0, 1) := by decide +kernel
theorem dX4_effect_45 : decode cX4_effect 45 = .ok (.getfield 12, 3) := by decide +kernel
theorem dX4_effect_48 : decode cX4_effect 48 = .ok (.iload_n 1, 1) := by decide +kernel
theorem dX4_effect_49 : decode cX4_effect 49 = .ok (.iload_n 2, 1) := by decide +kernel
theorem dX4_effect_50 : decode cX4_effect 50 = .ok (.invokevirtual 141, 3) := by decide +kernel
theorem dX4_effect_53 : decode cX4_effect 53 = .ok (.goto 12, 3) := by decide +kernel
theorem dX4_effect_56 : decode cX4_effect 56 = .ok (.aload_n 0, 1) := by decide +kernel
theorem dX4_effect_57 : decode cX4_effect 57 = .ok (.getfield 12, 3) := by decide +kernel
theorem dX4_effect_60 : decode cX4_effect 60 = .ok (.iload_n 1, 1) := by decide +kernel
theorem dX4_effect_61 : decode cX4_effect 61 = .ok (.iload_n 2, 1) := by decide +kernel
theorem dX4_effect_62 : decode cX4_effect 62 = .ok (.invokevirtual 131, 3) := by decide +kernel
theorem dX4_effect_65 : decode cX4_effect 65 = .ok (.ireturn, 1) := by decide +kernel
set_option maxRecDepth 20000 in
theorem ggX4_many_X4_isWithin : GoodIn wsX4_many wsX4_isWithin := goodIn_r _ [6] (by decide +kernel) (by decide +kernel)
set_option maxRecDepth 20000 in
theorem gX4_many_X4_isWithin : GoodIn wsX4_many (va_wsS RX4 33 yX4_isWithin wsX4_isWithin) := goodIn_app (goodIn_of _ (by decide +kernel)) ggX4_many_X4_isWithin
set_option maxRecDepth 20000 in
theorem ggX4_many_X4_countOf : GoodIn wsX4_many wsX4_countOf := goodIn_r _ [10, 11, 12, 13, 14, 15, 16, 17, 18, 19, 20, 21, 22, 23, 24, 25, 26, 27, 28, 29, 30, 31, 32, 33, 34, 35, 36, 37, 38, 39, 40, 41, 42, 43, 44, 45, 46, 47, 48, 49, 50, 51, 52, 53, 54, 55, 56, 57, 58, 59, 60, 61] (by decide +kernel) (by decide +kernel)
set_option maxRecDepth 20000 in
theorem gX4_many_X4_countOf : GoodIn wsX4_many (wsV RX4 146 RX4 yX4_countOf wsX4_countOf) := goodIn_app (goodIn_of _ (by decide +kernel)) ggX4_many_X4_countOf
theorem dX4_many_0 : decode cX4_many 0 = .ok (.iload_n 1, 1) := by decide +kernel
theorem dX4_many_1 : decode cX4_many 1 = .ok (.iconst 0, 1) := by decide +kernel
theorem dX4_many_2 : decode cX4_many 2 = .ok (.bipush 8, 2) := by decide +kernel
theorem dX4_many_4 : decode cX4_many 4 = .ok (.invokestatic 33, 3) := by decide +kernel
theorem dX4_many_7 : decode cX4_many 7 = .ok (.ifCond .ne 13, 3) := by decide +kernel
theorem dX4_many_10 : decode cX4_many 10 = .ok (.new 37, 3) := by decide +kernel
theorem dX4_many_13 : decode cX4_many 13 = .ok (.dup, 1) := by decide +kernel
theorem dX4_many_14 : decode cX4_many 14 = .ok (.ldc 144, 2) := by decide +kernel
theorem dX4_many_16 : decode cX4_many 16 = .ok (.invokespecial 41, 3) := by decide +kernel
theorem dX4_many_19 : decode cX4_many 19 = .ok (.athrow, 1) := by decide +kernel
theorem dX4_many_20 : decode cX4_many 20 = .ok (.aload_n 0, 1) := by decide +kernel
theorem dX4_many_21 : decode cX4_many 21 = .ok (.iload_n 1, 1) := by decide +kernel
theorem dX4_many_22 : decode cX4_many 22 = .ok (.invokevirtual 146, 3) := by decide +kernel
theorem dX4_many_25 : decode cX4_many 25 = .ok (.ireturn, 1) := by decide +kernel
set_option maxRecDepth 20000 in
theorem ggX4_act_X4_isWithin : GoodIn wsX4_act wsX4_isWithin := goodIn_r _ [9] (by decide +kernel) (by decide +kernel)
set_option maxRecDepth 20000 in
theorem gX4_act_X4_isWithin : GoodIn wsX4_act (va_wsS RX4 33 yX4_isWithin wsX4_isWithin) := goodIn_app (goodIn_of _ (by decide +kernel)) ggX4_act_X4_isWithin
set_option maxRecDepth 20000 in
theorem ggX4_act_X2_whoseTurn : GoodIn wsX4_act wsX2_whoseTurn := goodIn_r _ [14, 15, 16, 17, 18, 13, 19, 20, 21, 22, 23, 24, 150, 151, 152, 153, 154, 155, 156, 157] (by decide +kernel) (by decide +kernel)
set_option maxRecDepth 20000 in
theorem gX4_act_X2_whoseTurn : GoodIn wsX4_act (wsV RX4 151 RX2 yX2_whoseTurn wsX2_whoseTurn) := goodIn_app (goodIn_of _ (by decide +kernel)) ggX4_act_X2_whoseTurn
set_option maxRecDepth 20000 in
theorem ggX4_act_X1_isPossible : GoodIn wsX4_act wsX1_isPossible := goodIn_r _ [28, 29, 17, 18, 13, 19, 20, 21, 22, 23, 24, 30, 31, 27, 32, 33, 34, 35, 36, 37, 38, 39, 40, 41, 42, 43, 44, 45, 15, 46, 47, 48, 49, 50, 51, 52, 53, 16, 54, 55, 56, 57, 58, 59, 60, 61, 62, 63, 64, 65, 66, 67, 68, 69, 70, 71, 72, 73, 74, 75, 76, 77, 8, 78, 150, 151, 152, 153, 154, 155, 156, 157] (by decide +kernel) (by decide +kernel)
set_option maxRecDepth 20000 in
theorem gX4_act_X1_isPossible : GoodIn wsX4_act (va_wsS RX4 155 yX1_isPossible wsX1_isPossible) := goodIn_app (goodIn_of _ (by decide +kernel)) ggX4_act_X1_isPossible
set_option maxRecDepth 20000 in
theorem ggX4_act_X1_perform : GoodIn wsX4_act wsX1_perform := goodIn_r _ [81, 82, 83, 60, 84, 85, 86, 87, 13, 88, 89, 33, 21, 22, 23, 24, 90, 91, 92, 93, 30, 31, 27, 32, 94, 95, 96, 42, 43, 44, 45, 15, 20, 97, 98, 99, 100, 62, 63, 64, 16, 17, 18, 19, 101, 102, 103, 104, 105, 106, 107, 37, 38, 39, 40, 41, 108, 109, 110, 111, 112, 113, 114, 50, 51, 52, 53, 54, 47, 48, 49, 55, 56, 57, 58, 59, 61, 65, 66, 67, 68, 69, 70, 71, 72, 73, 74, 75, 76, 77, 8, 78, 115, 116, 117, 118, 119, 120, 121, 122, 123, 124, 125, 126, 127, 128, 129, 130, 131, 29, 132, 133, 134, 135, 136, 137, 138, 139, 140, 141, 142, 143, 144, 145, 150, 151, 152, 153, 154, 155, 156, 157] (by decide +kernel) (by decide +kernel)
set_option maxRecDepth 20000 in
theorem gX4_act_X1_perform : GoodIn wsX4_act (va_wsS RX4 163 yX1_perform wsX1_perform) := goodIn_app (goodIn_of _ (by decide +kernel)) ggX4_act_X1_perform
theorem dX4_act_0 : decode cX4_act 0 = .ok (.iload_n 1, 1) := by decide +kernel
theorem dX4_act_1 : decode cX4_act 1 = .ok (.iconst 0, 1) := by decide +kernel
theorem dX4_act_2 : decode cX4_act 2 = .ok (.bipush 7, 2) := by decide +kernel
theorem dX4_act_4 : decode cX4_act 4 = .ok (.invokestatic 33, 3) := by decide +kernel
theorem dX4_act_7 : decode cX4_act 7 = .ok (.ifCond .ne 13, 3) := by decide +kernel
theorem dX4_act_10 : decode cX4_act 10 = .ok (.new 37, 3) := by decide +kernel
theorem dX4_act_13 : decode cX4_act 13 = .ok (.dup, 1) := by decide +kernel
theorem dX4_act_14 : decode cX4_act 14 = .ok (.ldc 149, 2) := by decide +kernel
theorem dX4_act_16 : decode cX4_act 16 = .ok (.invokespecial 41, 3) := by decide +kernel
theorem dX4_act_19 : decode cX4_act 19 = .ok (.athrow, 1) := by decide +kernel
theorem dX4_act_20 : decode cX4_act 20 = .ok (.aload_n 0, 1) := by decide +kernel
theorem dX4_act_21 : decode cX4_act 21 = .ok (.getfield 12, 3) := by decide +kernel
theorem dX4_act_24 : decode cX4_act 24 = .ok (.invokevirtual 151, 3) := by decide +kernel
theorem dX4_act_27 : decode cX4_act 27 = .ok (.istore_n 2, 1) := by decide +kernel
theorem dX4_act_28 : decode cX4_act 28 = .ok (.aload_n 0, 1) := by decide +kernel
theorem dX4_act_29 : decode cX4_act 29 = .ok (.getfield 12, 3) := by decide +kernel
theorem dX4_act_32 : decode cX4_act 32 = .ok (.iload_n 2, 1) := by decide +kernel
theorem dX4_act_33 : decode cX4_act 33 = .ok (.iload_n 1, 1) := by decide +kernel
theorem dX4_act_34 : decode cX4_act 34 = .ok (.invokestatic 155, 3) := by decide +kernel
theorem dX4_act_37 : decode cX4_act 37 = .ok (.ifCond .ne 13, 3) := by decide +kernel
theorem dX4_act_40 : decode cX4_act 40 = .ok (.new 69, 3) := by decide +kernel
theorem dX4_act_43 : decode cX4_act 43 = .ok (.dup, 1) := by decide +kernel
theorem dX4_act_44 : decode cX4_act 44 = .ok (.ldc 161, 2) := by decide +kernel
theorem dX4_act_46 : decode cX4_act 46 = .ok (.invokespecial 73, 3) := by decide +kernel
theorem dX4_act_49 : decode cX4_act 49 = .ok (.athrow, 1) := by decide +kernel
theorem dX4_act_50 : decode cX4_act 50 = .ok (.aload_n 0, 1) := by decide +kernel
theorem dX4_act_51 : decode cX4_act 51 = .ok (.getfield 12, 3) := by decide +kernel
theorem dX4_act_54 : decode cX4_act 54 = .ok (.iload_n 2, 1) := by decide +kernel
theorem dX4_act_55 : decode cX4_act 55 = .ok (.iload_n 1, 1) := by decide +kernel
theorem dX4_act_56 : decode cX4_act 56 = .ok (.invokestatic 163, 3) := by decide +kernel
theorem dX4_act_59 : decode cX4_act 59 = .ok (.ireturn, 1) := by decide +kernel
set_option maxRecDepth 20000 in
theorem ggX4_follow_X4_isWithin : GoodIn wsX4_follow wsX4_isWithin := goodIn_r _ [6] (by decide +kernel) (by decide +kernel)
set_option maxRecDepth 20000 in
theorem gX4_follow_X4_isWithin : GoodIn wsX4_follow (va_wsS RX4 33 yX4_isWithin wsX4_isWithin) := goodIn_app (goodIn_of _ (by decide +kernel)) ggX4_follow_X4_isWithin
set_option maxRecDepth 20000 in
theorem ggX4_follow_X4_play : GoodIn wsX4_follow wsX4_play := goodIn_r _ [10, 11, 12, 13, 14, 15, 16, 17, 18, 19, 20, 21, 22, 23, 24, 25, 26, 27, 28, 29, 30, 31, 32, 33, 34, 35, 36, 37, 38, 39, 40, 41, 42, 43, 44, 45, 46, 47, 48, 49, 50, 51, 52, 53, 54, 55, 56, 57, 58, 59, 60, 61, 62, 63, 64, 65, 66, 67, 68, 69, 70, 71, 72, 73, 5, 74, 75, 76, 77, 78, 79, 80, 81, 82, 83, 84, 85, 86, 87, 88, 89, 90, 91, 92, 93, 94, 95, 96, 97, 98, 99, 100, 101, 102, 103, 104, 105, 106, 107, 108, 109, 110, 111, 112, 113, 114, 115, 116, 117, 118, 119, 120, 121, 122, 123, 124, 125, 126, 127, 128, 129, 130, 131, 132, 133, 134, 135, 136, 137, 138, 139, 140, 141, 142, 143, 144, 145, 146, 147, 148, 149, 150, 151, 152, 153, 154, 155, 156, 157, 158, 159, 160, 161, 162, 163, 164, 165, 166, 167, 168, 169, 170, 171, 172, 173, 174, 175, 176, 177, 178, 179, 180, 181, 182, 183, 184, 185, 186, 187, 188, 189, 190, 191, 192, 193, 194, 195, 196, 197, 198, 199, 200, 201, 202, 203, 204, 205, 206, 207, 208, 209, 210, 211, 212, 213, 214, 215, 216, 217, 218, 219, 220, 221, 222, 223, 224, 225, 226, 227, 228, 229, 230, 231, 232, 233, 234, 235, 236, 237, 238, 239, 240, 241, 242, 243, 244, 245, 246, 247, 248, 249, 250, 251] (by decide +kernel) (by decide +kernel)
set_option maxRecDepth 20000 in
theorem gX4_follow_X4_play : GoodIn wsX4_follow (wsV RX4 169 RX4 yX4_play wsX4_play) := goodIn_app (goodIn_of _ (by decide +kernel)) ggX4_follow_X4_play
theorem dX4_follow_0 : decode cX4_follow 0 = .ok (.iload_n 1, 1) := by decide +kernel
theorem dX4_follow_1 : decode cX4_follow 1 = .ok (.iconst 1, 1) := by decide +kernel
theorem dX4_follow_2 : decode cX4_follow 2 = .ok (.bipush 40, 2) := by decide +kernel
theorem dX4_follow_4 : decode cX4_follow 4 = .ok (.invokestatic 33, 3) := by decide +kernel
theorem dX4_follow_7 : decode cX4_follow 7 = .ok (.ifCond .ne 13, 3) := by decide +kernel
theorem dX4_follow_10 : decode cX4_follow 10 = .ok (.new 37, 3) := by decide +kernel
theorem dX4_follow_13 : decode cX4_follow 13 = .ok (.dup, 1) := by decide +kernel
theorem dX4_follow_14 : decode cX4_follow 14 = .ok (.ldc 167, 2) := by decide +kernel
theorem dX4_follow_16 : decode cX4_follow 16 = .ok (.invokespecial 41, 3) := by decide +kernel
theorem dX4_follow_19 : decode cX4_follow 19 = .ok (.athrow, 1) := by decide +kernel
theorem dX4_follow_20 : decode cX4_follow 20 = .ok (.aload_n 0, 1) := by decide +kernel
theorem dX4_follow_21 : decode cX4_follow 21 = .ok (.iload_n 1, 1) := by decide +kernel
theorem dX4_follow_22 : decode cX4_follow 22 = .ok (.invokevirtual 169, 3) := by decide +kernel
theorem dX4_follow_25 : decode cX4_follow 25 = .ok (.ireturn, 1) := by decide +kernel
set_option maxRecDepth 20000 in
theorem ggX4_target_X2_isBeing : GoodIn wsX4_target wsX2_isBeing := goodIn_r _ [8, 9, 60, 61, 62, 63, 64, 65, 66, 67] (by decide +kernel) (by decide +kernel)
set_option maxRecDepth 20000 in
theorem gX4_target_X2_isBeing : GoodIn wsX4_target (wsV RX4 105 RX2 yX2_isBeing wsX2_isBeing) := goodIn_app (goodIn_of _ (by decide +kernel)) ggX4_target_X2_isBeing
set_option maxRecDepth 20000 in
theorem ggX4_target_X2_targetOf : GoodIn wsX4_target wsX2_targetOf := goodIn_r _ [13, 9, 14, 15, 16, 7, 17, 18, 19, 20, 21, 22, 23, 24, 25, 26, 27, 28, 29, 30, 31, 32, 33, 34, 35, 36, 37, 38, 39, 40, 41, 42, 43, 44, 45, 46, 47, 48, 49, 50, 51, 52, 53, 54, 55, 60, 61, 62, 63, 64, 65, 66, 67] (by decide +kernel) (by decide +kernel)
set_option maxRecDepth 20000 in
theorem gX4_target_X2_targetOf : GoodIn wsX4_target (wsV RX4 172 RX2 yX2_targetOf wsX2_targetOf) := goodIn_app (goodIn_of _ (by decide +kernel)) ggX4_target_X2_targetOf
theorem dX4_target_0 : decode cX4_target 0 = .ok (.aload_n 0, 1) := by decide +kernel
theorem dX4_target_1 : decode cX4_target 1 = .ok (.getfield 12, 3) := by decide +kernel
theorem dX4_target_4 : decode cX4_target 4 = .ok (.iload_n 1, 1) := by decide +kernel
theorem dX4_target_5 : decode cX4_target 5 = .ok (.invokevirtual 105, 3) := by decide +kernel
theorem dX4_target_8 : decode cX4_target 8 = .ok (.ifCond .ne 13, 3) := by decide +kernel
theorem dX4_target_11 : decode cX4_target 11 = .ok (.new 52, 3) := by decide +kernel
theorem dX4_target_14 : decode cX4_target 14 = .ok (.dup, 1) := by decide +kernel
theorem dX4_target_15 : decode cX4_target 15 = .ok (.ldc 108, 2) := by decide +kernel
theorem dX4_target_17 : decode cX4_target 17 = .ok (.invokespecial 56, 3) := by decide +kernel
theorem dX4_target_20 : decode cX4_target 20 = .ok (.athrow, 1) := by decide +kernel
theorem dX4_target_21 : decode cX4_target 21 = .ok (.aload_n 0, 1) := by decide +kernel
theorem dX4_target_22 : decode cX4_target 22 = .ok (.getfield 12, 3) := by decide +kernel
theorem dX4_target_25 : decode cX4_target 25 = .ok (.iload_n 1, 1) := by decide +kernel
theorem dX4_target_26 : decode cX4_target 26 = .ok (.invokevirtual 172, 3) := by decide +kernel
theorem dX4_target_29 : decode cX4_target 29 = .ok (.ireturn, 1) := by decide +kernel
set_option maxRecDepth 20000 in
theorem ggX4_way_X2_isBeing : GoodIn wsX4_way wsX2_isBeing := goodIn_r _ [9, 10, 81, 82, 83, 84, 85, 86, 87, 88] (by decide +kernel) (by decide +kernel)
set_option maxRecDepth 20000 in
theorem gX4_way_X2_isBeing : GoodIn wsX4_way (wsV RX4 105 RX2 yX2_isBeing wsX2_isBeing) := goodIn_app (goodIn_of _ (by decide +kernel)) ggX4_way_X2_isBeing
set_option maxRecDepth 20000 in
theorem ggX4_way_X4_isCell : GoodIn wsX4_way wsX4_isCell := goodIn_r _ [14] (by decide +kernel) (by decide +kernel)
set_option maxRecDepth 20000 in
theorem gX4_way_X4_isCell : GoodIn wsX4_way (va_wsS RX4 48 yX4_isCell wsX4_isCell) := goodIn_app (goodIn_of _ (by decide +kernel)) ggX4_way_X4_isCell
set_option maxRecDepth 20000 in
theorem ggX4_way_X0_wayOf : GoodIn wsX4_way wsX0_wayOf := goodIn_r _ [19, 20, 21, 22, 23, 8, 24, 25, 26, 27, 28, 29, 30, 31, 32, 33, 34, 35, 36, 37, 38, 39, 40, 41, 42, 43, 44, 45, 46, 47, 48, 49, 50, 51, 52, 53, 54, 55, 56, 57, 58, 59, 60, 61, 62, 63, 64, 65, 66, 67, 68, 69, 70, 71, 72, 73, 74, 75, 76, 89, 90, 81, 82, 83, 84, 85, 86, 87, 88, 91, 92, 93] (by decide +kernel) (by decide +kernel)
set_option maxRecDepth 20000 in
theorem gX4_way_X0_wayOf : GoodIn wsX4_way (wsV RX4 177 RX0 yX0_wayOf wsX0_wayOf) := goodIn_app (goodIn_of _ (by decide +kernel)) ggX4_way_X0_wayOf
theorem dX4_way_0 : decode cX4_way 0 = .ok (.aload_n 0, 1) := by decide +kernel
theorem dX4_way_1 : decode cX4_way 1 = .ok (.getfield 12, 3) := by decide +kernel
theorem dX4_way_4 : decode cX4_way 4 = .ok (.iload_n 1, 1) := by decide +kernel
theorem dX4_way_5 : decode cX4_way 5 = .ok (.invokevirtual 105, 3) := by decide +kernel
theorem dX4_way_8 : decode cX4_way 8 = .ok (.ifCond .eq 10, 3) := by decide +kernel
theorem dX4_way_11 : decode cX4_way 11 = .ok (.iload_n 2, 1) := by decide +kernel
theorem dX4_way_12 : decode cX4_way 12 = .ok (.invokestatic 48, 3) := by decide +kernel
theorem dX4_way_15 : decode cX4_way 15 = .ok (.ifCond .ne 13, 3) := by decide +kernel
theorem dX4_way_18 : decode cX4_way 18 = .ok (.new 52, 3) := by decide +kernel
theorem dX4_way_21 : decode cX4_way 21 = .ok (.dup, 1) := by decide +kernel
theorem dX4_way_22 : decode cX4_way 22 = .ok (.ldc 175, 2) := by decide +kernel
theorem dX4_way_24 : decode cX4_way 24 = .ok (.invokespecial 56, 3) := by decide +kernel
theorem dX4_way_27 : decode cX4_way 27 = .ok (.athrow, 1) := by decide +kernel
theorem dX4_way_28 : decode cX4_way 28 = .ok (.aload_n 0, 1) := by decide +kernel
theorem dX4_way_29 : decode cX4_way 29 = .ok (.getfield 29, 3) := by decide +kernel
theorem dX4_way_32 : decode cX4_way 32 = .ok (.aload_n 0, 1) := by decide +kernel
theorem dX4_way_33 : decode cX4_way 33 = .ok (.getfield 12, 3) := by decide +kernel
theorem dX4_way_36 : decode cX4_way 36 = .ok (.iload_n 1, 1) := by decide +kernel
theorem dX4_way_37 : decode cX4_way 37 = .ok (.iload_n 2, 1) := by decide +kernel
theorem dX4_way_38 : decode cX4_way 38 = .ok (.invokevirtual 177, 3) := by decide +kernel
theorem dX4_way_41 : decode cX4_way 41 = .ok (.ireturn, 1) := by decide +kernel
set_option maxRecDepth 20000 in
theorem ggX4_worth_X2_isBeing : GoodIn wsX4_worth wsX2_isBeing := goodIn_r _ [11, 12, 174, 175, 176, 177, 178, 179, 180, 181] (by decide +kernel) (by decide +kernel)
set_option maxRecDepth 20000 in
theorem gX4_worth_X2_isBeing : GoodIn wsX4_worth (wsV RX4 105 RX2 yX2_isBeing wsX2_isBeing) := goodIn_app (goodIn_of _ (by decide +kernel)) ggX4_worth_X2_isBeing
set_option maxRecDepth 20000 in
theorem ggX4_worth_X4_isWithin : GoodIn wsX4_worth wsX4_isWithin := goodIn_r _ [16] (by decide +kernel) (by decide +kernel)
set_option maxRecDepth 20000 in
theorem gX4_worth_X4_isWithin : GoodIn wsX4_worth (va_wsS RX4 33 yX4_isWithin wsX4_isWithin) := goodIn_app (goodIn_of _ (by decide +kernel)) ggX4_worth_X4_isWithin
set_option maxRecDepth 20000 in
theorem ggX4_worth_X0_weigh : GoodIn wsX4_worth wsX0_weigh := goodIn_r _ [21, 22, 23, 24, 25, 26, 10, 27, 12, 28, 29, 30, 31, 32, 33, 34, 35, 36, 37, 38, 39, 40, 41, 42, 43, 44, 45, 46, 47, 48, 49, 50, 51, 52, 53, 54, 55, 56, 57, 58, 59, 60, 61, 62, 63, 64, 65, 66, 67, 15, 68, 69, 70, 71, 72, 73, 74, 75, 76, 77, 78, 79, 80, 81, 82, 83, 84, 85, 86, 87, 88, 89, 90, 91, 92, 93, 94, 95, 96, 97, 98, 99, 100, 101, 102, 103, 104, 105, 106, 107, 108, 109, 110, 111, 112, 113, 114, 115, 116, 117, 118, 119, 120, 121, 122, 123, 124, 125, 126, 127, 128, 129, 20, 130, 131, 132, 133, 134, 135, 136, 137, 138, 139, 140, 141, 142, 143, 144, 145, 146, 147, 148, 149, 150, 151, 152, 153, 154, 155, 156, 157, 158, 159, 160, 161, 162, 163, 164, 165, 182, 183, 174, 175, 176, 177, 178, 179, 180, 181, 184, 185, 186] (by decide +kernel) (by decide +kernel)
set_option maxRecDepth 20000 in
theorem gX4_worth_X0_weigh : GoodIn wsX4_worth (wsV RX4 180 RX0 yX0_weigh wsX0_weigh) := goodIn_app (goodIn_of _ (by decide +kernel)) ggX4_worth_X0_weigh
set_option maxRecDepth 20000 in
theorem ggX4_worth_X0_worthOf : GoodIn wsX4_worth wsX0_worthOf := goodIn_r _ [169, 23, 182, 183] (by decide +kernel) (by decide +kernel)
set_option maxRecDepth 20000 in
theorem gX4_worth_X0_worthOf : GoodIn wsX4_worth (wsV RX4 184 RX0 yX0_worthOf wsX0_worthOf) := goodIn_app (goodIn_of _ (by decide +kernel)) ggX4_worth_X0_worthOf
theorem dX4_worth_0 : decode cX4_worth 0 = .ok (.aload_n 0, 1) := by decide +kernel
theorem dX4_worth_1 : decode cX4_worth 1 = .ok (.getfield 12, 3) := by decide +kernel
theorem dX4_worth_4 : decode cX4_worth 4 = .ok (.iload_n 1, 1) := by decide +kernel
theorem dX4_worth_5 : decode cX4_worth 5 = .ok (.invokevirtual 105, 3) := by decide +kernel
theorem dX4_worth_8 : decode cX4_worth 8 = .ok (.ifCond .ne 13, 3) := by decide +kernel
theorem dX4_worth_11 : decode cX4_worth 11 = .ok (.new 52, 3) := by decide +kernel
theorem dX4_worth_14 : decode cX4_worth 14 = .ok (.dup, 1) := by decide +kernel
theorem dX4_worth_15 : decode cX4_worth 15 = .ok (.ldc 108, 2) := by decide +kernel
theorem dX4_worth_17 : decode cX4_worth 17 = .ok (.invokespecial 56, 3) := by decide +kernel
theorem dX4_worth_20 : decode cX4_worth 20 = .ok (.athrow, 1) := by decide +kernel
theorem dX4_worth_21 : decode cX4_worth 21 = .ok (.iload_n 2, 1) := by decide +kernel
theorem dX4_worth_22 : decode cX4_worth 22 = .ok (.iconst 0, 1) := by decide +kernel
theorem dX4_worth_23 : decode cX4_worth 23 = .ok (.bipush 7, 2) := by decide +kernel
theorem dX4_worth_25 : decode cX4_worth 25 = .ok (.invokestatic 33, 3) := by decide +kernel
theorem dX4_worth_28 : decode cX4_worth 28 = .ok (.ifCond .ne 13, 3) := by decide +kernel
theorem dX4_worth_31 : decode cX4_worth 31 = .ok (.new 37, 3) := by decide +kernel
theorem dX4_worth_34 : decode cX4_worth 34 = .ok (.dup, 1) := by decide +kernel
theorem dX4_worth_35 : decode cX4_worth 35 = .ok (.ldc 149, 2) := by decide +kernel
theorem dX4_worth_37 : decode cX4_worth 37 = .ok (.invokespecial 41, 3) := by decide +kernel
theorem dX4_worth_40 : decode cX4_worth 40 = .ok (.athrow, 1) := by decide +kernel
theorem dX4_worth_41 : decode cX4_worth 41 = .ok (.aload_n 0, 1) := by decide +kernel
theorem dX4_worth_42 : decode cX4_worth 42 = .ok (.getfield 29, 3) := by decide +kernel
theorem dX4_worth_45 : decode cX4_worth 45 = .ok (.aload_n 0, 1) := by decide +kernel
theorem dX4_worth_46 : decode cX4_worth 46 = .ok (.getfield 12, 3) := by decide +kernel
theorem dX4_worth_49 : decode cX4_worth 49 = .ok (.iload_n 1, 1) := by decide +kernel
theorem dX4_worth_50 : decode cX4_worth 50 = .ok (.invokevirtual 180, 3) := by decide +kernel
theorem dX4_worth_53 : decode cX4_worth 53 = .ok (.aload_n 0, 1) := by decide +kernel
theorem dX4_worth_54 : decode cX4_worth 54 = .ok (.getfield 29, 3) := by decide +kernel
theorem dX4_worth_57 : decode cX4_worth 57 = .ok (.iload_n 2, 1) := by decide +kernel
theorem dX4_worth_58 : decode cX4_worth 58 = .ok (.invokevirtual 184, 3) := by decide +kernel
theorem dX4_worth_61 : decode cX4_worth 61 = .ok (.ireturn, 1) := by decide +kernel
set_option maxRecDepth 20000 in
theorem ggX4_plan_X2_isBeing : GoodIn wsX4_plan wsX2_isBeing := goodIn_r _ [9, 10, 169, 170, 171, 172, 173, 174, 175, 176] (by decide +kernel) (by decide +kernel)
set_option maxRecDepth 20000 in
theorem gX4_plan_X2_isBeing : GoodIn wsX4_plan (wsV RX4 105 RX2 yX2_isBeing wsX2_isBeing) := goodIn_app (goodIn_of _ (by decide +kernel)) ggX4_plan_X2_isBeing
set_option maxRecDepth 20000 in
theorem ggX4_plan_X0_weigh : GoodIn wsX4_plan wsX0_weigh := goodIn_r _ [15, 16, 17, 18, 19, 20, 8, 21, 10, 22, 23, 24, 25, 26, 27, 28, 29, 30, 31, 32, 33, 34, 35, 36, 37, 38, 39, 40, 41, 42, 43, 44, 45, 46, 47, 48, 49, 50, 51, 52, 53, 54, 55, 56, 57, 58, 59, 60, 61, 62, 63, 64, 65, 66, 67, 68, 69, 70, 71, 72, 73, 74, 75, 76, 77, 78, 79, 80, 81, 82, 83, 84, 85, 86, 87, 88, 89, 90, 91, 92, 93, 94, 95, 96, 97, 98, 99, 100, 101, 102, 103, 104, 105, 106, 107, 108, 109, 110, 111, 112, 113, 114, 115, 116, 117, 118, 119, 120, 121, 122, 123, 124, 14, 125, 126, 127, 128, 129, 130, 131, 132, 133, 134, 135, 136, 137, 138, 139, 140, 141, 142, 143, 144, 145, 146, 147, 148, 149, 150, 151, 152, 153, 154, 155, 156, 157, 158, 159, 160, 177, 178, 169, 170, 171, 172, 173, 174, 175, 176, 179, 180, 181] (by decide +kernel) (by decide +kernel)
set_option maxRecDepth 20000 in
theorem gX4_plan_X0_weigh : GoodIn wsX4_plan (wsV RX4 180 RX0 yX0_weigh wsX0_weigh) := goodIn_app (goodIn_of _ (by decide +kernel)) ggX4_plan_X0_weigh
set_option maxRecDepth 20000 in
theorem ggX4_plan_X0_best : GoodIn wsX4_plan wsX0_best := goodIn_r _ [164, 17, 177, 178] (by decide +kernel) (by decide +kernel)
set_option maxRecDepth 20000 in
theorem gX4_plan_X0_best : GoodIn wsX4_plan (wsV RX4 187 RX0 yX0_best wsX0_best) := goodIn_app (goodIn_of _ (by decide +kernel)) ggX4_plan_X0_best
theorem dX4_plan_0 : decode cX4_plan 0 = .ok (.aload_n 0, 1) := by decide +kernel
theorem dX4_plan_1 : decode cX4_plan 1 = .ok (.getfield 12, 3) := by decide +kernel
theorem dX4_plan_4 : decode cX4_plan 4 = .ok (.iload_n 1, 1) := by decide +kernel
theorem dX4_plan_5 : decode cX4_plan 5 = .ok (.invokevirtual 105, 3) := by decide +kernel
theorem dX4_plan_8 : decode cX4_plan 8 = .ok (.ifCond .ne 13, 3) := by decide +kernel
theorem dX4_plan_11 : decode cX4_plan 11 = .ok (.new 52, 3) := by decide +kernel
theorem dX4_plan_14 : decode cX4_plan 14 = .ok (.dup, 1) := by decide +kernel
theorem dX4_plan_15 : decode cX4_plan 15 = .ok (.ldc 108, 2) := by decide +kernel
theorem dX4_plan_17 : decode cX4_plan 17 = .ok (.invokespecial 56, 3) := by decide +kernel
theorem dX4_plan_20 : decode cX4_plan 20 = .ok (.athrow, 1) := by decide +kernel
theorem dX4_plan_21 : decode cX4_plan 21 = .ok (.aload_n 0, 1) := by decide +kernel
theorem dX4_plan_22 : decode cX4_plan 22 = .ok (.getfield 29, 3) := by decide +kernel
theorem dX4_plan_25 : decode cX4_plan 25 = .ok (.aload_n 0, 1) := by decide +kernel
theorem dX4_plan_26 : decode cX4_plan 26 = .ok (.getfield 12, 3) := by decide +kernel
theorem dX4_plan_29 : decode cX4_plan 29 = .ok (.iload_n 1, 1) := by decide +kernel
theorem dX4_plan_30 : decode cX4_plan 30 = .ok (.invokevirtual 180, 3) := by decide +kernel
theorem dX4_plan_33 : decode cX4_plan 33 = .ok (.aload_n 0, 1) := by decide +kernel
theorem dX4_plan_34 : decode cX4_plan 34 = .ok (.getfield 29, 3) := by decide +kernel
theorem dX4_plan_37 : decode cX4_plan 37 = .ok (.invokevirtual 187, 3) := by decide +kernel
theorem dX4_plan_40 : decode cX4_plan 40 = .ok (.ireturn, 1) := by decide +kernel
set_option maxRecDepth 20000 in
theorem ggX4_save_Jx4a65c_size_8abf5 : GoodIn wsX4_save wsJx4a65c_size_8abf5 := goodIn_r _ [12, 13, 103, 104, 105] (by decide +kernel) (by decide +kernel)
set_option maxRecDepth 20000 in
theorem gX4_save_Jx4a65c_size_8abf5_f190Jx4a65c : GoodIn wsX4_save (va_wsF RX4 190 RJx4a65c ⟨"java/util/List", "size", "()I"⟩ yJx4a65c_size_8abf5 wsJx4a65c_size_8abf5) := goodIn_app (goodIn_of _ (by decide +kernel)) ggX4_save_Jx4a65c_size_8abf5
set_option maxRecDepth 20000 in
theorem ggX4_save_X2_init : GoodIn wsX4_save wsX2_init := goodIn_r _ [16, 17, 18, 19, 20, 21, 22, 23, 24, 25, 26, 27, 28, 29, 95, 96, 97, 98, 99, 100, 101, 102] (by decide +kernel) (by decide +kernel)
set_option maxRecDepth 20000 in
theorem gX4_save_X2_init : GoodIn wsX4_save (wsX2_init) := ggX4_save_X2_init
set_option maxRecDepth 20000 in
theorem ggX4_save_X2_copyFrom : GoodIn wsX4_save wsX2_copyFrom := goodIn_r _ [33, 21, 34, 35, 36, 37, 22, 23, 24, 25, 38, 39, 40, 95, 96, 97, 98, 99, 100, 101, 102] (by decide +kernel) (by decide +kernel)
set_option maxRecDepth 20000 in
theorem gX4_save_X2_copyFrom : GoodIn wsX4_save (wsV RX4 197 RX2 yX2_copyFrom wsX2_copyFrom) := goodIn_app (goodIn_of _ (by decide +kernel)) ggX4_save_X2_copyFrom
set_option maxRecDepth 20000 in
theorem ggX4_save_Jx4a65c_add_9ea2d : GoodIn wsX4_save wsJx4a65c_add_9ea2d := goodIn_r _ [44, 45, 46, 47, 13, 48, 49, 50, 11, 51, 52, 53, 54, 55, 56, 57, 58, 59, 60, 61, 62, 63, 64, 65, 66, 67, 68, 69, 70, 71, 72, 73, 74, 75, 76, 28, 77, 78, 79, 80, 81, 82, 83, 84, 85, 86, 87, 88, 89, 90, 35, 36, 37, 103, 104, 105] (by decide +kernel) (by decide +kernel)
set_option maxRecDepth 20000 in
theorem gX4_save_Jx4a65c_add_9ea2d_f201Jx4a65c : GoodIn wsX4_save (va_wsF RX4 201 RJx4a65c ⟨"java/util/List", "add", "(Ljava/lang/Object;)Z"⟩ yJx4a65c_add_9ea2d wsJx4a65c_add_9ea2d) := goodIn_app (goodIn_of _ (by decide +kernel)) ggX4_save_Jx4a65c_add_9ea2d
theorem dX4_save_0 : decode cX4_save 0 = .ok (.aload_n 0, 1) := by decide +kernel
theorem dX4_save_1 : decode cX4_save 1 = .ok (.getfield 22, 3) := by decide +kernel
theorem dX4_save_4 : decode cX4_save 4 = .ok (.invokeinterface 190 1, 5) := by decide +kernel
theorem dX4_save_9 : decode cX4_save 9 = .ok (.iconst 5, 1) := by decide +kernel
theorem dX4_save_10 : decode cX4_save 10 = .ok (.if_icmp .lt 13, 3) := by decide +kernel
theorem dX4_save_13 : decode cX4_save 13 = .ok (.new 69, 3) := by decide +kernel
theorem dX4_save_16 : decode cX4_save 16 = .ok (.dup, 1) := by decide +kernel
theorem dX4_save_17 : decode cX4_save 17 = .ok (.ldc 195, 2) := by decide +kernel
theorem dX4_save_19 : decode cX4_save 19 = .ok (.invokespecial 73, 3) := by decide +kernel
theorem dX4_save_22 : decode cX4_save 22 = .ok (.athrow, 1) := by decide +kernel
theorem dX4_save_23 : decode cX4_save 23 = .ok (.new 9, 3) := by decide +kernel
theorem dX4_save_26 : decode cX4_save 26 = .ok (.dup, 1) := by decide +kernel
theorem dX4_save_27 : decode cX4_save 27 = .ok (.invokespecial 11, 3) := by decide +kernel
theorem dX4_save_30 : decode cX4_save 30 = .ok (.astore_n 1, 1) := by decide +kernel
theorem dX4_save_31 : decode cX4_save 31 = .ok (.aload_n 1, 1) := by decide +kernel
theorem dX4_save_32 : decode cX4_save 32 = .ok (.aload_n 0, 1) := by decide +kernel
theorem dX4_save_33 : decode cX4_save 33 = .ok (.getfield 12, 3) := by decide +kernel
theorem dX4_save_36 : decode cX4_save 36 = .ok (.invokevirtual 197, 3) := by decide +kernel
theorem dX4_save_39 : decode cX4_save 39 = .ok (.aload_n 0, 1) := by decide +kernel
theorem dX4_save_40 : decode cX4_save 40 = .ok (.getfield 22, 3) := by decide +kernel
theorem dX4_save_43 : decode cX4_save 43 = .ok (.aload_n 1, 1) := by decide +kernel
theorem dX4_save_44 : decode cX4_save 44 = .ok (.invokeinterface 201 2, 5) := by decide +kernel
theorem dX4_save_49 : decode cX4_save 49 = .ok (.pop, 1) := by decide +kernel
theorem dX4_save_50 : decode cX4_save 50 = .ok (.aload_n 0, 1) := by decide +kernel
theorem dX4_save_51 : decode cX4_save 51 = .ok (.getfield 22, 3) := by decide +kernel
theorem dX4_save_54 : decode cX4_save 54 = .ok (.invokeinterface 190 1, 5) := by decide +kernel
theorem dX4_save_59 : decode cX4_save 59 = .ok (.iconst 1, 1) := by decide +kernel
theorem dX4_save_60 : decode cX4_save 60 = .ok (.isub, 1) := by decide +kernel
theorem dX4_save_61 : decode cX4_save 61 = .ok (.ireturn, 1) := by decide +kernel
set_option maxRecDepth 20000 in
theorem ggX4_load_Jx4a65c_size_8abf5 : GoodIn wsX4_load wsJx4a65c_size_8abf5 := goodIn_r _ [10, 11, 62, 63, 64] (by decide +kernel) (by decide +kernel)
set_option maxRecDepth 20000 in
theorem gX4_load_Jx4a65c_size_8abf5_f190Jx4a65c : GoodIn wsX4_load (va_wsF RX4 190 RJx4a65c ⟨"java/util/List", "size", "()I"⟩ yJx4a65c_size_8abf5 wsJx4a65c_size_8abf5) := goodIn_app (goodIn_of _ (by decide +kernel)) ggX4_load_Jx4a65c_size_8abf5
set_option maxRecDepth 20000 in
theorem ggX4_load_Jx4a65c_get_915e3 : GoodIn wsX4_load wsJx4a65c_get_915e3 := goodIn_r _ [15, 11, 16, 17, 18, 19, 20, 21, 22, 23, 24, 25, 26, 9, 27, 28, 62, 63, 64] (by decide +kernel) (by decide +kernel)
set_option maxRecDepth 20000 in
theorem gX4_load_Jx4a65c_get_915e3_f207Jx4a65c : GoodIn wsX4_load (va_wsF RX4 207 RJx4a65c ⟨"java/util/List", "get", "(I)Ljava/lang/Object;"⟩ yJx4a65c_get_915e3 wsJx4a65c_get_915e3) := goodIn_app (goodIn_of _ (by decide +kernel)) ggX4_load_Jx4a65c_get_915e3
set_option maxRecDepth 20000 in
theorem ggX4_load_X2_copyFrom : GoodIn wsX4_load wsX2_copyFrom := goodIn_r _ [33, 34, 35, 36, 37, 38, 39, 40, 41, 42, 43, 44, 45, 65, 66, 67, 68, 69, 70, 71, 72] (by decide +kernel) (by decide +kernel)
set_option maxRecDepth 20000 in
theorem gX4_load_X2_copyFrom : GoodIn wsX4_load (wsV RX4 197 RX2 yX2_copyFrom wsX2_copyFrom) := goodIn_app (goodIn_of _ (by decide +kernel)) ggX4_load_X2_copyFrom
set_option maxRecDepth 20000 in
theorem ggX4_load_X2_living : GoodIn wsX4_load wsX2_living := goodIn_r _ [49, 43, 50, 51, 52, 32, 53, 40, 54, 55, 56, 57, 65, 66, 67, 68, 69, 70, 71, 72] (by decide +kernel) (by decide +kernel)
set_option maxRecDepth 20000 in
theorem gX4_load_X2_living : GoodIn wsX4_load (wsV RX4 211 RX2 yX2_living wsX2_living) := goodIn_app (goodIn_of _ (by decide +kernel)) ggX4_load_X2_living
theorem dX4_load_0 : decode cX4_load 0 = .ok (.iload_n 1, 1) := by decide +kernel
theorem dX4_load_1 : decode cX4_load 1 = .ok (.ifCond .lt 16, 3) := by decide +kernel
theorem dX4_load_4 : decode cX4_load 4 = .ok (.iload_n 1, 1) := by decide +kernel
theorem dX4_load_5 : decode cX4_load 5 = .ok (.aload_n 0, 1) := by decide +kernel
theorem dX4_load_6 : decode cX4_load 6 = .ok (.getfield 22, 3) := by decide +kernel
theorem dX4_load_9 : decode cX4_load 9 = .ok (.invokeinterface 190 1, 5) := by decide +kernel
theorem dX4_load_14 : decode cX4_load 14 = .ok (.if_icmp .lt 13, 3) := by decide +kernel
theorem dX4_load_17 : decode cX4_load 17 = .ok (.new 52, 3) := by decide +kernel
theorem dX4_load_20 : decode cX4_load 20 = .ok (.dup, 1) := by decide +kernel
theorem dX4_load_21 : decode cX4_load 21 = .ok (.ldc 205, 2) := by decide +kernel
theorem dX4_load_23 : decode cX4_load 23 = .ok (.invokespecial 56, 3) := by decide +kernel
theorem dX4_load_26 : decode cX4_load 26 = .ok (.athrow, 1) := by decide +kernel
theorem dX4_load_27 : decode cX4_load 27 = .ok (.aload_n 0, 1) := by decide +kernel
theorem dX4_load_28 : decode cX4_load 28 = .ok (.getfield 12, 3) := by decide +kernel
theorem dX4_load_31 : decode cX4_load 31 = .ok (.aload_n 0, 1) := by decide +kernel
theorem dX4_load_32 : decode cX4_load 32 = .ok (.getfield 22, 3) := by decide +kernel
theorem dX4_load_35 : decode cX4_load 35 = .ok (.iload_n 1, 1) := by decide +kernel
theorem dX4_load_36 : decode cX4_load 36 = .ok (.invokeinterface 207 2, 5) := by decide +kernel
theorem dX4_load_41 : decode cX4_load 41 = .ok (.checkcast 9, 3) := by decide +kernel
theorem dX4_load_44 : decode cX4_load 44 = .ok (.invokevirtual 197, 3) := by decide +kernel
theorem dX4_load_47 : decode cX4_load 47 = .ok (.aload_n 0, 1) := by decide +kernel
theorem dX4_load_48 : decode cX4_load 48 = .ok (.getfield 12, 3) := by decide +kernel
theorem dX4_load_51 : decode cX4_load 51 = .ok (.iconst 0, 1) := by decide +kernel
theorem dX4_load_52 : decode cX4_load 52 = .ok (.invokevirtual 211, 3) := by decide +kernel
theorem dX4_load_55 : decode cX4_load 55 = .ok (.aload_n 0, 1) := by decide +kernel
theorem dX4_load_56 : decode cX4_load 56 = .ok (.getfield 12, 3) := by decide +kernel
theorem dX4_load_59 : decode cX4_load 59 = .ok (.iconst 1, 1) := by decide +kernel
theorem dX4_load_60 : decode cX4_load 60 = .ok (.invokevirtual 211, 3) := by decide +kernel
theorem dX4_load_63 : decode cX4_load 63 = .ok (.iadd, 1) := by decide +kernel
theorem dX4_load_64 : decode cX4_load 64 = .ok (.ireturn, 1) := by decide +kernel
set_option maxRecDepth 20000 in
theorem ggX4_hit_X2_isBeing : GoodIn wsX4_hit wsX2_isBeing := goodIn_r _ [8, 9, 36, 37, 38, 39, 40, 41, 42, 43] (by decide +kernel) (by decide +kernel)
set_option maxRecDepth 20000 in
theorem gX4_hit_X2_isBeing : GoodIn wsX4_hit (wsV RX4 105 RX2 yX2_isBeing wsX2_isBeing) := goodIn_app (goodIn_of _ (by decide +kernel)) ggX4_hit_X2_isBeing
set_option maxRecDepth 20000 in
theorem ggX4_hit_X2_hitOf : GoodIn wsX4_hit wsX2_hitOf := goodIn_r _ [13, 14, 15, 16, 17, 18, 19, 20, 7, 21, 22, 23, 24, 25, 26, 27, 28, 29, 30, 31, 36, 37, 38, 39, 40, 41, 42, 43] (by decide +kernel) (by decide +kernel)
set_option maxRecDepth 20000 in
theorem gX4_hit_X2_hitOf : GoodIn wsX4_hit (wsV RX4 214 RX2 yX2_hitOf wsX2_hitOf) := goodIn_app (goodIn_of _ (by decide +kernel)) ggX4_hit_X2_hitOf
theorem dX4_hit_0 : decode cX4_hit 0 = .ok (.aload_n 0, 1) := by decide +kernel
theorem dX4_hit_1 : decode cX4_hit 1 = .ok (.getfield 12, 3) := by decide +kernel
theorem dX4_hit_4 : decode cX4_hit 4 = .ok (.iload_n 1, 1) := by decide +kernel
theorem dX4_hit_5 : decode cX4_hit 5 = .ok (.invokevirtual 105, 3) := by decide +kernel
theorem dX4_hit_8 : decode cX4_hit 8 = .ok (.ifCond .eq 14, 3) := by decide +kernel
theorem dX4_hit_11 : decode cX4_hit 11 = .ok (.aload_n 0, 1) := by decide +kernel
theorem dX4_hit_12 : decode cX4_hit 12 = .ok (.getfield 12, 3) := by decide +kernel
theorem dX4_hit_15 : decode cX4_hit 15 = .ok (.iload_n 2, 1) := by decide +kernel
theorem dX4_hit_16 : decode cX4_hit 16 = .ok (.invokevirtual 105, 3) := by decide +kernel
theorem dX4_hit_19 : decode cX4_hit 19 = .ok (.ifCond .ne 13, 3) := by decide +kernel
theorem dX4_hit_22 : decode cX4_hit 22 = .ok (.new 52, 3) := by decide +kernel
theorem dX4_hit_25 : decode cX4_hit 25 = .ok (.dup, 1) := by decide +kernel
theorem dX4_hit_26 : decode cX4_hit 26 = .ok (.ldc 108, 2) := by decide +kernel
theorem dX4_hit_28 : decode cX4_hit 28 = .ok (.invokespecial 56, 3) := by decide +kernel
theorem dX4_hit_31 : decode cX4_hit 31 = .ok (.athrow, 1) := by decide +kernel
theorem dX4_hit_32 : decode cX4_hit 32 = .ok (.aload_n 0, 1) := by decide +kernel
theorem dX4_hit_33 : decode cX4_hit 33 = .ok (.getfield 12, 3) := by decide +kernel
theorem dX4_hit_36 : decode cX4_hit 36 = .ok (.iload_n 1, 1) := by decide +kernel
theorem dX4_hit_37 : decode cX4_hit 37 = .ok (.iload_n 2, 1) := by decide +kernel
theorem dX4_hit_38 : decode cX4_hit 38 = .ok (.invokevirtual 214, 3) := by decide +kernel
theorem dX4_hit_41 : decode cX4_hit 41 = .ok (.ireturn, 1) := by decide +kernel
set_option maxRecDepth 20000 in
theorem ggX4_ahead_X4_isWithin : GoodIn wsX4_ahead wsX4_isWithin := goodIn_r _ [8] (by decide +kernel) (by decide +kernel)
set_option maxRecDepth 20000 in
theorem gX4_ahead_X4_isWithin : GoodIn wsX4_ahead (va_wsS RX4 33 yX4_isWithin wsX4_isWithin) := goodIn_app (goodIn_of _ (by decide +kernel)) ggX4_ahead_X4_isWithin
set_option maxRecDepth 20000 in
theorem ggX4_ahead_X2_copyFrom : GoodIn wsX4_ahead wsX2_copyFrom := goodIn_r _ [13, 14, 15, 16, 17, 18, 19, 20, 21, 22, 23, 24, 25, 254, 255, 256, 257, 258, 259, 260, 261] (by decide +kernel) (by decide +kernel)
set_option maxRecDepth 20000 in
theorem gX4_ahead_X2_copyFrom : GoodIn wsX4_ahead (wsV RX4 197 RX2 yX2_copyFrom wsX2_copyFrom) := goodIn_app (goodIn_of _ (by decide +kernel)) ggX4_ahead_X2_copyFrom
set_option maxRecDepth 20000 in
theorem ggX4_ahead_X4_play : GoodIn wsX4_ahead wsX4_play := goodIn_r _ [29, 3, 30, 31, 32, 33, 12, 34, 23, 35, 36, 37, 38, 20, 39, 40, 41, 42, 43, 44, 45, 46, 47, 48, 49, 50, 51, 52, 53, 54, 55, 56, 57, 58, 59, 60, 61, 62, 63, 64, 65, 66, 67, 68, 69, 70, 71, 72, 73, 74, 75, 76, 77, 78, 79, 80, 81, 82, 83, 84, 85, 86, 14, 87, 7, 88, 89, 90, 91, 92, 93, 94, 95, 96, 97, 98, 99, 100, 101, 102, 103, 104, 105, 106, 107, 108, 109, 110, 111, 112, 113, 114, 115, 116, 117, 118, 119, 120, 121, 122, 123, 124, 125, 126, 127, 128, 129, 130, 131, 132, 133, 134, 135, 136, 137, 138, 139, 140, 141, 142, 143, 144, 145, 146, 147, 148, 149, 150, 151, 152, 153, 154, 21, 155, 156, 157, 158, 159, 160, 161, 162, 163, 164, 165, 166, 167, 168, 169, 170, 171, 172, 173, 174, 175, 176, 177, 178, 179, 180, 181, 182, 183, 184, 185, 186, 187, 188, 189, 190, 191, 192, 193, 194, 195, 196, 197, 198, 199, 200, 201, 202, 203, 204, 205, 206, 207, 208, 209, 210, 211, 212, 213, 214, 215, 216, 217, 218, 219, 220, 221, 222, 223, 224, 22, 225, 226, 227, 228, 229, 230, 231, 232, 233, 234, 235, 236, 237, 238, 239, 240, 241, 19, 242, 243, 244, 245, 250, 251, 252, 253, 254, 255, 256, 257, 258, 259, 260, 261, 262, 263, 264, 265, 266] (by decide +kernel) (by decide +kernel)
set_option maxRecDepth 20000 in
theorem gX4_ahead_X4_play : GoodIn wsX4_ahead (wsV RX4 169 RX4 yX4_play wsX4_play) := goodIn_app (goodIn_of _ (by decide +kernel)) ggX4_ahead_X4_play
set_option maxRecDepth 20000 in
theorem ggX4_ahead_X2_lifeOf : GoodIn wsX4_ahead wsX2_lifeOf := goodIn_r _ [249, 23, 35, 36, 37, 12, 38, 20, 254, 255, 256, 257, 258, 259, 260, 261] (by decide +kernel) (by decide +kernel)
set_option maxRecDepth 20000 in
theorem gX4_ahead_X2_lifeOf : GoodIn wsX4_ahead (wsV RX4 217 RX2 yX2_lifeOf wsX2_lifeOf) := goodIn_app (goodIn_of _ (by decide +kernel)) ggX4_ahead_X2_lifeOf
theorem dX4_ahead_0 : decode cX4_ahead 0 = .ok (.iload_n 1, 1) := by decide +kernel
theorem dX4_ahead_1 : decode cX4_ahead 1 = .ok (.iconst 1, 1) := by decide +kernel
theorem dX4_ahead_2 : decode cX4_ahead 2 = .ok (.bipush 40, 2) := by decide +kernel
theorem dX4_ahead_4 : decode cX4_ahead 4 = .ok (.invokestatic 33, 3) := by decide +kernel
theorem dX4_ahead_7 : decode cX4_ahead 7 = .ok (.ifCond .ne 13, 3) := by decide +kernel
theorem dX4_ahead_10 : decode cX4_ahead 10 = .ok (.new 37, 3) := by decide +kernel
theorem dX4_ahead_13 : decode cX4_ahead 13 = .ok (.dup, 1) := by decide +kernel
theorem dX4_ahead_14 : decode cX4_ahead 14 = .ok (.ldc 167, 2) := by decide +kernel
theorem dX4_ahead_16 : decode cX4_ahead 16 = .ok (.invokespecial 41, 3) := by decide +kernel
theorem dX4_ahead_19 : decode cX4_ahead 19 = .ok (.athrow, 1) := by decide +kernel
theorem dX4_ahead_20 : decode cX4_ahead 20 = .ok (.aload_n 0, 1) := by decide +kernel
theorem dX4_ahead_21 : decode cX4_ahead 21 = .ok (.getfield 12, 3) := by decide +kernel
theorem dX4_ahead_24 : decode cX4_ahead 24 = .ok (.astore_n 2, 1) := by decide +kernel
theorem dX4_ahead_25 : decode cX4_ahead 25 = .ok (.aload_n 0, 1) := by decide +kernel
theorem dX4_ahead_26 : decode cX4_ahead 26 = .ok (.getfield 16, 3) := by decide +kernel
theorem dX4_ahead_29 : decode cX4_ahead 29 = .ok (.aload_n 2, 1) := by decide +kernel
theorem dX4_ahead_30 : decode cX4_ahead 30 = .ok (.invokevirtual 197, 3) := by decide +kernel
theorem dX4_ahead_33 : decode cX4_ahead 33 = .ok (.aload_n 0, 1) := by decide +kernel
theorem dX4_ahead_34 : decode cX4_ahead 34 = .ok (.aload_n 0, 1) := by decide +kernel
theorem dX4_ahead_35 : decode cX4_ahead 35 = .ok (.getfield 16, 3) := by decide +kernel
theorem dX4_ahead_38 : decode cX4_ahead 38 = .ok (.putfield 12, 3) := by decide +kernel
theorem dX4_ahead_41 : decode cX4_ahead 41 = .ok (.aload_n 0, 1) := by decide +kernel
theorem dX4_ahead_42 : decode cX4_ahead 42 = .ok (.iload_n 1, 1) := by decide +kernel
theorem dX4_ahead_43 : decode cX4_ahead 43 = .ok (.invokevirtual 169, 3) := by decide +kernel
theorem dX4_ahead_46 : decode cX4_ahead 46 = .ok (.pop, 1) := by decide +kernel
theorem dX4_ahead_47 : decode cX4_ahead 47 = .ok (.aload_n 0, 1) := by decide +kernel
theorem dX4_ahead_48 : decode cX4_ahead 48 = .ok (.aload_n 2, 1) := by decide +kernel
theorem dX4_ahead_49 : decode cX4_ahead 49 = .ok (.putfield 12, 3) := by decide +kernel
theorem dX4_ahead_52 : decode cX4_ahead 52 = .ok (.aload_n 0, 1) := by decide +kernel
theorem dX4_ahead_53 : decode cX4_ahead 53 = .ok (.getfield 16, 3) := by decide +kernel
theorem dX4_ahead_56 : decode cX4_ahead 56 = .ok (.iconst 0, 1) := by decide +kernel
theorem dX4_ahead_57 : decode cX4_ahead 57 = .ok (.invokevirtual 217, 3) := by decide +kernel
theorem dX4_ahead_60 : decode cX4_ahead 60 = .ok (.aload_n 0, 1) := by decide +kernel
theorem dX4_ahead_61 : decode cX4_ahead 61 = .ok (.getfield 16, 3) := by decide +kernel
theorem dX4_ahead_64 : decode cX4_ahead 64 = .ok (.iconst 1, 1) := by decide +kernel
theorem dX4_ahead_65 : decode cX4_ahead 65 = .ok (.invokevirtual 217, 3) := by decide +kernel
theorem dX4_ahead_68 : decode cX4_ahead 68 = .ok (.isub, 1) := by decide +kernel
theorem dX4_ahead_69 : decode cX4_ahead 69 = .ok (.ireturn, 1) := by decide +kernel
set_option maxRecDepth 20000 in
theorem ggX4_danger_X4_isSide : GoodIn wsX4_danger wsX4_isSide := goodIn_r _ [9] (by decide +kernel) (by decide +kernel)
set_option maxRecDepth 20000 in
theorem gX4_danger_X4_isSide : GoodIn wsX4_danger (va_wsS RX4 85 yX4_isSide wsX4_isSide) := goodIn_app (goodIn_of _ (by decide +kernel)) ggX4_danger_X4_isSide
set_option maxRecDepth 20000 in
theorem ggX4_danger_X4_isCell : GoodIn wsX4_danger wsX4_isCell := goodIn_r _ [12] (by decide +kernel) (by decide +kernel)
set_option maxRecDepth 20000 in
theorem gX4_danger_X4_isCell : GoodIn wsX4_danger (va_wsS RX4 48 yX4_isCell wsX4_isCell) := goodIn_app (goodIn_of _ (by decide +kernel)) ggX4_danger_X4_isCell
set_option maxRecDepth 20000 in
theorem ggX4_danger_X2_watchersOf : GoodIn wsX4_danger wsX2_watchersOf := goodIn_r _ [17, 18, 19, 20, 21, 16, 22, 23, 24, 25, 26, 27, 28, 29, 30, 31, 32, 33, 34, 35, 36, 37, 38, 39, 40, 41, 42, 43, 44, 45, 46, 47, 48, 49, 50, 51, 52, 53, 54, 8, 55, 60, 61, 62, 63, 64, 65, 66, 67] (by decide +kernel) (by decide +kernel)
set_option maxRecDepth 20000 in
theorem gX4_danger_X2_watchersOf : GoodIn wsX4_danger (wsV RX4 220 RX2 yX2_watchersOf wsX2_watchersOf) := goodIn_app (goodIn_of _ (by decide +kernel)) ggX4_danger_X2_watchersOf
theorem dX4_danger_0 : decode cX4_danger 0 = .ok (.iload_n 1, 1) := by decide +kernel
theorem dX4_danger_1 : decode cX4_danger 1 = .ok (.invokestatic 85, 3) := by decide +kernel
theorem dX4_danger_4 : decode cX4_danger 4 = .ok (.ifCond .ne 13, 3) := by decide +kernel
theorem dX4_danger_7 : decode cX4_danger 7 = .ok (.new 37, 3) := by decide +kernel
theorem dX4_danger_10 : decode cX4_danger 10 = .ok (.dup, 1) := by decide +kernel
theorem dX4_danger_11 : decode cX4_danger 11 = .ok (.ldc 88, 2) := by decide +kernel
theorem dX4_danger_13 : decode cX4_danger 13 = .ok (.invokespecial 41, 3) := by decide +kernel
theorem dX4_danger_16 : decode cX4_danger 16 = .ok (.athrow, 1) := by decide +kernel
theorem dX4_danger_17 : decode cX4_danger 17 = .ok (.iload_n 2, 1) := by decide +kernel
theorem dX4_danger_18 : decode cX4_danger 18 = .ok (.invokestatic 48, 3) := by decide +kernel
theorem dX4_danger_21 : decode cX4_danger 21 = .ok (.ifCond .ne 13, 3) := by decide +kernel
theorem dX4_danger_24 : decode cX4_danger 24 = .ok (.new 52, 3) := by decide +kernel
theorem dX4_danger_27 : decode cX4_danger 27 = .ok (.dup, 1) := by decide +kernel
theorem dX4_danger_28 : decode cX4_danger 28 = .ok (.ldc 54, 2) := by decide +kernel
theorem dX4_danger_30 : decode cX4_danger 30 = .ok (.invokespecial 56, 3) := by decide +kernel
theorem dX4_danger_33 : decode cX4_danger 33 = .ok (.athrow, 1) := by decide +kernel
theorem dX4_danger_34 : decode cX4_danger 34 = .ok (.aload_n 0, 1) := by decide +kernel
theorem dX4_danger_35 : decode cX4_danger 35 = .ok (.getfield 12, 3) := by decide +kernel
theorem dX4_danger_38 : decode cX4_danger 38 = .ok (.iload_n 1, 1) := by decide +kernel
theorem dX4_danger_39 : decode cX4_danger 39 = .ok (.iload_n 2, 1) := by decide +kernel
theorem dX4_danger_40 : decode cX4_danger 40 = .ok (.invokevirtual 220, 3) := by decide +kernel
theorem dX4_danger_43 : decode cX4_danger 43 = .ok (.ireturn, 1) := by decide +kernel
set_option maxRecDepth 20000 in
theorem ggX4_meanLife_X2_living : GoodIn wsX4_meanLife wsX2_living := goodIn_r _ [6, 7, 8, 9, 10, 5, 11, 12, 13, 14, 15, 16, 25, 26, 27, 28, 29, 30, 31, 32] (by decide +kernel) (by decide +kernel)
set_option maxRecDepth 20000 in
theorem gX4_meanLife_X2_living : GoodIn wsX4_meanLife (wsV RX4 211 RX2 yX2_living wsX2_living) := goodIn_app (goodIn_of _ (by decide +kernel)) ggX4_meanLife_X2_living
set_option maxRecDepth 20000 in
theorem ggX4_meanLife_X2_lifeOf : GoodIn wsX4_meanLife wsX2_lifeOf := goodIn_r _ [20, 7, 8, 9, 10, 5, 11, 12, 25, 26, 27, 28, 29, 30, 31, 32] (by decide +kernel) (by decide +kernel)
set_option maxRecDepth 20000 in
theorem gX4_meanLife_X2_lifeOf : GoodIn wsX4_meanLife (wsV RX4 217 RX2 yX2_lifeOf wsX2_lifeOf) := goodIn_app (goodIn_of _ (by decide +kernel)) ggX4_meanLife_X2_lifeOf
theorem dX4_meanLife_0 : decode cX4_meanLife 0 = .ok (.aload_n 0, 1) := by decide +kernel
theorem dX4_meanLife_1 : decode cX4_meanLife 1 = .ok (.getfield 12, 3) := by decide +kernel
theorem dX4_meanLife_4 : decode cX4_meanLife 4 = .ok (.iconst 0, 1) := by decide +kernel
theorem dX4_meanLife_5 : decode cX4_meanLife 5 = .ok (.invokevirtual 211, 3) := by decide +kernel
theorem dX4_meanLife_8 : decode cX4_meanLife 8 = .ok (.aload_n 0, 1) := by decide +kernel
theorem dX4_meanLife_9 : decode cX4_meanLife 9 = .ok (.getfield 12, 3) := by decide +kernel
theorem dX4_meanLife_12 : decode cX4_meanLife 12 = .ok (.iconst 1, 1) := by decide +kernel
theorem dX4_meanLife_13 : decode cX4_meanLife 13 = .ok (.invokevirtual 211, 3) := by decide +kernel
theorem dX4_meanLife_16 : decode cX4_meanLife 16 = .ok (.iadd, 1) := by decide +kernel
theorem dX4_meanLife_17 : decode cX4_meanLife 17 = .ok (.istore_n 1, 1) := by decide +kernel
theorem dX4_meanLife_18 : decode cX4_meanLife 18 = .ok (.iload_n 1, 1) := by decide +kernel
theorem dX4_meanLife_19 : decode cX4_meanLife 19 = .ok (.ifCond .ne 5, 3) := by decide +kernel
theorem dX4_meanLife_22 : decode cX4_meanLife 22 = .ok (.dconst 0, 1) := by decide +kernel
theorem dX4_meanLife_23 : decode cX4_meanLife 23 = .ok (.dreturn, 1) := by decide +kernel
theorem dX4_meanLife_24 : decode cX4_meanLife 24 = .ok (.aload_n 0, 1) := by decide +kernel
theorem dX4_meanLife_25 : decode cX4_meanLife 25 = .ok (.getfield 12, 3) := by decide +kernel
theorem dX4_meanLife_28 : decode cX4_meanLife 28 = .ok (.iconst 0, 1) := by decide +kernel
theorem dX4_meanLife_29 : decode cX4_meanLife 29 = .ok (.invokevirtual 217, 3) := by decide +kernel
theorem dX4_meanLife_32 : decode cX4_meanLife 32 = .ok (.aload_n 0, 1) := by decide +kernel
theorem dX4_meanLife_33 : decode cX4_meanLife 33 = .ok (.getfield 12, 3) := by decide +kernel
theorem dX4_meanLife_36 : decode cX4_meanLife 36 = .ok (.iconst 1, 1) := by decide +kernel
theorem dX4_meanLife_37 : decode cX4_meanLife 37 = .ok (.invokevirtual 217, 3) := by decide +kernel
theorem dX4_meanLife_40 : decode cX4_meanLife 40 = .ok (.iadd, 1) := by decide +kernel
theorem dX4_meanLife_41 : decode cX4_meanLife 41 = .ok (.i2d, 1) := by decide +kernel
theorem dX4_meanLife_42 : decode cX4_meanLife 42 = .ok (.iload_n 1, 1) := by decide +kernel
theorem dX4_meanLife_43 : decode cX4_meanLife 43 = .ok (.i2d, 1) := by decide +kernel
theorem dX4_meanLife_44 : decode cX4_meanLife 44 = .ok (.ddiv, 1) := by decide +kernel
theorem dX4_meanLife_45 : decode cX4_meanLife 45 = .ok (.dreturn, 1) := by decide +kernel
set_option maxRecDepth 20000 in
theorem ggX4_digest_X4_countOf : GoodIn wsX4_digest wsX4_countOf := goodIn_r _ [8, 3, 9, 10, 11, 12, 13, 14, 15, 16, 17, 18, 19, 20, 21, 22, 23, 24, 25, 26, 27, 28, 29, 30, 31, 32, 33, 34, 35, 36, 37, 38, 39, 40, 41, 42, 43, 219, 220, 221, 222, 223, 224, 225, 226, 227, 228, 229, 230, 231, 232, 233] (by decide +kernel) (by decide +kernel)
set_option maxRecDepth 20000 in
theorem gX4_digest_X4_countOf : GoodIn wsX4_digest (wsV RX4 146 RX4 yX4_countOf wsX4_countOf) := goodIn_app (goodIn_of _ (by decide +kernel)) ggX4_digest_X4_countOf
set_option maxRecDepth 20000 in
theorem ggX4_digest_X2_kindAt : GoodIn wsX4_digest wsX2_kindAt := goodIn_r _ [47, 48, 223, 224, 225, 226, 227, 228, 229, 230] (by decide +kernel) (by decide +kernel)
set_option maxRecDepth 20000 in
theorem gX4_digest_X2_kindAt : GoodIn wsX4_digest (wsV RX4 74 RX2 yX2_kindAt wsX2_kindAt) := goodIn_app (goodIn_of _ (by decide +kernel)) ggX4_digest_X2_kindAt
set_option maxRecDepth 20000 in
theorem ggX4_digest_X2_isBeing : GoodIn wsX4_digest wsX2_isBeing := goodIn_r _ [52, 15, 223, 224, 225, 226, 227, 228, 229, 230] (by decide +kernel) (by decide +kernel)
set_option maxRecDepth 20000 in
theorem gX4_digest_X2_isBeing : GoodIn wsX4_digest (wsV RX4 105 RX2 yX2_isBeing wsX2_isBeing) := goodIn_app (goodIn_of _ (by decide +kernel)) ggX4_digest_X2_isBeing
set_option maxRecDepth 20000 in
theorem ggX4_digest_X4_digestOf : GoodIn wsX4_digest wsX4_digestOf := goodIn_r _ [56, 2, 3, 57, 58, 59, 60, 7, 61, 62, 63, 64, 13, 65, 16, 17, 18, 19, 20, 66, 67, 68, 69, 70, 71, 72, 73, 74, 75, 76, 77, 78, 79, 80, 81, 82, 83, 84, 85, 86, 87, 15, 21, 22, 23, 24, 88, 89, 90, 91, 92, 93, 94, 95, 96, 97, 98, 99, 100, 101, 102, 103, 104, 105, 106, 107, 108, 109, 110, 111, 112, 113, 45, 46, 47, 48, 114, 115, 116, 117, 118, 119, 120, 121, 122, 123, 124, 125, 126, 127, 128, 129, 130, 131, 132, 133, 134, 135, 136, 137, 138, 139, 140, 141, 142, 143, 144, 145, 146, 147, 148, 149, 150, 151, 152, 153, 154, 155, 156, 157, 158, 159, 160, 161, 162, 163, 164, 165, 166, 167, 168, 169, 170, 171, 172, 173, 174, 175, 176, 177, 178, 179, 180, 181, 182, 183, 184, 185, 186, 187, 188, 189, 190, 191, 192, 193, 194, 195, 196, 197, 198, 199, 200, 201, 202, 203, 204, 205, 206, 207, 208, 209, 210, 211, 212, 213, 214, 219, 220, 221, 222, 223, 224, 225, 226, 227, 228, 229, 230, 234, 235, 236, 237, 238] (by decide +kernel) (by decide +kernel)
set_option maxRecDepth 20000 in
theorem gX4_digest_X4_digestOf : GoodIn wsX4_digest (wsV RX4 227 RX4 yX4_digestOf wsX4_digestOf) := goodIn_app (goodIn_of _ (by decide +kernel)) ggX4_digest_X4_digestOf
set_option maxRecDepth 20000 in
theorem ggX4_digest_X2_whoseTurn : GoodIn wsX4_digest wsX2_whoseTurn := goodIn_r _ [28, 15, 21, 22, 23, 13, 24, 16, 17, 18, 19, 20, 223, 224, 225, 226, 227, 228, 229, 230] (by decide +kernel) (by decide +kernel)
set_option maxRecDepth 20000 in
theorem gX4_digest_X2_whoseTurn : GoodIn wsX4_digest (wsV RX4 151 RX2 yX2_whoseTurn wsX2_whoseTurn) := goodIn_app (goodIn_of _ (by decide +kernel)) ggX4_digest_X2_whoseTurn
set_option maxRecDepth 20000 in
theorem ggX4_digest_X2_trait : GoodIn wsX4_digest wsX2_trait := goodIn_r _ [19, 20, 223, 224, 225, 226, 227, 228, 229, 230] (by decide +kernel) (by decide +kernel)
set_option maxRecDepth 20000 in
theorem gX4_digest_X2_trait : GoodIn wsX4_digest (wsV RX4 112 RX2 yX2_trait wsX2_trait) := goodIn_app (goodIn_of _ (by decide +kernel)) ggX4_digest_X2_trait
set_option maxRecDepth 20000 in
theorem ggX4_digest_X2_watchersOf : GoodIn wsX4_digest wsX2_watchersOf := goodIn_r _ [218, 15, 21, 22, 23, 13, 24, 16, 17, 18, 19, 20, 102, 103, 104, 105, 92, 93, 94, 95, 96, 97, 98, 99, 100, 101, 106, 107, 108, 109, 110, 111, 112, 113, 45, 46, 47, 48, 114, 7, 115, 223, 224, 225, 226, 227, 228, 229, 230] (by decide +kernel) (by decide +kernel)
set_option maxRecDepth 20000 in
theorem gX4_digest_X2_watchersOf : GoodIn wsX4_digest (wsV RX4 220 RX2 yX2_watchersOf wsX2_watchersOf) := goodIn_app (goodIn_of _ (by decide +kernel)) ggX4_digest_X2_watchersOf
theorem dX4_digest_0 : decode cX4_digest 0 = .ok (.ldc2_w 223, 3) := by decide +kernel
theorem dX4_digest_3 : decode cX4_digest 3 = .ok (.lstore_n 1, 1) := by decide +kernel
theorem dX4_digest_4 : decode cX4_digest 4 = .ok (.iconst 0, 1) := by decide +kernel
theorem dX4_digest_5 : decode cX4_digest 5 = .ok (.istore_n 3, 1) := by decide +kernel
theorem dX4_digest_6 : decode cX4_digest 6 = .ok (.iload_n 3, 1) := by decide +kernel
theorem dX4_digest_7 : decode cX4_digest 7 = .ok (.bipush 8, 2) := by decide +kernel
theorem dX4_digest_9 : decode cX4_digest 9 = .ok (.if_icmp .gt 22, 3) := by decide +kernel
theorem dX4_digest_12 : decode cX4_digest 12 = .ok (.lload_n 1, 1) := by decide +kernel
theorem dX4_digest_13 : decode cX4_digest 13 = .ok (.ldc2_w 225, 3) := by decide +kernel
theorem dX4_digest_16 : decode cX4_digest 16 = .ok (.lmul, 1) := by decide +kernel
theorem dX4_digest_17 : decode cX4_digest 17 = .ok (.aload_n 0, 1) := by decide +kernel
theorem dX4_digest_18 : decode cX4_digest 18 = .ok (.iload_n 3, 1) := by decide +kernel
theorem dX4_digest_19 : decode cX4_digest 19 = .ok (.invokevirtual 146, 3) := by decide +kernel
theorem dX4_digest_22 : decode cX4_digest 22 = .ok (.i2l, 1) := by decide +kernel
theorem dX4_digest_23 : decode cX4_digest 23 = .ok (.ladd, 1) := by decide +kernel
theorem dX4_digest_24 : decode cX4_digest 24 = .ok (.lstore_n 1, 1) := by decide +kernel
theorem dX4_digest_25 : decode cX4_digest 25 = .ok (.iinc 3 1, 3) := by decide +kernel
theorem dX4_digest_28 : decode cX4_digest 28 = .ok (.goto (-22), 3) := by decide +kernel
theorem dX4_digest_31 : decode cX4_digest 31 = .ok (.iconst 0, 1) := by decide +kernel
theorem dX4_digest_32 : decode cX4_digest 32 = .ok (.istore_n 3, 1) := by decide +kernel
theorem dX4_digest_33 : decode cX4_digest 33 = .ok (.iload_n 3, 1) := by decide +kernel
theorem dX4_digest_34 : decode cX4_digest 34 = .ok (.sipush 160, 3) := by decide +kernel
theorem dX4_digest_37 : decode cX4_digest 37 = .ok (.if_icmp .ge 25, 3) := by decide +kernel
theorem dX4_digest_40 : decode cX4_digest 40 = .ok (.lload_n 1, 1) := by decide +kernel
theorem dX4_digest_41 : decode cX4_digest 41 = .ok (.ldc2_w 225, 3) := by decide +kernel
theorem dX4_digest_44 : decode cX4_digest 44 = .ok (.lmul, 1) := by decide +kernel
theorem dX4_digest_45 : decode cX4_digest 45 = .ok (.aload_n 0, 1) := by decide +kernel
theorem dX4_digest_46 : decode cX4_digest 46 = .ok (.getfield 12, 3) := by decide +kernel
theorem dX4_digest_49 : decode cX4_digest 49 = .ok (.iload_n 3, 1) := by decide +kernel
theorem dX4_digest_50 : decode cX4_digest 50 = .ok (.invokevirtual 74, 3) := by decide +kernel
theorem dX4_digest_53 : decode cX4_digest 53 = .ok (.i2l, 1) := by decide +kernel
theorem dX4_digest_54 : decode cX4_digest 54 = .ok (.ladd, 1) := by decide +kernel
theorem dX4_digest_55 : decode cX4_digest 55 = .ok (.lstore_n 1, 1) := by decide +kernel
theorem dX4_digest_56 : decode cX4_digest 56 = .ok (.iinc 3 1, 3) := by decide +kernel
theorem dX4_digest_59 : decode cX4_digest 59 = .ok (.goto (-26), 3) := by decide +kernel
theorem dX4_digest_62 : decode cX4_digest 62 = .ok (.iconst 0, 1) := by decide +kernel
theorem dX4_digest_63 : decode cX4_digest 63 = .ok (.istore_n 3, 1) := by decide +kernel
theorem dX4_digest_64 : decode cX4_digest 64 = .ok (.iload_n 3, 1) := by decide +kernel
theorem dX4_digest_65 : decode cX4_digest 65 = .ok (.bipush 10, 2) := by decide +kernel
theorem dX4_digest_67 : decode cX4_digest 67 = .ok (.if_icmp .ge 27, 3) := by decide +kernel
theorem dX4_digest_70 : decode cX4_digest 70 = .ok (.aload_n 0, 1) := by decide +kernel
theorem dX4_digest_71 : decode cX4_digest 71 = .ok (.getfield 12, 3) := by decide +kernel
theorem dX4_digest_74 : decode cX4_digest 74 = .ok (.iload_n 3, 1) := by decide +kernel
theorem dX4_digest_75 : decode cX4_digest 75 = .ok (.invokevirtual 105, 3) := by decide +kernel
theorem dX4_digest_78 : decode cX4_digest 78 = .ok (.ifCond .eq 16, 3) := by decide +kernel
theorem dX4_digest_81 : decode cX4_digest 81 = .ok (.aload_n 0, 1) := by decide +kernel
theorem dX4_digest_82 : decode cX4_digest 82 = .ok (.lload_n 1, 1) := by decide +kernel
theorem dX4_digest_83 : decode cX4_digest 83 = .ok (.iload_n 3, 1) := by decide +kernel
theorem dX4_digest_84 : decode cX4_digest 84 = .ok (.invokevirtual 227, 3) := by decide +kernel
theorem dX4_digest_87 : decode cX4_digest 87 = .ok (.lstore_n 1, 1) := by decide +kernel
theorem dX4_digest_88 : decode cX4_digest 88 = .ok (.iinc 3 1, 3) := by decide +kernel
theorem dX4_digest_91 : decode cX4_digest 91 = .ok (.goto (-27), 3) := by decide +kernel
theorem dX4_digest_94 : decode cX4_digest 94 = .ok (.aload_n 0, 1) := by decide +kernel
theorem dX4_digest_95 : decode cX4_digest 95 = .ok (.getfield 12, 3) := by decide +kernel
theorem dX4_digest_98 : decode cX4_digest 98 = .ok (.invokevirtual 151, 3) := by decide +kernel
theorem dX4_digest_101 : decode cX4_digest 101 = .ok (.istore_n 3, 1) := by decide +kernel
theorem dX4_digest_102 : decode cX4_digest 102 = .ok (.iload_n 3, 1) := by decide +kernel
theorem dX4_digest_103 : decode cX4_digest 103 = .ok (.iconst (-1), 1) := by decide +kernel
theorem dX4_digest_104 : decode cX4_digest 104 = .ok (.if_icmp .ne 7, 3) := by decide +kernel
theorem dX4_digest_107 : decode cX4_digest 107 = .ok (.lload_n 1, 1) := by decide +kernel
theorem dX4_digest_108 : decode cX4_digest 108 = .ok (.goto 27, 3) := by decide +kernel
theorem dX4_digest_111 : decode cX4_digest 111 = .ok (.lload_n 1, 1) := by decide +kernel
theorem dX4_digest_112 : decode cX4_digest 112 = .ok (.ldc2_w 225, 3) := by decide +kernel
theorem dX4_digest_115 : decode cX4_digest 115 = .ok (.lmul, 1) := by decide +kernel
theorem dX4_digest_116 : decode cX4_digest 116 = .ok (.aload_n 0, 1) := by decide +kernel
theorem dX4_digest_117 : decode cX4_digest 117 = .ok (.getfield 12, 3) := by decide +kernel
theorem dX4_digest_120 : decode cX4_digest 120 = .ok (.iconst 0, 1) := by decide +kernel
theorem dX4_digest_121 : decode cX4_digest 121 = .ok (.aload_n 0, 1) := by decide +kernel
theorem dX4_digest_122 : decode cX4_digest 122 = .ok (.getfield 12, 3) := by decide +kernel
theorem dX4_digest_125 : decode cX4_digest 125 = .ok (.iload_n 3, 1) := by decide +kernel
theorem dX4_digest_126 : decode cX4_digest 126 = .ok (.iconst 1, 1) := by decide +kernel
theorem dX4_digest_127 : decode cX4_digest 127 = .ok (.invokevirtual 112, 3) := by decide +kernel
theorem dX4_digest_130 : decode cX4_digest 130 = .ok (.invokevirtual 220, 3) := by decide +kernel
theorem dX4_digest_133 : decode cX4_digest 133 = .ok (.i2l, 1) := by decide +kernel
theorem dX4_digest_134 : decode cX4_digest 134 = .ok (.ladd, 1) := by decide +kernel
theorem dX4_digest_135 : decode cX4_digest 135 = .ok (.lreturn, 1) := by decide +kernel
set_option maxRecDepth 20000 in
theorem ggX4_answerOf_X2_isAfraid : GoodIn wsX4_answerOf wsX2_isAfraid := goodIn_r _ [6, 7, 8, 9, 5, 10, 11, 17, 18, 19, 20, 21, 22, 23, 24] (by decide +kernel) (by decide +kernel)
set_option maxRecDepth 20000 in
theorem gX4_answerOf_X2_isAfraid : GoodIn wsX4_answerOf (wsV RX4 231 RX2 yX2_isAfraid wsX2_isAfraid) := goodIn_app (goodIn_of _ (by decide +kernel)) ggX4_answerOf_X2_isAfraid
set_option maxRecDepth 20000 in
theorem ggX4_answerOf_X2_trait : GoodIn wsX4_answerOf wsX2_trait := goodIn_r _ [10, 11, 17, 18, 19, 20, 21, 22, 23, 24] (by decide +kernel) (by decide +kernel)
set_option maxRecDepth 20000 in
theorem gX4_answerOf_X2_trait : GoodIn wsX4_answerOf (wsV RX4 112 RX2 yX2_trait wsX2_trait) := goodIn_app (goodIn_of _ (by decide +kernel)) ggX4_answerOf_X2_trait
theorem dX4_answerOf_0 : decode cX4_answerOf 0 = .ok (.iload_n 2, 1) := by decide +kernel
theorem dX4_answerOf_1 : decode cX4_answerOf 1 = .ok (.bipush 9, 2) := by decide +kernel
theorem dX4_answerOf_3 : decode cX4_answerOf 3 = .ok (.if_icmp .ne 20, 3) := by decide +kernel
theorem dX4_answerOf_6 : decode cX4_answerOf 6 = .ok (.aload_n 0, 1) := by decide +kernel
theorem dX4_answerOf_7 : decode cX4_answerOf 7 = .ok (.getfield 12, 3) := by decide +kernel
theorem dX4_answerOf_10 : decode cX4_answerOf 10 = .ok (.iload_n 1, 1) := by decide +kernel
theorem dX4_answerOf_11 : decode cX4_answerOf 11 = .ok (.invokevirtual 231, 3) := by decide +kernel
theorem dX4_answerOf_14 : decode cX4_answerOf 14 = .ok (.ifCond .eq 7, 3) := by decide +kernel
theorem dX4_answerOf_17 : decode cX4_answerOf 17 = .ok (.iconst 1, 1) := by decide +kernel
theorem dX4_answerOf_18 : decode cX4_answerOf 18 = .ok (.goto 4, 3) := by decide +kernel
theorem dX4_answerOf_21 : decode cX4_answerOf 21 = .ok (.iconst 0, 1) := by decide +kernel
theorem dX4_answerOf_22 : decode cX4_answerOf 22 = .ok (.ireturn, 1) := by decide +kernel
theorem dX4_answerOf_23 : decode cX4_answerOf 23 = .ok (.aload_n 0, 1) := by decide +kernel
theorem dX4_answerOf_24 : decode cX4_answerOf 24 = .ok (.getfield 12, 3) := by decide +kernel
theorem dX4_answerOf_27 : decode cX4_answerOf 27 = .ok (.iload_n 1, 1) := by decide +kernel
theorem dX4_answerOf_28 : decode cX4_answerOf 28 = .ok (.iload_n 2, 1) := by decide +kernel
theorem dX4_answerOf_29 : decode cX4_answerOf 29 = .ok (.invokevirtual 112, 3) := by decide +kernel
theorem dX4_answerOf_32 : decode cX4_answerOf 32 = .ok (.ireturn, 1) := by decide +kernel
set_option maxRecDepth 20000 in
theorem ggX4_countOf_X2_living : GoodIn wsX4_countOf wsX2_living := goodIn_r _ [7, 8, 9, 10, 11, 6, 12, 13, 14, 15, 16, 17, 41, 42, 43, 44, 45, 46, 47, 48] (by decide +kernel) (by decide +kernel)
set_option maxRecDepth 20000 in
theorem gX4_countOf_X2_living : GoodIn wsX4_countOf (wsV RX4 211 RX2 yX2_living wsX2_living) := goodIn_app (goodIn_of _ (by decide +kernel)) ggX4_countOf_X2_living
set_option maxRecDepth 20000 in
theorem ggX4_countOf_X2_whoseTurn : GoodIn wsX4_countOf wsX2_whoseTurn := goodIn_r _ [21, 8, 14, 15, 16, 6, 17, 9, 10, 11, 12, 13, 41, 42, 43, 44, 45, 46, 47, 48] (by decide +kernel) (by decide +kernel)
set_option maxRecDepth 20000 in
theorem gX4_countOf_X2_whoseTurn : GoodIn wsX4_countOf (wsV RX4 151 RX2 yX2_whoseTurn wsX2_whoseTurn) := goodIn_app (goodIn_of _ (by decide +kernel)) ggX4_countOf_X2_whoseTurn
set_option maxRecDepth 20000 in
theorem ggX4_countOf_X2_knownCells : GoodIn wsX4_countOf wsX2_knownCells := goodIn_r _ [25, 26, 27, 28, 29, 6, 30, 41, 42, 43, 44, 45, 46, 47, 48] (by decide +kernel) (by decide +kernel)
set_option maxRecDepth 20000 in
theorem gX4_countOf_X2_knownCells : GoodIn wsX4_countOf (wsV RX4 244 RX2 yX2_knownCells wsX2_knownCells) := goodIn_app (goodIn_of _ (by decide +kernel)) ggX4_countOf_X2_knownCells
set_option maxRecDepth 20000 in
theorem ggX4_countOf_Jx4a65c_size_8abf5 : GoodIn wsX4_countOf wsJx4a65c_size_8abf5 := goodIn_r _ [35, 36, 49, 50, 51] (by decide +kernel) (by decide +kernel)
set_option maxRecDepth 20000 in
theorem gX4_countOf_Jx4a65c_size_8abf5_f190Jx4a65c : GoodIn wsX4_countOf (va_wsF RX4 190 RJx4a65c ⟨"java/util/List", "size", "()I"⟩ yJx4a65c_size_8abf5 wsJx4a65c_size_8abf5) := goodIn_app (goodIn_of _ (by decide +kernel)) ggX4_countOf_Jx4a65c_size_8abf5
theorem dX4_countOf_0 : decode cX4_countOf 0 = .ok (.iload_n 1, 1) := by decide +kernel
theorem dX4_countOf_1 : decode cX4_countOf 1 = .ok (.tableswitch 115 0 7 #[47, 55, 64, 73, 81, 89, 97, 106], 47) := by decide +kernel
theorem dX4_countOf_48 : decode cX4_countOf 48 = .ok (.aload_n 0, 1) := by decide +kernel
theorem dX4_countOf_49 : decode cX4_countOf 49 = .ok (.getfield 12, 3) := by decide +kernel
theorem dX4_countOf_52 : decode cX4_countOf 52 = .ok (.getfield 234, 3) := by decide +kernel
theorem dX4_countOf_55 : decode cX4_countOf 55 = .ok (.ireturn, 1) := by decide +kernel
theorem dX4_countOf_56 : decode cX4_countOf 56 = .ok (.aload_n 0, 1) := by decide +kernel
theorem dX4_countOf_57 : decode cX4_countOf 57 = .ok (.getfield 12, 3) := by decide +kernel
theorem dX4_countOf_60 : decode cX4_countOf 60 = .ok (.iconst 0, 1) := by decide +kernel
theorem dX4_countOf_61 : decode cX4_countOf 61 = .ok (.invokevirtual 211, 3) := by decide +kernel
theorem dX4_countOf_64 : decode cX4_countOf 64 = .ok (.ireturn, 1) := by decide +kernel
theorem dX4_countOf_65 : decode cX4_countOf 65 = .ok (.aload_n 0, 1) := by decide +kernel
theorem dX4_countOf_66 : decode cX4_countOf 66 = .ok (.getfield 12, 3) := by decide +kernel
theorem dX4_countOf_69 : decode cX4_countOf 69 = .ok (.iconst 1, 1) := by decide +kernel
theorem dX4_countOf_70 : decode cX4_countOf 70 = .ok (.invokevirtual 211, 3) := by decide +kernel
theorem dX4_countOf_73 : decode cX4_countOf 73 = .ok (.ireturn, 1) := by decide +kernel
theorem dX4_countOf_74 : decode cX4_countOf 74 = .ok (.aload_n 0, 1) := by decide +kernel
theorem dX4_countOf_75 : decode cX4_countOf 75 = .ok (.getfield 12, 3) := by decide +kernel
theorem dX4_countOf_78 : decode cX4_countOf 78 = .ok (.invokevirtual 151, 3) := by decide +kernel
theorem dX4_countOf_81 : decode cX4_countOf 81 = .ok (.ireturn, 1) := by decide +kernel
theorem dX4_countOf_82 : decode cX4_countOf 82 = .ok (.aload_n 0, 1) := by decide +kernel
theorem dX4_countOf_83 : decode cX4_countOf 83 = .ok (.getfield 12, 3) := by decide +kernel
theorem dX4_countOf_86 : decode cX4_countOf 86 = .ok (.getfield 238, 3) := by decide +kernel
theorem dX4_countOf_89 : decode cX4_countOf 89 = .ok (.ireturn, 1) := by decide +kernel
theorem dX4_countOf_90 : decode cX4_countOf 90 = .ok (.aload_n 0, 1) := by decide +kernel
theorem dX4_countOf_91 : decode cX4_countOf 91 = .ok (.getfield 12, 3) := by decide +kernel
theorem dX4_countOf_94 : decode cX4_countOf 94 = .ok (.getfield 241, 3) := by decide +kernel
theorem dX4_countOf_97 : decode cX4_countOf 97 = .ok (.ireturn, 1) := by decide +kernel
theorem dX4_countOf_98 : decode cX4_countOf 98 = .ok (.aload_n 0, 1) := by decide +kernel
theorem dX4_countOf_99 : decode cX4_countOf 99 = .ok (.getfield 12, 3) := by decide +kernel
theorem dX4_countOf_102 : decode cX4_countOf 102 = .ok (.iconst 0, 1) := by decide +kernel
theorem dX4_countOf_103 : decode cX4_countOf 103 = .ok (.invokevirtual 244, 3) := by decide +kernel
theorem dX4_countOf_106 : decode cX4_countOf 106 = .ok (.ireturn, 1) := by decide +kernel
theorem dX4_countOf_107 : decode cX4_countOf 107 = .ok (.aload_n 0, 1) := by decide +kernel
theorem dX4_countOf_108 : decode cX4_countOf 108 = .ok (.getfield 12, 3) := by decide +kernel
theorem dX4_countOf_111 : decode cX4_countOf 111 = .ok (.iconst 1, 1) := by decide +kernel
theorem dX4_countOf_112 : decode cX4_countOf 112 = .ok (.invokevirtual 244, 3) := by decide +kernel
theorem dX4_countOf_115 : decode cX4_countOf 115 = .ok (.ireturn, 1) := by decide +kernel
theorem dX4_countOf_116 : decode cX4_countOf 116 = .ok (.aload_n 0, 1) := by decide +kernel
theorem dX4_countOf_117 : decode cX4_countOf 117 = .ok (.getfield 22, 3) := by decide +kernel
theorem dX4_countOf_120 : decode cX4_countOf 120 = .ok (.invokeinterface 190 1, 5) := by decide +kernel
theorem dX4_countOf_125 : decode cX4_countOf 125 = .ok (.ireturn, 1) := by decide +kernel
set_option maxRecDepth 20000 in
theorem ggX4_play_X2_living : GoodIn wsX4_play wsX2_living := goodIn_r _ [7, 8, 9, 10, 11, 6, 12, 13, 14, 15, 16, 17, 230, 231, 232, 233, 234, 235, 236, 237] (by decide +kernel) (by decide +kernel)
set_option maxRecDepth 20000 in
theorem gX4_play_X2_living : GoodIn wsX4_play (wsV RX4 211 RX2 yX2_living wsX2_living) := goodIn_app (goodIn_of _ (by decide +kernel)) ggX4_play_X2_living
set_option maxRecDepth 20000 in
theorem ggX4_play_X2_whoseTurn : GoodIn wsX4_play wsX2_whoseTurn := goodIn_r _ [21, 8, 14, 15, 16, 6, 17, 9, 10, 11, 12, 13, 230, 231, 232, 233, 234, 235, 236, 237] (by decide +kernel) (by decide +kernel)
set_option maxRecDepth 20000 in
theorem gX4_play_X2_whoseTurn : GoodIn wsX4_play (wsV RX4 151 RX2 yX2_whoseTurn wsX2_whoseTurn) := goodIn_app (goodIn_of _ (by decide +kernel)) ggX4_play_X2_whoseTurn
set_option maxRecDepth 20000 in
theorem ggX4_play_X0_weigh : GoodIn wsX4_play wsX0_weigh := goodIn_r _ [26, 27, 28, 29, 30, 31, 6, 32, 8, 14, 15, 16, 17, 9, 10, 11, 12, 13, 33, 34, 35, 36, 37, 38, 39, 40, 41, 42, 43, 44, 45, 46, 47, 48, 49, 50, 51, 52, 53, 54, 55, 56, 57, 58, 59, 60, 61, 62, 63, 64, 65, 66, 67, 68, 69, 70, 71, 72, 73, 74, 75, 76, 77, 78, 79, 80, 81, 82, 83, 84, 85, 86, 87, 88, 89, 90, 91, 92, 93, 94, 95, 96, 97, 98, 99, 100, 101, 102, 103, 104, 105, 106, 107, 108, 109, 110, 111, 112, 113, 114, 115, 116, 117, 118, 119, 120, 121, 122, 123, 124, 125, 126, 25, 127, 128, 129, 130, 131, 132, 133, 134, 135, 136, 137, 138, 139, 140, 141, 142, 143, 144, 145, 146, 147, 148, 149, 150, 151, 152, 153, 154, 155, 156, 157, 158, 159, 160, 161, 162, 238, 239, 230, 231, 232, 233, 234, 235, 236, 237, 240, 241, 242] (by decide +kernel) (by decide +kernel)
set_option maxRecDepth 20000 in
theorem gX4_play_X0_weigh : GoodIn wsX4_play (wsV RX4 180 RX0 yX0_weigh wsX0_weigh) := goodIn_app (goodIn_of _ (by decide +kernel)) ggX4_play_X0_weigh
set_option maxRecDepth 20000 in
theorem ggX4_play_X0_best : GoodIn wsX4_play wsX0_best := goodIn_r _ [166, 28, 238, 239] (by decide +kernel) (by decide +kernel)
set_option maxRecDepth 20000 in
theorem gX4_play_X0_best : GoodIn wsX4_play (wsV RX4 187 RX0 yX0_best wsX0_best) := goodIn_app (goodIn_of _ (by decide +kernel)) ggX4_play_X0_best
set_option maxRecDepth 20000 in
theorem ggX4_play_X1_perform : GoodIn wsX4_play wsX1_perform := goodIn_r _ [169, 170, 171, 42, 172, 173, 129, 130, 6, 131, 132, 113, 10, 11, 12, 13, 174, 175, 176, 177, 110, 111, 107, 112, 178, 179, 180, 118, 119, 120, 121, 8, 9, 181, 153, 154, 155, 44, 45, 46, 14, 15, 16, 17, 156, 182, 183, 184, 185, 186, 187, 117, 59, 60, 61, 62, 188, 189, 190, 191, 192, 193, 194, 123, 30, 31, 32, 33, 34, 35, 36, 37, 38, 39, 40, 41, 43, 47, 48, 49, 50, 51, 52, 53, 54, 55, 56, 57, 58, 63, 64, 65, 195, 196, 197, 198, 199, 200, 201, 202, 203, 204, 205, 206, 207, 208, 209, 210, 211, 109, 212, 213, 214, 215, 216, 217, 218, 219, 220, 221, 222, 223, 224, 225, 230, 231, 232, 233, 234, 235, 236, 237] (by decide +kernel) (by decide +kernel)
set_option maxRecDepth 20000 in
theorem gX4_play_X1_perform : GoodIn wsX4_play (va_wsS RX4 163 yX1_perform wsX1_perform) := goodIn_app (goodIn_of _ (by decide +kernel)) ggX4_play_X1_perform
theorem dX4_play_0 : decode cX4_play 0 = .ok (.iconst 0, 1) := by decide +kernel
theorem dX4_play_1 : decode cX4_play 1 = .ok (.istore_n 2, 1) := by decide +kernel
theorem dX4_play_2 : decode cX4_play 2 = .ok (.iload_n 2, 1) := by decide +kernel
theorem dX4_play_3 : decode cX4_play 3 = .ok (.iload_n 1, 1) := by decide +kernel
theorem dX4_play_4 : decode cX4_play 4 = .ok (.if_icmp .ge 67, 3) := by decide +kernel
theorem dX4_play_7 : decode cX4_play 7 = .ok (.aload_n 0, 1) := by decide +kernel
theorem dX4_play_8 : decode cX4_play 8 = .ok (.getfield 12, 3) := by decide +kernel
theorem dX4_play_11 : decode cX4_play 11 = .ok (.iconst 0, 1) := by decide +kernel
theorem dX4_play_12 : decode cX4_play 12 = .ok (.invokevirtual 211, 3) := by decide +kernel
theorem dX4_play_15 : decode cX4_play 15 = .ok (.ifCond .le 56, 3) := by decide +kernel
theorem dX4_play_18 : decode cX4_play 18 = .ok (.aload_n 0, 1) := by decide +kernel
theorem dX4_play_19 : decode cX4_play 19 = .ok (.getfield 12, 3) := by decide +kernel
theorem dX4_play_22 : decode cX4_play 22 = .ok (.iconst 1, 1) := by decide +kernel
theorem dX4_play_23 : decode cX4_play 23 = .ok (.invokevirtual 211, 3) := by decide +kernel
theorem dX4_play_26 : decode cX4_play 26 = .ok (.ifCond .le 45, 3) := by decide +kernel
theorem dX4_play_29 : decode cX4_play 29 = .ok (.aload_n 0, 1) := by decide +kernel
theorem dX4_play_30 : decode cX4_play 30 = .ok (.getfield 12, 3) := by decide +kernel
theorem dX4_play_33 : decode cX4_play 33 = .ok (.invokevirtual 151, 3) := by decide +kernel
theorem dX4_play_36 : decode cX4_play 36 = .ok (.istore_n 3, 1) := by decide +kernel
theorem dX4_play_37 : decode cX4_play 37 = .ok (.aload_n 0, 1) := by decide +kernel
theorem dX4_play_38 : decode cX4_play 38 = .ok (.getfield 29, 3) := by decide +kernel
theorem dX4_play_41 : decode cX4_play 41 = .ok (.aload_n 0, 1) := by decide +kernel
theorem dX4_play_42 : decode cX4_play 42 = .ok (.getfield 12, 3) := by decide +kernel
theorem dX4_play_45 : decode cX4_play 45 = .ok (.iload_n 3, 1) := by decide +kernel
theorem dX4_play_46 : decode cX4_play 46 = .ok (.invokevirtual 180, 3) := by decide +kernel
theorem dX4_play_49 : decode cX4_play 49 = .ok (.aload_n 0, 1) := by decide +kernel
theorem dX4_play_50 : decode cX4_play 50 = .ok (.getfield 12, 3) := by decide +kernel
theorem dX4_play_53 : decode cX4_play 53 = .ok (.iload_n 3, 1) := by decide +kernel
theorem dX4_play_54 : decode cX4_play 54 = .ok (.aload_n 0, 1) := by decide +kernel
theorem dX4_play_55 : decode cX4_play 55 = .ok (.getfield 29, 3) := by decide +kernel
theorem dX4_play_58 : decode cX4_play 58 = .ok (.invokevirtual 187, 3) := by decide +kernel
theorem dX4_play_61 : decode cX4_play 61 = .ok (.invokestatic 163, 3) := by decide +kernel
theorem dX4_play_64 : decode cX4_play 64 = .ok (.pop, 1) := by decide +kernel
theorem dX4_play_65 : decode cX4_play 65 = .ok (.iinc 2 1, 3) := by decide +kernel
theorem dX4_play_68 : decode cX4_play 68 = .ok (.goto (-66), 3) := by decide +kernel
theorem dX4_play_71 : decode cX4_play 71 = .ok (.iload_n 2, 1) := by decide +kernel
theorem dX4_play_72 : decode cX4_play 72 = .ok (.ireturn, 1) := by decide +kernel
set_option maxRecDepth 20000 in
theorem ggX4_digestOf_X4_answerOf : GoodIn wsX4_digestOf wsX4_answerOf := goodIn_r _ [8, 2, 9, 10, 11, 12, 13, 14, 15, 16, 17, 18, 19, 177, 178, 179, 180, 181, 182, 183, 184, 185, 186, 187, 188] (by decide +kernel) (by decide +kernel)
set_option maxRecDepth 20000 in
theorem gX4_digestOf_X4_answerOf : GoodIn wsX4_digestOf (wsV RX4 136 RX4 yX4_answerOf wsX4_answerOf) := goodIn_app (goodIn_of _ (by decide +kernel)) ggX4_digestOf_X4_answerOf
set_option maxRecDepth 20000 in
theorem ggX4_digestOf_X2_stackOf : GoodIn wsX4_digestOf wsX2_stackOf := goodIn_r _ [23, 24, 181, 182, 183, 184, 185, 186, 187, 188] (by decide +kernel) (by decide +kernel)
set_option maxRecDepth 20000 in
theorem gX4_digestOf_X2_stackOf : GoodIn wsX4_digestOf (wsV RX4 131 RX2 yX2_stackOf wsX2_stackOf) := goodIn_app (goodIn_of _ (by decide +kernel)) ggX4_digestOf_X2_stackOf
set_option maxRecDepth 20000 in
theorem ggX4_digestOf_X2_turnsOf : GoodIn wsX4_digestOf wsX2_turnsOf := goodIn_r _ [28, 29, 181, 182, 183, 184, 185, 186, 187, 188] (by decide +kernel) (by decide +kernel)
set_option maxRecDepth 20000 in
theorem gX4_digestOf_X2_turnsOf : GoodIn wsX4_digestOf (wsV RX4 141 RX2 yX2_turnsOf wsX2_turnsOf) := goodIn_app (goodIn_of _ (by decide +kernel)) ggX4_digestOf_X2_turnsOf
set_option maxRecDepth 20000 in
theorem ggX4_digestOf_X0_weigh : GoodIn wsX4_digestOf wsX0_weigh := goodIn_r _ [34, 35, 36, 37, 38, 39, 12, 40, 41, 42, 43, 44, 45, 14, 15, 16, 17, 18, 46, 47, 48, 49, 50, 51, 52, 53, 54, 55, 56, 57, 58, 59, 60, 61, 62, 63, 64, 65, 66, 67, 68, 69, 70, 71, 72, 73, 74, 75, 76, 7, 77, 78, 79, 80, 81, 82, 83, 84, 85, 86, 87, 88, 89, 90, 91, 92, 93, 94, 95, 96, 97, 98, 99, 100, 101, 102, 103, 104, 105, 106, 107, 108, 109, 110, 111, 112, 113, 114, 115, 116, 117, 118, 119, 120, 121, 122, 123, 124, 125, 126, 127, 128, 129, 130, 131, 132, 133, 134, 135, 136, 137, 138, 33, 139, 140, 21, 22, 23, 24, 141, 142, 143, 144, 145, 10, 11, 13, 146, 147, 148, 149, 150, 151, 152, 153, 154, 155, 156, 157, 158, 159, 160, 161, 162, 163, 164, 165, 166, 167, 189, 190, 181, 182, 183, 184, 185, 186, 187, 188, 191, 192, 193] (by decide +kernel) (by decide +kernel)
set_option maxRecDepth 20000 in
theorem gX4_digestOf_X0_weigh : GoodIn wsX4_digestOf (wsV RX4 180 RX0 yX0_weigh wsX0_weigh) := goodIn_app (goodIn_of _ (by decide +kernel)) ggX4_digestOf_X0_weigh
set_option maxRecDepth 20000 in
theorem ggX4_digestOf_X2_targetOf : GoodIn wsX4_digestOf wsX2_targetOf := goodIn_r _ [40, 41, 42, 43, 44, 12, 45, 14, 15, 16, 17, 18, 46, 47, 48, 49, 50, 51, 52, 53, 54, 55, 56, 57, 58, 59, 60, 61, 62, 63, 64, 65, 66, 67, 68, 69, 70, 71, 72, 73, 74, 75, 76, 7, 77, 181, 182, 183, 184, 185, 186, 187, 188] (by decide +kernel) (by decide +kernel)
set_option maxRecDepth 20000 in
theorem gX4_digestOf_X2_targetOf : GoodIn wsX4_digestOf (wsV RX4 172 RX2 yX2_targetOf wsX2_targetOf) := goodIn_app (goodIn_of _ (by decide +kernel)) ggX4_digestOf_X2_targetOf
set_option maxRecDepth 20000 in
theorem ggX4_digestOf_X0_best : GoodIn wsX4_digestOf wsX0_best := goodIn_r _ [172, 36, 189, 190] (by decide +kernel) (by decide +kernel)
set_option maxRecDepth 20000 in
theorem gX4_digestOf_X0_best : GoodIn wsX4_digestOf (wsV RX4 187 RX0 yX0_best wsX0_best) := goodIn_app (goodIn_of _ (by decide +kernel)) ggX4_digestOf_X0_best
set_option maxRecDepth 20000 in
theorem ggX4_digestOf_X0_worthOf : GoodIn wsX4_digestOf wsX0_worthOf := goodIn_r _ [176, 36, 189, 190] (by decide +kernel) (by decide +kernel)
set_option maxRecDepth 20000 in
theorem gX4_digestOf_X0_worthOf : GoodIn wsX4_digestOf (wsV RX4 184 RX0 yX0_worthOf wsX0_worthOf) := goodIn_app (goodIn_of _ (by decide +kernel)) ggX4_digestOf_X0_worthOf
theorem dX4_digestOf_0 : decode cX4_digestOf 0 = .ok (.lload_n 1, 1) := by decide +kernel
theorem dX4_digestOf_1 : decode cX4_digestOf 1 = .ok (.lstore 4, 2) := by decide +kernel
theorem dX4_digestOf_3 : decode cX4_digestOf 3 = .ok (.iconst 0, 1) := by decide +kernel
theorem dX4_digestOf_4 : decode cX4_digestOf 4 = .ok (.istore 6, 2) := by decide +kernel
theorem dX4_digestOf_6 : decode cX4_digestOf 6 = .ok (.iload 6, 2) := by decide +kernel
theorem dX4_digestOf_8 : decode cX4_digestOf 8 = .ok (.bipush 9, 2) := by decide +kernel
theorem dX4_digestOf_10 : decode cX4_digestOf 10 = .ok (.if_icmp .gt 26, 3) := by decide +kernel
theorem dX4_digestOf_13 : decode cX4_digestOf 13 = .ok (.lload 4, 2) := by decide +kernel
theorem dX4_digestOf_15 : decode cX4_digestOf 15 = .ok (.ldc2_w 225, 3) := by decide +kernel
theorem dX4_digestOf_18 : decode cX4_digestOf 18 = .ok (.lmul, 1) := by decide +kernel
theorem dX4_digestOf_19 : decode cX4_digestOf 19 = .ok (.aload_n 0, 1) := by decide +kernel
theorem dX4_digestOf_20 : decode cX4_digestOf 20 = .ok (.iload_n 3, 1) := by decide +kernel
theorem dX4_digestOf_21 : decode cX4_digestOf 21 = .ok (.iload 6, 2) := by decide +kernel
theorem dX4_digestOf_23 : decode cX4_digestOf 23 = .ok (.invokevirtual 136, 3) := by decide +kernel
theorem dX4_digestOf_26 : decode cX4_digestOf 26 = .ok (.i2l, 1) := by decide +kernel
theorem dX4_digestOf_27 : decode cX4_digestOf 27 = .ok (.ladd, 1) := by decide +kernel
theorem dX4_digestOf_28 : decode cX4_digestOf 28 = .ok (.lstore 4, 2) := by decide +kernel
theorem dX4_digestOf_30 : decode cX4_digestOf 30 = .ok (.iinc 6 1, 3) := by decide +kernel
theorem dX4_digestOf_33 : decode cX4_digestOf 33 = .ok (.goto (-27), 3) := by decide +kernel
theorem dX4_digestOf_36 : decode cX4_digestOf 36 = .ok (.iconst 0, 1) := by decide +kernel
theorem dX4_digestOf_37 : decode cX4_digestOf 37 = .ok (.istore 6, 2) := by decide +kernel
theorem dX4_digestOf_39 : decode cX4_digestOf 39 = .ok (.iload 6, 2) := by decide +kernel
theorem dX4_digestOf_41 : decode cX4_digestOf 41 = .ok (.iconst 5, 1) := by decide +kernel
theorem dX4_digestOf_42 : decode cX4_digestOf 42 = .ok (.if_icmp .ge 49, 3) := by decide +kernel
theorem dX4_digestOf_45 : decode cX4_digestOf 45 = .ok (.lload 4, 2) := by decide +kernel
theorem dX4_digestOf_47 : decode cX4_digestOf 47 = .ok (.ldc2_w 225, 3) := by decide +kernel
theorem dX4_digestOf_50 : decode cX4_digestOf 50 = .ok (.lmul, 1) := by decide +kernel
theorem dX4_digestOf_51 : decode cX4_digestOf 51 = .ok (.aload_n 0, 1) := by decide +kernel
theorem dX4_digestOf_52 : decode cX4_digestOf 52 = .ok (.getfield 12, 3) := by decide +kernel
theorem dX4_digestOf_55 : decode cX4_digestOf 55 = .ok (.iload_n 3, 1) := by decide +kernel
theorem dX4_digestOf_56 : decode cX4_digestOf 56 = .ok (.iload 6, 2) := by decide +kernel
theorem dX4_digestOf_58 : decode cX4_digestOf 58 = .ok (.invokevirtual 131, 3) := by decide +kernel
theorem dX4_digestOf_61 : decode cX4_digestOf 61 = .ok (.i2l, 1) := by decide +kernel
theorem dX4_digestOf_62 : decode cX4_digestOf 62 = .ok (.ladd, 1) := by decide +kernel
theorem dX4_digestOf_63 : decode cX4_digestOf 63 = .ok (.lstore 4, 2) := by decide +kernel
theorem dX4_digestOf_65 : decode cX4_digestOf 65 = .ok (.lload 4, 2) := by decide +kernel
theorem dX4_digestOf_67 : decode cX4_digestOf 67 = .ok (.ldc2_w 225, 3) := by decide +kernel
theorem dX4_digestOf_70 : decode cX4_digestOf 70 = .ok (.lmul, 1) := by decide +kernel
theorem dX4_digestOf_71 : decode cX4_digestOf 71 = .ok (.aload_n 0, 1) := by decide +kernel
theorem dX4_digestOf_72 : decode cX4_digestOf 72 = .ok (.getfield 12, 3) := by decide +kernel
theorem dX4_digestOf_75 : decode cX4_digestOf 75 = .ok (.iload_n 3, 1) := by decide +kernel
theorem dX4_digestOf_76 : decode cX4_digestOf 76 = .ok (.iload 6, 2) := by decide +kernel
theorem dX4_digestOf_78 : decode cX4_digestOf 78 = .ok (.invokevirtual 141, 3) := by decide +kernel
theorem dX4_digestOf_81 : decode cX4_digestOf 81 = .ok (.i2l, 1) := by decide +kernel
theorem dX4_digestOf_82 : decode cX4_digestOf 82 = .ok (.ladd, 1) := by decide +kernel
theorem dX4_digestOf_83 : decode cX4_digestOf 83 = .ok (.lstore 4, 2) := by decide +kernel
theorem dX4_digestOf_85 : decode cX4_digestOf 85 = .ok (.iinc 6 1, 3) := by decide +kernel
theorem dX4_digestOf_88 : decode cX4_digestOf 88 = .ok (.goto (-49), 3) := by decide +kernel
theorem dX4_digestOf_91 : decode cX4_digestOf 91 = .ok (.aload_n 0, 1) := by decide +kernel
theorem dX4_digestOf_92 : decode cX4_digestOf 92 = .ok (.getfield 29, 3) := by decide +kernel
theorem dX4_digestOf_95 : decode cX4_digestOf 95 = .ok (.aload_n 0, 1) := by decide +kernel
theorem dX4_digestOf_96 : decode cX4_digestOf 96 = .ok (.getfield 12, 3) := by decide +kernel
theorem dX4_digestOf_99 : decode cX4_digestOf 99 = .ok (.iload_n 3, 1) := by decide +kernel
theorem dX4_digestOf_100 : decode cX4_digestOf 100 = .ok (.invokevirtual 180, 3) := by decide +kernel
theorem dX4_digestOf_103 : decode cX4_digestOf 103 = .ok (.lload 4, 2) := by decide +kernel
theorem dX4_digestOf_105 : decode cX4_digestOf 105 = .ok (.ldc2_w 225, 3) := by decide +kernel
theorem dX4_digestOf_108 : decode cX4_digestOf 108 = .ok (.lmul, 1) := by decide +kernel
theorem dX4_digestOf_109 : decode cX4_digestOf 109 = .ok (.aload_n 0, 1) := by decide +kernel
theorem dX4_digestOf_110 : decode cX4_digestOf 110 = .ok (.getfield 12, 3) := by decide +kernel
theorem dX4_digestOf_113 : decode cX4_digestOf 113 = .ok (.iload_n 3, 1) := by decide +kernel
theorem dX4_digestOf_114 : decode cX4_digestOf 114 = .ok (.invokevirtual 172, 3) := by decide +kernel
theorem dX4_digestOf_117 : decode cX4_digestOf 117 = .ok (.i2l, 1) := by decide +kernel
theorem dX4_digestOf_118 : decode cX4_digestOf 118 = .ok (.ladd, 1) := by decide +kernel
theorem dX4_digestOf_119 : decode cX4_digestOf 119 = .ok (.lstore 4, 2) := by decide +kernel
theorem dX4_digestOf_121 : decode cX4_digestOf 121 = .ok (.lload 4, 2) := by decide +kernel
theorem dX4_digestOf_123 : decode cX4_digestOf 123 = .ok (.ldc2_w 225, 3) := by decide +kernel
theorem dX4_digestOf_126 : decode cX4_digestOf 126 = .ok (.lmul, 1) := by decide +kernel
theorem dX4_digestOf_127 : decode cX4_digestOf 127 = .ok (.aload_n 0, 1) := by decide +kernel
theorem dX4_digestOf_128 : decode cX4_digestOf 128 = .ok (.getfield 29, 3) := by decide +kernel
theorem dX4_digestOf_131 : decode cX4_digestOf 131 = .ok (.invokevirtual 187, 3) := by decide +kernel
theorem dX4_digestOf_134 : decode cX4_digestOf 134 = .ok (.i2l, 1) := by decide +kernel
theorem dX4_digestOf_135 : decode cX4_digestOf 135 = .ok (.ladd, 1) := by decide +kernel
theorem dX4_digestOf_136 : decode cX4_digestOf 136 = .ok (.lstore 4, 2) := by decide +kernel
theorem dX4_digestOf_138 : decode cX4_digestOf 138 = .ok (.iconst 0, 1) := by decide +kernel
theorem dX4_digestOf_139 : decode cX4_digestOf 139 = .ok (.istore 6, 2) := by decide +kernel
theorem dX4_digestOf_141 : decode cX4_digestOf 141 = .ok (.iload 6, 2) := by decide +kernel
theorem dX4_digestOf_143 : decode cX4_digestOf 143 = .ok (.bipush 8, 2) := by decide +kernel
theorem dX4_digestOf_145 : decode cX4_digestOf 145 = .ok (.if_icmp .ge 28, 3) := by decide +kernel
theorem dX4_digestOf_148 : decode cX4_digestOf 148 = .ok (.lload 4, 2) := by decide +kernel
theorem dX4_digestOf_150 : decode cX4_digestOf 150 = .ok (.ldc2_w 225, 3) := by decide +kernel
theorem dX4_digestOf_153 : decode cX4_digestOf 153 = .ok (.lmul, 1) := by decide +kernel
theorem dX4_digestOf_154 : decode cX4_digestOf 154 = .ok (.aload_n 0, 1) := by decide +kernel
theorem dX4_digestOf_155 : decode cX4_digestOf 155 = .ok (.getfield 29, 3) := by decide +kernel
theorem dX4_digestOf_158 : decode cX4_digestOf 158 = .ok (.iload 6, 2) := by decide +kernel
theorem dX4_digestOf_160 : decode cX4_digestOf 160 = .ok (.invokevirtual 184, 3) := by decide +kernel
theorem dX4_digestOf_163 : decode cX4_digestOf 163 = .ok (.i2l, 1) := by decide +kernel
theorem dX4_digestOf_164 : decode cX4_digestOf 164 = .ok (.ladd, 1) := by decide +kernel
theorem dX4_digestOf_165 : decode cX4_digestOf 165 = .ok (.lstore 4, 2) := by decide +kernel
theorem dX4_digestOf_167 : decode cX4_digestOf 167 = .ok (.iinc 6 1, 3) := by decide +kernel
theorem dX4_digestOf_170 : decode cX4_digestOf 170 = .ok (.goto (-29), 3) := by decide +kernel
theorem dX4_digestOf_173 : decode cX4_digestOf 173 = .ok (.lload 4, 2) := by decide +kernel
theorem dX4_digestOf_175 : decode cX4_digestOf 175 = .ok (.lreturn, 1) := by decide +kernel
end
section
-- ===== Warren =====
abbrev wW (h s0 t0 l0 m0 : Nat) : va_W := [(h, .inr (4, [.ref s0, .ref t0, .ref l0, .ref m0]))]
abbrev wL (l0 : Nat) (mc : Int32) (e0 : Nat) (n : Nat) : va_W := [(l0, .inr (0, [.int mc, .ref e0, .int (nI n)]))]
def withinB (x y z : Int32) : Bool := if x < y then false else if z < x then false else true
def cellB (x : Int32) : Bool := if x < 0 then false else if 160 ≤ x then false else true
def sideB (x : Int32) : Bool := if x = 0 then true else if x = 1 then true else false
section WN
variable {p : Program} {l : Launch} {e : Env} {R : Room} {s : State} {m : MethodId} {args : Array Value} {below : List Frame} {meth : Method} {c : Code} {H : Heap} {locs : List Loc} {cells slots : Nat} {Q : State → Prop}
variable {cc : ByteArray} {pc : Nat} {ls : Array Slot} {rest : List Value} {D : va_G} {cl : List vw_C} {A : Nat → Prop} {ws : va_W} {H0 : Heap} {cI : ClassId}
/-- a new row of ints, all 0: its class is the one that is known -/
theorem w_newI (hexec : p.tables.exec = Jvm.exec) (hb : c.code = cc) (harr : (Cond.arrayClass .int).before args s = true) (hK : va_K D cl [(cI, .int)] s) (hP : va_P D cl ws H) (hD : va_D A ws) (hS : va_S A H0 H locs) (hA : ∀ q, H0.size ≤ q → A q)
    {n : Int32} {N' : Nat} (hn : ¬ n < 0) (hN : n.toNatClampNeg = N') (hbytes : N' * 4 ≤ 536870912) (hcells : cells + 1 ≤ R.cells) (hslots : slots + N' ≤ R.slots) (hdg : decode cc pc = .ok (.newarray .int, 2))
    (kk : ∀ (q : Nat) (H1 : Heap), va_P D cl (ws ++ [(q, .inl (cI, N', .inl (fun _ => 0)))]) H1 → va_D A (ws ++ [(q, .inl (cI, N', .inl (fun _ => 0)))]) → va_S A H0 H1 locs →
      W p l e R s m args below meth c H1 locs (cells + 1) (slots + N') Q (F0 m (pc + 2) ls (.ref q :: rest))) : W p l e R s m args below meth c H locs cells slots Q (F0 m pc ls (.int n :: rest)) := by
  refine va_newa (atype := .int) (ty := .int) (a0 := (N', .inl (fun _ => 0))) hexec hb harr rfl hK hP hD hS hA (fun cA => rfl) hn hN hbytes hcells hslots hdg (fun q cA H1 hK1 hP1 hD1 hS1 => ?_)
  have e1 : cA = cI := by
    have h1 := (hK1.2 1 _ rfl).2
    have h2 := (hK.2 0 _ rfl).2
    exact Option.some.inj (h1.symm.trans h2)
  subst e1
  exact kk q H1 hP1 hD1 hS1
end WN
def fillL (x : Int32) : Nat → Nat → (Nat → Int32) → (Nat → Int32)
  | 0, _, g => g
  | m + 1, k, g => fillL x m (k + 1) (upd g (nI k).toNatClampNeg x)
def fillF (f : Nat → Int32) (n : Nat) (x : Int32) : Nat → Int32 := fillL x n 0 f
abbrev z0 : Nat → Int32 := fun _ => 0
/-- a State as its constructor leaves it -/
def s0 : SS := (fillF z0 160 1, z0, z0, z0, z0, 0, 0, 0)
abbrev ad6 (a b c d e f : Nat) : Nat → Nat := fun k => match k with
  | 0 => a
  | 1 => b
  | 2 => c
  | 3 => d
  | 4 => e
  | _ => f
-- ===== what the throwing methods share =====
theorem P_kept {D : va_G} {cl : List vw_C} {ws : va_W} {H H1 : Heap} (hP : va_P D cl ws H) (h : ∀ q, q < H.size → H1[q]? = H[q]?) : va_P D cl ws H1 := fun k q hq => (hP k q hq).kept (h _ (hP k q hq).lt)
def eA : String := "java/lang/IllegalArgumentException"
def eS : String := "java/lang/IllegalStateException"
def eI : String := "java/lang/IndexOutOfBoundsException"
def strs : List (Nat × String) := [(39, "the room is not on the map"), (54, "no such cell"), (60, "no such kind there"), (71, "a being is on it"), (88, "no such side"), (93, "no such side or life"), (99, "it cannot be there, or there were 10"), (108, "no such being"), (110, "no such force, guard or speed"), (120, "no such effect, stack or turns"), (125, "it is dead"), (134, "no such thing to ask"), (139, "no such effect"), (144, "no such thing to count"), (149, "no such action"), (161, "there is no turn, or it is not possible"), (167, "turns is not 1 to 40"), (175, "no such being or cell"), (195, "there are 5"), (205, "no such game")]
def SB (U : State) : Prop := ∀ q ∈ strs, ∃ sa : Nat, vk_R RX4 q.1 q.2 sa U
def cast_A : Cond := .castable eA eA
def cast_S : Cond := .castable eS eS
def cast_I : Cond := .castable eI eI
theorem castN {a b : String} {s U : State} (hW : s.WarmedH U.vm) (h : va_Nw (.castable a b) s) : va_Nw (.castable a b) U := va_tabs rfl (rfl : (s.setVm U.vm).vm = U.vm) ((Cond.castable_setVm hW.alike a b).trans h)
def decl_1 : Cond := .declares (Bundle.initS "java/lang/RuntimeException")
def decl_2 : Cond := .declares (Bundle.initS "java/lang/Exception")
def decl_3 : Cond := .declares (Bundle.initS Bundle.tN)
theorem declN {y : MethodName} {s U : State} (hW : s.WarmedH U.vm) (h : va_Nw (.declares y) s) : va_Nw (.declares y) U := va_tabs rfl (rfl : (s.setVm U.vm).vm = U.vm) (show (Cond.declares y).before #[] (s.setVm U.vm) = true by rw [Cond.declares_setVm hW.alike]; exact h)
/-- the texts, that a thrown one is of its own class, and whence its constructors come -/
def XV (U : State) : Prop := EV U ∧ SB U ∧ va_Nw cast_A U ∧ va_Nw cast_S U ∧ va_Nw cast_I U ∧ va_Nw decl_1 U ∧ va_Nw decl_2 U ∧ va_Nw decl_3 U
theorem XV.warm {s U : State} (hW : s.WarmedH U.vm) (h : XV s) : XV U := by
  obtain ⟨h1, h2, h3, h4, h5, h6, h7, h8⟩ := h
  exact ⟨EV.warm hW h1, fun q hq => (h2 q hq).elim fun sa ha => ⟨sa, vk_R.warm hW ha⟩, castN hW h3, castN hW h4, castN hW h5, declN hW h6, declN hW h7, declN hW h8⟩
theorem XV.same {u U : State} (hv : u.vm = U.vm) (h : XV u) : XV U := by
  obtain ⟨h1, h2, h3, h4, h5, h6, h7, h8⟩ := h
  exact ⟨EV.same hv h1, fun q hq => (h2 q hq).elim fun sa ha => ⟨sa, vk_R.same hv.symm ha⟩, va_Nw.same rfl hv h3, va_Nw.same rfl hv h4, va_Nw.same rfl hv h5, va_Nw.same rfl hv h6, va_Nw.same rfl hv h7, va_Nw.same rfl hv h8⟩
/-- the two statics of Throwable that a throw reads -/
def TX (A : Nat → Prop) (U : State) (H : Heap) : Prop := vx_Zq Bundle.tN "UNASSIGNED_STACK" Bundle.steD A U H ∧ vx_Zq Bundle.tN "SUPPRESSED_SENTINEL" Bundle.listD A U H
theorem TX.pass {A B : Nat → Prop} {s : State} {H : Heap} {locs : List Loc} (h : TX A s s.heap) (hS : va_S A s.heap H locs) (hB : ∀ q, B q → A q) {U : State} (hU : U.heap = H) (hal : s.vm.Alike U.vm) : TX B U U.heap := by
  rw [hU]
  exact ⟨vx_Zq.moved hal ((vx_Zq.kept h.1 (fun q h1 h2 => hS.2.1 q h1 h2)).narrow hB), vx_Zq.moved hal ((vx_Zq.kept h.2 (fun q h1 h2 => hS.2.1 q h1 h2)).narrow hB)⟩
/-- what a method that may throw asks -/
def preX (D : va_G) (cI : ClassId) (ws : va_W) (sz : Nat) (U : State) : Prop := U.heap.size = sz ∧ va_P D vwCl ws U.heap ∧ va_K D vwCl [(cI, .int)] U ∧ XV U ∧ va_D (fun _ => True) ws ∧ TX (va_A ws sz) U U.heap
theorem preX_blind {av : List Value} {D : va_G} {cI : ClassId} {ws : va_W} {sz : Nat} : FrameBlind (va_Pc av (preX D cI ws sz)) := fun a U g mk q => by
  obtain ⟨q0, q1, qP, qK, qE, qD, qT⟩ := q
  exact ⟨q0, q1, qP, va_K.moved (u := U) (U := U.calling g mk a) (Vm.Alike.refl U.vm) qK, XV.same (u := U) (U := U.calling g mk a) rfl qE, qD, vx_Zq.moved (u := U) (U := U.calling g mk a) (Vm.Alike.refl U.vm) qT.1, vx_Zq.moved (u := U) (U := U.calling g mk a) (Vm.Alike.refl U.vm) qT.2⟩
theorem preX_of {D : va_G} {cI : ClassId} {ws : va_W} {A : Nat → Prop} {s : State} {H : Heap} {locs : List Loc} (hP : va_P D vwCl ws H) (hK : va_K D vwCl [(cI, .int)] s) (hE : XV s) (hD : va_D A ws) (hT : TX A s s.heap) (hS : va_S A s.heap H locs) (hF : ∀ q, va_A ws H.size q → A q) (av : List Value) : ∀ U : State, U.heap = H → s.WarmedH U.vm → va_Pc av (preX D cI ws H.size) av.toArray U := fun U hU hW => ⟨rfl, by rw [hU], by rw [hU]; exact hP, va_K.moved hW.alike hK, XV.warm hW hE, hD.weaken (fun _ _ _ _ => trivial), hT.pass hS hF hU hW.alike⟩
/-- which of its exceptions a method throws (n of them in order), and the world then -/
def thrX (n : Nat) (nm : Nat → String) (D : va_G) (cI : ClassId) (A : Nat → Prop) (ws : va_W) : String → State → State → Prop := vx_X (fun (_ : Unit) => ¬ n = 0) (fun E _ t => E = nm n ∧ posM D cI A ws t) A
def nmA : Nat → String := fun _ => eA
def nmI : Nat → String := fun _ => eI
def nmS : Nat → String := fun _ => eS
def nmIAS : Nat → String
  | 1 => eI
  | 2 => eA
  | _ => eS
def nmAI : Nat → String
  | 1 => eA
  | _ => eI
def nmAS : Nat → String
  | 1 => eA
  | _ => eS
theorem thr_of {n : Nat} {nm : Nat → String} {D : va_G} {cI : ClassId} {A : Nat → Prop} {ws : va_W} {s : State} {H : Heap} {locs : List Loc} {E : String} (hn : ¬ n = 0) (hE : E = nm n) (hP : va_P D vwCl ws H) (hK : va_K D vwCl [(cI, .int)] s) (hD : va_D A ws) (hS : va_S A s.heap H locs) :
    ∀ t : State, s.vm.Alike t.vm → H.size ≤ t.heap.size → (∀ q : Nat, q < H.size → t.heap[q]? = H[q]?) → thrX n nm D cI A ws E s t := fun t hal hsz hq =>
  ⟨(), hn, ⟨hE, P_kept hP hq, va_K.moved hal hK, hD⟩, Nat.le_trans hS.1 hsz, fun q h1 h2 => (hq q (Nat.lt_of_lt_of_le h1 hS.1)).trans (hS.2.1 q h1 h2)⟩
end
section
set_option maxHeartbeats 4000000 in
set_option maxRecDepth 100000 in
theorem c_J7_fill_53178 (l : Launch) (D : va_G) (cI : ClassId) (sz : Nat) (q n : Nat) (f : Nat → Int32) (x : Int32) (hn : n < 2 ^ 31) : Met l yJ7_fill_53178 wsJ7_fill_53178 ({ frames := 0, cells := 0, slots := 0, locals := 0 } : Room) (va_Pc [.ref q, .int x] (preM D cI ([(q, .inl (cI, n, .inl f))]) sz)) (va_Qv (fun (u : (Nat → Int32)) => u = fillF f n x) (fun (u : (Nat → Int32)) => posM D cI (va_A ([(q, .inl (cI, n, .inl f))]) sz) [(q, .inl (cI, n, .inl u))]) (va_A ([(q, .inl (cI, n, .inl f))]) sz)) 0 0 (va_A ([(q, .inl (cI, n, .inl f))]) sz) := by
  refine Met.ofW (cc := cJ7_fill_53178) (maxL := 4) (ret := none) (by decide) rfl ?_
  intro p e s m args below meth c s₁ B hml hv
  obtain ⟨rfl, hsz, hP, hK, hE, hD0⟩ := hv
  have hx := B.exec
  have hb := B.bytes
  have hr := B.returns
  have hts := atoms_spec (ws := wsJ7_fill_53178) B.pre
  have hown : s.vm.findClass RJ7 = some m.cls := findClass_of_methodNamed B.named
  have hlocks := B.notSynchronized
  subst hsz
  have hD := hD0.self (sz := s.heap.size)
  generalize hAe : va_A ([(q, .inl (cI, n, .inl f))]) s.heap.size = A at hD ⊢
  have hA : ∀ q : Nat, s.heap.size ≤ q → A q := fun q h => by rw [← hAe]; exact Or.inr h
  have hS : va_S A s.heap s.heap [] := va_S.rf
  have hP : va_P D vwCl ([(q, .inl (cI, n, .inl f))]) s.heap := hP
  have hl := lv_entry ([.ref q, .int x]) (n := 4) (Nat.le_of_ble_eq_true rfl)
  rw [lg_entry_eq]
  generalize (lg_sl ([.ref q, .int x]) ++ List.replicate (4 - (lg_sl ([.ref q, .int x])).length) Slot.unset).toArray = ls at hl ⊢
  have hl : lv_has ls 4 [(0, .ref q), (1, .int x)] := hl
  refine lv_iconst (v := 0) hx hb dJ7_fill_53178_0 (by decide) ?_
  refine lv_istore_n (lv' := [(2, .int 0), (0, .ref q), (1, .int x)]) hx hb dJ7_fill_53178_1 rfl hl (by decide) rfl (fun ls hl => ?_)
  refine lv_aload_n hx hb dJ7_fill_53178_2 rfl (lv_at hl 1 rfl) ?_
  refine va_alen (v := nI n) hx hb hK hP 0 0 rfl rfl rfl dJ7_fill_53178_3 ?_
  refine lv_istore_n (lv' := [(3, .int (nI n)), (2, .int 0), (0, .ref q), (1, .int x)]) hx hb dJ7_fill_53178_4 rfl hl (by decide) rfl (fun ls hl => ?_)
  have L5 : ∀ (i k : Nat) (g : Nat → Int32) (hk : k + i = n) (hsp : fillF f n x = fillL x i k g) (H : Heap) (locs : List Loc) (ls : Array Slot), lv_has ls 4 [(3, .int (nI n)), (2, .int (nI k)), (0, .ref q), (1, .int x)] → va_P D vwCl ([(q, .inl (cI, n, .inl g))]) H → va_D A ([(q, .inl (cI, n, .inl g))]) → va_S A s.heap H locs → W p l e ({ frames := 0, cells := 0, slots := 0, locals := 0 } : Room) s m ([.ref q, .int x] : List Value).toArray below meth c H locs 0 0 (MQ below (va_Qv (fun (u : (Nat → Int32)) => u = fillF f n x) (fun (u : (Nat → Int32)) => posM D cI A [(q, .inl (cI, n, .inl u))]) A) ([.ref q, .int x] : List Value).toArray s 0 0 A) (F0 m 5 ls []) := by
    intro i
    induction i with
    | zero =>
      intro k g hk hsp H locs ls hl hP hD hS
      refine lv_iload_n hx hb dJ7_fill_53178_5 rfl (lv_at hl 1 rfl) ?_
      refine lv_iload_n hx hb dJ7_fill_53178_6 rfl (lv_at hl 0 rfl) ?_
      refine lv_icmp_ge (tgt := 20) hx hb dJ7_fill_53178_7 (by decide) (fun c_7 => ?_) (fun c_7 => absurd (nI_le (by omega) (by omega)) c_7)
      have hP9 := hP
      have hD9 := hD
      exact W.vret hx hb hr (fun T9 ht hW => ⟨⟨g, rfl, by rw [hsp]; rfl, by rw [ht]; exact hP9, va_K.moved hW.alike hK, hD9⟩, hS.F ht⟩) hS.2.2 dJ7_fill_53178_20
    | succ i ih5 =>
      intro k g hk hsp H locs ls hl hP hD hS
      refine lv_iload_n hx hb dJ7_fill_53178_5 rfl (lv_at hl 1 rfl) ?_
      refine lv_iload_n hx hb dJ7_fill_53178_6 rfl (lv_at hl 0 rfl) ?_
      refine lv_icmp_ge (tgt := 20) hx hb dJ7_fill_53178_7 (by decide) (fun c_7 => absurd c_7 (nI_ge (by omega) (by omega))) (fun c_7 => ?_)
      refine lv_aload_n hx hb dJ7_fill_53178_10 rfl (lv_at hl 2 rfl) ?_
      refine lv_iload_n hx hb dJ7_fill_53178_11 rfl (lv_at hl 1 rfl) ?_
      refine lv_iload_n hx hb dJ7_fill_53178_12 rfl (lv_at hl 3 rfl) ?_
      refine va_iast hx hb hK hP hD hS 0 0 rfl rfl (vp_in_nI (by omega) hn) dJ7_fill_53178_13 (fun H locs hP hD hS => ?_)
      have hP : va_P D vwCl ([(q, .inl (cI, n, .inl (upd g (nI k).toNatClampNeg x)))]) H := hP
      have hD : va_D A ([(q, .inl (cI, n, .inl (upd g (nI k).toNatClampNeg x)))]) := hD
      refine lv_iinc (v := (nI (k + 1))) (lv' := [(2, .int (nI (k + 1))), (3, .int (nI n)), (0, .ref q), (1, .int x)]) hx hb dJ7_fill_53178_14 hl (k := 1) rfl (nI_1 k) (by decide) rfl (fun ls hl => ?_)
      refine lv_goto (tgt := 5) hx hb dJ7_fill_53178_17 (by decide) ?_
      exact ih5 (k + 1) (upd g (nI k).toNatClampNeg x) (by omega) (by rw [hsp]; rfl) _ _ ls (lv_sub hl [1, 0, 2, 3] rfl) hP hD hS
  exact L5 n 0 f (by omega) rfl _ _ ls (lv_sub hl [0, 1, 2, 3] rfl) hP hD hS

set_option maxHeartbeats 4000000 in
set_option maxRecDepth 100000 in
theorem c_X2_init (l : Launch) (D : va_G) (cI : ClassId) (sz : Nat) (h : Nat) : Met l yX2_init wsX2_init ({ frames := 1, cells := 5, slots := 510, locals := 23 } : Room) (va_Pc [.ref h] (preM D cI ([(h, .inr (2, [.null, .null, .null, .null, .null, .int 0, .int 0, .int 0]))]) sz)) (va_Qv (fun (u : (Nat → Nat)) => u 0 = h) (fun (u : (Nat → Nat)) => posM D cI (va_A ([(h, .inr (2, [.null, .null, .null, .null, .null, .int 0, .int 0, .int 0]))]) sz) (sW cI u s0)) (va_A ([(h, .inr (2, [.null, .null, .null, .null, .null, .int 0, .int 0, .int 0]))]) sz)) 5 510 (va_A ([(h, .inr (2, [.null, .null, .null, .null, .null, .int 0, .int 0, .int 0]))]) sz) := by
  refine Met.ofW (cc := cX2_init) (maxL := 1) (ret := none) (by decide) rfl ?_
  intro p e s m args below meth c s₁ B hml hv
  obtain ⟨rfl, hsz, hP, hK, hE, hD0⟩ := hv
  have hx := B.exec
  have hb := B.bytes
  have hr := B.returns
  have hts := atoms_spec (ws := wsX2_init) B.pre
  have hown : s.vm.findClass RX2 = some m.cls := findClass_of_methodNamed B.named
  have hlocks := B.notSynchronized
  have hin : meth.name = "<init>" := (name_of_methodNamed B.named B.method).1
  subst hsz
  have hD := hD0.self (sz := s.heap.size)
  generalize hAe : va_A ([(h, .inr (2, [.null, .null, .null, .null, .null, .int 0, .int 0, .int 0]))]) s.heap.size = A at hD ⊢
  have hA : ∀ q : Nat, s.heap.size ≤ q → A q := fun q h => by rw [← hAe]; exact Or.inr h
  have hS : va_S A s.heap s.heap [] := va_S.rf
  have hP : va_P D vwCl ([(h, .inr (2, [.null, .null, .null, .null, .null, .int 0, .int 0, .int 0]))]) s.heap := hP
  have hl := lv_entry ([.ref h]) (n := 1) (Nat.le_of_ble_eq_true rfl)
  rw [lg_entry_eq]
  generalize (lg_sl ([.ref h]) ++ List.replicate (1 - (lg_sl ([.ref h])).length) Slot.unset).toArray = ls at hl ⊢
  have hl : lv_has ls 1 [(0, .ref h)] := hl
  refine lv_aload_n hx hb dX2_init_0 rfl (lv_at hl 0 rfl) ?_
  refine W.objInit hx hb hown (hts (.methodLink RX2 3 objectInit) (by decide +kernel)) (hts (.instanceMethod objectInit) (by decide +kernel)) (hts (.code objectInit ⟨#[0xb1]⟩ 1 none) (by decide +kernel)) rfl (by rw [hml]; exact hl.1) rfl dX2_init_1 (Nat.le_of_ble_eq_true rfl) (Nat.le_of_ble_eq_true rfl) ?_
  refine W.eq (g2 := F0 m 4 ls []) rfl ?_
  refine lv_aload_n hx hb dX2_init_4 rfl (lv_at hl 0 rfl) ?_
  refine lv_sipush (v := 160) hx hb dX2_init_5 (by decide) ?_
  refine w_newI hx hb (hts (.arrayClass .int) (by decide +kernel)) hK hP hD hS hA (by decide) (N' := 160) (by decide) (by decide) (Nat.le_of_ble_eq_true rfl) (Nat.le_of_ble_eq_true rfl) dX2_init_8 (fun q8 H hP hD hS => ?_)
  have hP : va_P D vwCl ([(h, .inr (2, [.null, .null, .null, .null, .null, .int 0, .int 0, .int 0])), (q8, .inl (cI, 160, .inl (fun _ => 0)))]) H := hP
  have hD : va_D A ([(h, .inr (2, [.null, .null, .null, .null, .null, .int 0, .int 0, .int 0])), (q8, .inl (cI, 160, .inl (fun _ => 0)))]) := hD
  refine va_putF (D := D) (ci := 2) (v := .ref q8) (ty := (.array .int)) (C := RX2) (T := TX2) (N := 8) hx hb hts (by decide +kernel) tyX2 tyX2_ok nmX2 hown hK hP hD hS 0 rfl rfl 0 (by decide) (hts (.fieldLink RX2 9 "Warren$State" "kinds" "[I") (by decide +kernel)) (fun _ h9 => h9) rfl hin rfl (by decide +kernel) rfl rfl (Nat.le_of_ble_eq_true rfl) dX2_init_10 (fun H locs hP hD hS => ?_)
  have hP : va_P D vwCl ([(h, .inr (2, [.ref q8, .null, .null, .null, .null, .int 0, .int 0, .int 0])), (q8, .inl (cI, 160, .inl (fun _ => 0)))]) H := hP
  have hD : va_D A ([(h, .inr (2, [.ref q8, .null, .null, .null, .null, .int 0, .int 0, .int 0])), (q8, .inl (cI, 160, .inl (fun _ => 0)))]) := hD
  refine lv_aload_n hx hb dX2_init_13 rfl (lv_at hl 0 rfl) ?_
  refine lv_sipush (v := 160) hx hb dX2_init_14 (by decide) ?_
  refine w_newI hx hb (hts (.arrayClass .int) (by decide +kernel)) hK hP hD hS hA (by decide) (N' := 160) (by decide) (by decide) (Nat.le_of_ble_eq_true rfl) (Nat.le_of_ble_eq_true rfl) dX2_init_17 (fun q17 H hP hD hS => ?_)
  have hP : va_P D vwCl ([(h, .inr (2, [.ref q8, .null, .null, .null, .null, .int 0, .int 0, .int 0])), (q8, .inl (cI, 160, .inl (fun _ => 0))), (q17, .inl (cI, 160, .inl (fun _ => 0)))]) H := hP
  have hD : va_D A ([(h, .inr (2, [.ref q8, .null, .null, .null, .null, .int 0, .int 0, .int 0])), (q8, .inl (cI, 160, .inl (fun _ => 0))), (q17, .inl (cI, 160, .inl (fun _ => 0)))]) := hD
  refine va_putF (D := D) (ci := 2) (v := .ref q17) (ty := (.array .int)) (C := RX2) (T := TX2) (N := 8) hx hb hts (by decide +kernel) tyX2 tyX2_ok nmX2 hown hK hP hD hS 0 rfl rfl 1 (by decide) (hts (.fieldLink RX2 15 "Warren$State" "known" "[I") (by decide +kernel)) (fun _ h9 => h9) rfl hin rfl (by decide +kernel) rfl rfl (Nat.le_of_ble_eq_true rfl) dX2_init_19 (fun H locs hP hD hS => ?_)
  have hP : va_P D vwCl ([(h, .inr (2, [.ref q8, .ref q17, .null, .null, .null, .int 0, .int 0, .int 0])), (q8, .inl (cI, 160, .inl (fun _ => 0))), (q17, .inl (cI, 160, .inl (fun _ => 0)))]) H := hP
  have hD : va_D A ([(h, .inr (2, [.ref q8, .ref q17, .null, .null, .null, .int 0, .int 0, .int 0])), (q8, .inl (cI, 160, .inl (fun _ => 0))), (q17, .inl (cI, 160, .inl (fun _ => 0)))]) := hD
  refine lv_aload_n hx hb dX2_init_22 rfl (lv_at hl 0 rfl) ?_
  refine lv_bipush (v := 90) hx hb dX2_init_23 (by decide) ?_
  refine w_newI hx hb (hts (.arrayClass .int) (by decide +kernel)) hK hP hD hS hA (by decide) (N' := 90) (by decide) (by decide) (Nat.le_of_ble_eq_true rfl) (Nat.le_of_ble_eq_true rfl) dX2_init_25 (fun q25 H hP hD hS => ?_)
  have hP : va_P D vwCl ([(h, .inr (2, [.ref q8, .ref q17, .null, .null, .null, .int 0, .int 0, .int 0])), (q8, .inl (cI, 160, .inl (fun _ => 0))), (q17, .inl (cI, 160, .inl (fun _ => 0))), (q25, .inl (cI, 90, .inl (fun _ => 0)))]) H := hP
  have hD : va_D A ([(h, .inr (2, [.ref q8, .ref q17, .null, .null, .null, .int 0, .int 0, .int 0])), (q8, .inl (cI, 160, .inl (fun _ => 0))), (q17, .inl (cI, 160, .inl (fun _ => 0))), (q25, .inl (cI, 90, .inl (fun _ => 0)))]) := hD
  refine va_putF (D := D) (ci := 2) (v := .ref q25) (ty := (.array .int)) (C := RX2) (T := TX2) (N := 8) hx hb hts (by decide +kernel) tyX2 tyX2_ok nmX2 hown hK hP hD hS 0 rfl rfl 2 (by decide) (hts (.fieldLink RX2 18 "Warren$State" "traits" "[I") (by decide +kernel)) (fun _ h9 => h9) rfl hin rfl (by decide +kernel) rfl rfl (Nat.le_of_ble_eq_true rfl) dX2_init_27 (fun H locs hP hD hS => ?_)
  have hP : va_P D vwCl ([(h, .inr (2, [.ref q8, .ref q17, .ref q25, .null, .null, .int 0, .int 0, .int 0])), (q8, .inl (cI, 160, .inl (fun _ => 0))), (q17, .inl (cI, 160, .inl (fun _ => 0))), (q25, .inl (cI, 90, .inl (fun _ => 0)))]) H := hP
  have hD : va_D A ([(h, .inr (2, [.ref q8, .ref q17, .ref q25, .null, .null, .int 0, .int 0, .int 0])), (q8, .inl (cI, 160, .inl (fun _ => 0))), (q17, .inl (cI, 160, .inl (fun _ => 0))), (q25, .inl (cI, 90, .inl (fun _ => 0)))]) := hD
  refine lv_aload_n hx hb dX2_init_30 rfl (lv_at hl 0 rfl) ?_
  refine lv_bipush (v := 50) hx hb dX2_init_31 (by decide) ?_
  refine w_newI hx hb (hts (.arrayClass .int) (by decide +kernel)) hK hP hD hS hA (by decide) (N' := 50) (by decide) (by decide) (Nat.le_of_ble_eq_true rfl) (Nat.le_of_ble_eq_true rfl) dX2_init_33 (fun q33 H hP hD hS => ?_)
  have hP : va_P D vwCl ([(h, .inr (2, [.ref q8, .ref q17, .ref q25, .null, .null, .int 0, .int 0, .int 0])), (q8, .inl (cI, 160, .inl (fun _ => 0))), (q17, .inl (cI, 160, .inl (fun _ => 0))), (q25, .inl (cI, 90, .inl (fun _ => 0))), (q33, .inl (cI, 50, .inl (fun _ => 0)))]) H := hP
  have hD : va_D A ([(h, .inr (2, [.ref q8, .ref q17, .ref q25, .null, .null, .int 0, .int 0, .int 0])), (q8, .inl (cI, 160, .inl (fun _ => 0))), (q17, .inl (cI, 160, .inl (fun _ => 0))), (q25, .inl (cI, 90, .inl (fun _ => 0))), (q33, .inl (cI, 50, .inl (fun _ => 0)))]) := hD
  refine va_putF (D := D) (ci := 2) (v := .ref q33) (ty := (.array .int)) (C := RX2) (T := TX2) (N := 8) hx hb hts (by decide +kernel) tyX2 tyX2_ok nmX2 hown hK hP hD hS 0 rfl rfl 3 (by decide) (hts (.fieldLink RX2 21 "Warren$State" "stacks" "[I") (by decide +kernel)) (fun _ h9 => h9) rfl hin rfl (by decide +kernel) rfl rfl (Nat.le_of_ble_eq_true rfl) dX2_init_35 (fun H locs hP hD hS => ?_)
  have hP : va_P D vwCl ([(h, .inr (2, [.ref q8, .ref q17, .ref q25, .ref q33, .null, .int 0, .int 0, .int 0])), (q8, .inl (cI, 160, .inl (fun _ => 0))), (q17, .inl (cI, 160, .inl (fun _ => 0))), (q25, .inl (cI, 90, .inl (fun _ => 0))), (q33, .inl (cI, 50, .inl (fun _ => 0)))]) H := hP
  have hD : va_D A ([(h, .inr (2, [.ref q8, .ref q17, .ref q25, .ref q33, .null, .int 0, .int 0, .int 0])), (q8, .inl (cI, 160, .inl (fun _ => 0))), (q17, .inl (cI, 160, .inl (fun _ => 0))), (q25, .inl (cI, 90, .inl (fun _ => 0))), (q33, .inl (cI, 50, .inl (fun _ => 0)))]) := hD
  refine lv_aload_n hx hb dX2_init_38 rfl (lv_at hl 0 rfl) ?_
  refine lv_bipush (v := 50) hx hb dX2_init_39 (by decide) ?_
  refine w_newI hx hb (hts (.arrayClass .int) (by decide +kernel)) hK hP hD hS hA (by decide) (N' := 50) (by decide) (by decide) (Nat.le_of_ble_eq_true rfl) (Nat.le_of_ble_eq_true rfl) dX2_init_41 (fun q41 H hP hD hS => ?_)
  have hP : va_P D vwCl ([(h, .inr (2, [.ref q8, .ref q17, .ref q25, .ref q33, .null, .int 0, .int 0, .int 0])), (q8, .inl (cI, 160, .inl (fun _ => 0))), (q17, .inl (cI, 160, .inl (fun _ => 0))), (q25, .inl (cI, 90, .inl (fun _ => 0))), (q33, .inl (cI, 50, .inl (fun _ => 0))), (q41, .inl (cI, 50, .inl (fun _ => 0)))]) H := hP
  have hD : va_D A ([(h, .inr (2, [.ref q8, .ref q17, .ref q25, .ref q33, .null, .int 0, .int 0, .int 0])), (q8, .inl (cI, 160, .inl (fun _ => 0))), (q17, .inl (cI, 160, .inl (fun _ => 0))), (q25, .inl (cI, 90, .inl (fun _ => 0))), (q33, .inl (cI, 50, .inl (fun _ => 0))), (q41, .inl (cI, 50, .inl (fun _ => 0)))]) := hD
  refine va_putF (D := D) (ci := 2) (v := .ref q41) (ty := (.array .int)) (C := RX2) (T := TX2) (N := 8) hx hb hts (by decide +kernel) tyX2 tyX2_ok nmX2 hown hK hP hD hS 0 rfl rfl 4 (by decide) (hts (.fieldLink RX2 24 "Warren$State" "turns" "[I") (by decide +kernel)) (fun _ h9 => h9) rfl hin rfl (by decide +kernel) rfl rfl (Nat.le_of_ble_eq_true rfl) dX2_init_43 (fun H locs hP hD hS => ?_)
  have hP : va_P D vwCl ([(h, .inr (2, [.ref q8, .ref q17, .ref q25, .ref q33, .ref q41, .int 0, .int 0, .int 0])), (q8, .inl (cI, 160, .inl (fun _ => 0))), (q17, .inl (cI, 160, .inl (fun _ => 0))), (q25, .inl (cI, 90, .inl (fun _ => 0))), (q33, .inl (cI, 50, .inl (fun _ => 0))), (q41, .inl (cI, 50, .inl (fun _ => 0)))]) H := hP
  have hD : va_D A ([(h, .inr (2, [.ref q8, .ref q17, .ref q25, .ref q33, .ref q41, .int 0, .int 0, .int 0])), (q8, .inl (cI, 160, .inl (fun _ => 0))), (q17, .inl (cI, 160, .inl (fun _ => 0))), (q25, .inl (cI, 90, .inl (fun _ => 0))), (q33, .inl (cI, 50, .inl (fun _ => 0))), (q41, .inl (cI, 50, .inl (fun _ => 0)))]) := hD
  refine lv_aload_n hx hb dX2_init_46 rfl (lv_at hl 0 rfl) ?_
  refine va_get (D := D) (ci := 2) (v := .ref q8) (C := RX2) (T := TX2) (N := 8) hx hb hts (by decide +kernel) hown hK hP 0 rfl rfl 0 (by decide) (hts (.fieldLink RX2 9 "Warren$State" "kinds" "[I") (by decide +kernel)) (fun _ h9 => h9) rfl dX2_init_47 ?_
  refine lv_iconst (v := 1) hx hb dX2_init_50 (by decide) ?_
  have hP : va_P D vwCl ([(h, .inr (2, [.ref q8, .ref q17, .ref q25, .ref q33, .ref q41, .int 0, .int 0, .int 0])), (q17, .inl (cI, 160, .inl (fun _ => 0))), (q25, .inl (cI, 90, .inl (fun _ => 0))), (q33, .inl (cI, 50, .inl (fun _ => 0))), (q41, .inl (cI, 50, .inl (fun _ => 0)))] ++ [(q8, .inl (cI, 160, .inl (fun _ => 0)))]) H := hP.sub (ws' := [(h, .inr (2, [.ref q8, .ref q17, .ref q25, .ref q33, .ref q41, .int 0, .int 0, .int 0])), (q17, .inl (cI, 160, .inl (fun _ => 0))), (q25, .inl (cI, 90, .inl (fun _ => 0))), (q33, .inl (cI, 50, .inl (fun _ => 0))), (q41, .inl (cI, 50, .inl (fun _ => 0)))] ++ [(q8, .inl (cI, 160, .inl (fun _ => 0)))]) [0, 2, 3, 4, 5, 1] rfl
  have hD : va_D A ([(h, .inr (2, [.ref q8, .ref q17, .ref q25, .ref q33, .ref q41, .int 0, .int 0, .int 0])), (q17, .inl (cI, 160, .inl (fun _ => 0))), (q25, .inl (cI, 90, .inl (fun _ => 0))), (q33, .inl (cI, 50, .inl (fun _ => 0))), (q41, .inl (cI, 50, .inl (fun _ => 0)))] ++ [(q8, .inl (cI, 160, .inl (fun _ => 0)))]) := hD.sub (ws' := [(h, .inr (2, [.ref q8, .ref q17, .ref q25, .ref q33, .ref q41, .int 0, .int 0, .int 0])), (q17, .inl (cI, 160, .inl (fun _ => 0))), (q25, .inl (cI, 90, .inl (fun _ => 0))), (q33, .inl (cI, 50, .inl (fun _ => 0))), (q41, .inl (cI, 50, .inl (fun _ => 0)))] ++ [(q8, .inl (cI, 160, .inl (fun _ => 0)))]) [0, 2, 3, 4, 5, 1] (by decide) rfl
  have hFc := va_free (wc := [(q8, .inl (cI, 160, .inl (fun _ => 0)))]) hD hS hA [5] rfl
  refine va_callv (va_runS (As := [.ref q8, .int 1]) (rest := []) ⟨hx, hb, hml, hown, hts⟩ (c_J7_fill_53178 l D cI _ q8 160 (fun _ => 0) 1 (by decide)) (va_cwS 2 hts gX2_init_J7_fill_53178 rfl rfl rfl (by decide +kernel) ⟨Nat.le_of_ble_eq_true rfl, Nat.le_of_ble_eq_true rfl⟩) ⟨preM_blind, preM_of (hP.sub (ws' := [(q8, .inl (cI, 160, .inl (fun _ => 0)))]) [5] rfl) hK hE (hD.sub (ws' := [(q8, .inl (cI, 160, .inl (fun _ => 0)))]) [5] (by decide) rfl) [.ref q8, .int 1]⟩ rfl rfl hl.1 rfl (lv_room (Nat.le_of_ble_eq_true rfl)) dX2_init_51 ⟨Nat.le_of_ble_eq_true rfl, Nat.le_of_ble_eq_true rfl⟩) hS (fun q _ h => hFc q h) hFc (fun u t9 H1 locs ht hvm hw hB hz1 hk1 hS => ?_)
  obtain ⟨hP1, hK1, hD1⟩ := hB
  rw [ht] at hP1
  subst hw
  obtain ⟨hP, hD⟩ := va_join (wr := [(h, .inr (2, [.ref q8, .ref q17, .ref q25, .ref q33, .ref q41, .int 0, .int 0, .int 0])), (q17, .inl (cI, 160, .inl (fun _ => 0))), (q25, .inl (cI, 90, .inl (fun _ => 0))), (q33, .inl (cI, 50, .inl (fun _ => 0))), (q41, .inl (cI, 50, .inl (fun _ => 0)))]) (w1 := [(q8, .inl (cI, 160, .inl (fillF (fun _ => 0) 160 1)))]) hP hD [5] [0, 1, 2, 3, 4] rfl rfl (by decide) (by decide) hk1 hFc hP1 hD1
  generalize H1 = H at hP hS ⊢
  have hP : va_P D vwCl ([(h, .inr (2, [.ref q8, .ref q17, .ref q25, .ref q33, .ref q41, .int 0, .int 0, .int 0])), (q17, .inl (cI, 160, .inl (fun _ => 0))), (q25, .inl (cI, 90, .inl (fun _ => 0))), (q33, .inl (cI, 50, .inl (fun _ => 0))), (q41, .inl (cI, 50, .inl (fun _ => 0)))] ++ [(q8, .inl (cI, 160, .inl (fillF (fun _ => 0) 160 1)))]) H := hP
  have hD : va_D A ([(h, .inr (2, [.ref q8, .ref q17, .ref q25, .ref q33, .ref q41, .int 0, .int 0, .int 0])), (q17, .inl (cI, 160, .inl (fun _ => 0))), (q25, .inl (cI, 90, .inl (fun _ => 0))), (q33, .inl (cI, 50, .inl (fun _ => 0))), (q41, .inl (cI, 50, .inl (fun _ => 0)))] ++ [(q8, .inl (cI, 160, .inl (fillF (fun _ => 0) 160 1)))]) := hD
  have hP9 := hP.sub (ws' := sW cI (ad6 h q8 q17 q25 q33 q41) s0) [0, 5, 1, 2, 3, 4] rfl
  have hD9 := hD.sub (ws' := sW cI (ad6 h q8 q17 q25 q33 q41) s0) [0, 5, 1, 2, 3, 4] (by decide) rfl
  exact W.vret hx hb hr (fun T9 ht hW => ⟨⟨(ad6 h q8 q17 q25 q33 q41), rfl, rfl, by rw [ht]; exact hP9, va_K.moved hW.alike hK, hD9⟩, hS.F ht⟩) hS.2.2 dX2_init_54
end
section
-- ===== which exception: 0 none, else its place in the method's list =====
def cellT (x : Int32) : Nat := if cellB x = true then 0 else 1
def seesT (x y : Int32) : Nat := if cellB x = true then if cellB y = true then 0 else 1 else 1
def knowsT (s c : Int32) : Nat := if sideB s = true then if cellB c = true then 0 else 2 else 1
def setT2 (σ : SS) (c k : Int32) : Nat := if stopsB k = true then if onF σ c = -1 then 0 else 3 else 0
def setT (σ : SS) (c k : Int32) : Nat := if cellB c = true then if withinB k 0 3 = true then if edgeB c = true then if k = 1 then setT2 σ c k else 2 else setT2 σ c k else 2 else 1
def comeT2 (σ : SS) (c : Int32) : Nat := if stopsB (kindF σ c) = true then 3 else if onF σ c = -1 then if roomB σ = true then 0 else 3 else 3
def comeT (σ : SS) (s c x : Int32) : Nat := if cellB c = true then if sideB s = true then if withinB x 1 60 = true then comeT2 σ c else 2 else 2 else 1
def becomeT (σ : SS) (b f g s : Int32) : Nat := if beingB σ b = true then if withinB f 0 20 = true then if withinB g 0 20 = true then if withinB s 1 4 = true then 0 else 2 else 2 else 2 else 1
def becomeF (σ : SS) (b f g s : Int32) : SS := putTraitF (putTraitF (putTraitF σ b 4 f) b 5 g) b 6 s
def layT (σ : SS) (b e st tu : Int32) : Nat := if beingB σ b = true then if withinB e 0 4 = true then if withinB st 1 9 = true then if withinB tu 1 20 = true then if aliveB σ b = true then 0 else 3 else 2 else 2 else 2 else 1
def answerF (σ : SS) (b w : Int32) : Int32 := if w = 9 then if afraidB σ b = true then 1 else 0 else traitF σ b w
def ofT (σ : SS) (b w : Int32) : Nat := if beingB σ b = true then if withinB w 0 9 = true then 0 else 2 else 1
def effectT (σ : SS) (b e : Int32) : Nat := if beingB σ b = true then if withinB e 0 4 = true then 0 else 2 else 1
def effectF (σ : SS) (b e t : Int32) : Int32 := if t = 0 then stackF σ b e else turnsF σ b e
def targetT (σ : SS) (b : Int32) : Nat := if beingB σ b = true then 0 else 1
def hitT (σ : SS) (b o : Int32) : Nat := if beingB σ b = true then if beingB σ o = true then 0 else 1 else 1
def nmIA : Nat → String
  | 1 => eI
  | _ => eA
end
section
set_option maxHeartbeats 4000000 in
set_option maxRecDepth 100000 in
theorem c_X4_isWithin (l : Launch) (x y z : Int32) : Met l yX4_isWithin wsX4_isWithin ({ frames := 0, cells := 0, slots := 0, locals := 0 } : Room) (va_Pc [.int x, .int y, .int z] (fun _ => True)) (vp_Si (fun r => r = bi (withinB x y z))) 0 0 (fun _ => False) := by
  refine Met.ofW (cc := cX4_isWithin) (maxL := 3) (ret := (some .boolean)) (by decide) rfl ?_
  intro p e s m args below meth c s₁ B hml hv
  obtain ⟨rfl, -⟩ := hv
  have hx := B.exec
  have hb := B.bytes
  have hr := B.returns
  have hts := atoms_spec (ws := wsX4_isWithin) B.pre
  have hown : s.vm.findClass RX4 = some m.cls := findClass_of_methodNamed B.named
  have hlocks := B.notSynchronized
  have hl := lv_entry ([.int x, .int y, .int z]) (n := 3) (Nat.le_of_ble_eq_true rfl)
  rw [lg_entry_eq]
  generalize (lg_sl ([.int x, .int y, .int z]) ++ List.replicate (3 - (lg_sl ([.int x, .int y, .int z])).length) Slot.unset).toArray = ls at hl ⊢
  have hl : lv_has ls 3 [(0, .int x), (1, .int y), (2, .int z)] := hl
  refine lv_iload_n hx hb dX4_isWithin_0 rfl (lv_at hl 0 rfl) ?_
  refine lv_iload_n hx hb dX4_isWithin_1 rfl (lv_at hl 1 rfl) ?_
  refine lv_icmp_lt (tgt := 14) hx hb dX4_isWithin_2 (by decide) (fun c_2 => ?_) (fun c_2 => ?_)
  · refine lv_iconst (v := 0) hx hb dX4_isWithin_14 (by decide) ?_
    exact W.zret (v := 0) hx hb hr rfl (fun T9 ht _ => ⟨_, rfl, by first | rfl | (simp only [withinB, if_pos c_2]; done) | (simp only [withinB, if_pos c_2]; rfl) | (simp [withinB, c_2]; done) | (simp [withinB, c_2]; rfl), ht⟩) hnil dX4_isWithin_15
  · refine lv_iload_n hx hb dX4_isWithin_5 rfl (lv_at hl 0 rfl) ?_
    refine lv_iload_n hx hb dX4_isWithin_6 rfl (lv_at hl 2 rfl) ?_
    refine lv_icmp_gt (tgt := 14) hx hb dX4_isWithin_7 (by decide) (fun c_7 => ?_) (fun c_7 => ?_)
    · refine lv_iconst (v := 0) hx hb dX4_isWithin_14 (by decide) ?_
      exact W.zret (v := 0) hx hb hr rfl (fun T9 ht _ => ⟨_, rfl, by first | rfl | (simp only [withinB, if_neg c_2, if_pos c_7]; done) | (simp only [withinB, if_neg c_2, if_pos c_7]; rfl) | (simp [withinB, c_2, c_7]; done) | (simp [withinB, c_2, c_7]; rfl), ht⟩) hnil dX4_isWithin_15
    · refine lv_iconst (v := 1) hx hb dX4_isWithin_10 (by decide) ?_
      refine lv_goto (tgt := 15) hx hb dX4_isWithin_11 (by decide) ?_
      exact W.zret (v := 1) hx hb hr rfl (fun T9 ht _ => ⟨_, rfl, by first | rfl | (simp only [withinB, if_neg c_2, if_neg c_7]; done) | (simp only [withinB, if_neg c_2, if_neg c_7]; rfl) | (simp [withinB, c_2, c_7]; done) | (simp [withinB, c_2, c_7]; rfl), ht⟩) hnil dX4_isWithin_15

set_option maxHeartbeats 4000000 in
set_option maxRecDepth 100000 in
theorem c_X4_isCell (l : Launch) (x : Int32) : Met l yX4_isCell wsX4_isCell ({ frames := 0, cells := 0, slots := 0, locals := 0 } : Room) (va_Pc [.int x] (fun _ => True)) (vp_Si (fun r => r = bi (cellB x))) 0 0 (fun _ => False) := by
  refine Met.ofW (cc := cX4_isCell) (maxL := 1) (ret := (some .boolean)) (by decide) rfl ?_
  intro p e s m args below meth c s₁ B hml hv
  obtain ⟨rfl, -⟩ := hv
  have hx := B.exec
  have hb := B.bytes
  have hr := B.returns
  have hts := atoms_spec (ws := wsX4_isCell) B.pre
  have hown : s.vm.findClass RX4 = some m.cls := findClass_of_methodNamed B.named
  have hlocks := B.notSynchronized
  have hl := lv_entry ([.int x]) (n := 1) (Nat.le_of_ble_eq_true rfl)
  rw [lg_entry_eq]
  generalize (lg_sl ([.int x]) ++ List.replicate (1 - (lg_sl ([.int x])).length) Slot.unset).toArray = ls at hl ⊢
  have hl : lv_has ls 1 [(0, .int x)] := hl
  refine lv_iload_n hx hb dX4_isCell_0 rfl (lv_at hl 0 rfl) ?_
  refine lv_if_lt (tgt := 15) hx hb dX4_isCell_1 (by decide) (fun c_1 => ?_) (fun c_1 => ?_)
  · refine lv_iconst (v := 0) hx hb dX4_isCell_15 (by decide) ?_
    exact W.zret (v := 0) hx hb hr rfl (fun T9 ht _ => ⟨_, rfl, by first | rfl | (simp only [cellB, if_pos c_1]; done) | (simp only [cellB, if_pos c_1]; rfl) | (simp [cellB, c_1]; done) | (simp [cellB, c_1]; rfl), ht⟩) hnil dX4_isCell_16
  · refine lv_iload_n hx hb dX4_isCell_4 rfl (lv_at hl 0 rfl) ?_
    refine lv_sipush (v := 160) hx hb dX4_isCell_5 (by decide) ?_
    refine lv_icmp_ge (tgt := 15) hx hb dX4_isCell_8 (by decide) (fun c_8 => ?_) (fun c_8 => ?_)
    · refine lv_iconst (v := 0) hx hb dX4_isCell_15 (by decide) ?_
      exact W.zret (v := 0) hx hb hr rfl (fun T9 ht _ => ⟨_, rfl, by first | rfl | (simp only [cellB, if_neg c_1, if_pos c_8]; done) | (simp only [cellB, if_neg c_1, if_pos c_8]; rfl) | (simp [cellB, c_1, c_8]; done) | (simp [cellB, c_1, c_8]; rfl), ht⟩) hnil dX4_isCell_16
    · refine lv_iconst (v := 1) hx hb dX4_isCell_11 (by decide) ?_
      refine lv_goto (tgt := 16) hx hb dX4_isCell_12 (by decide) ?_
      exact W.zret (v := 1) hx hb hr rfl (fun T9 ht _ => ⟨_, rfl, by first | rfl | (simp only [cellB, if_neg c_1, if_neg c_8]; done) | (simp only [cellB, if_neg c_1, if_neg c_8]; rfl) | (simp [cellB, c_1, c_8]; done) | (simp [cellB, c_1, c_8]; rfl), ht⟩) hnil dX4_isCell_16

set_option maxHeartbeats 4000000 in
set_option maxRecDepth 100000 in
theorem c_X4_isSide (l : Launch) (x : Int32) : Met l yX4_isSide wsX4_isSide ({ frames := 0, cells := 0, slots := 0, locals := 0 } : Room) (va_Pc [.int x] (fun _ => True)) (vp_Si (fun r => r = bi (sideB x))) 0 0 (fun _ => False) := by
  refine Met.ofW (cc := cX4_isSide) (maxL := 1) (ret := (some .boolean)) (by decide) rfl ?_
  intro p e s m args below meth c s₁ B hml hv
  obtain ⟨rfl, -⟩ := hv
  have hx := B.exec
  have hb := B.bytes
  have hr := B.returns
  have hts := atoms_spec (ws := wsX4_isSide) B.pre
  have hown : s.vm.findClass RX4 = some m.cls := findClass_of_methodNamed B.named
  have hlocks := B.notSynchronized
  have hl := lv_entry ([.int x]) (n := 1) (Nat.le_of_ble_eq_true rfl)
  rw [lg_entry_eq]
  generalize (lg_sl ([.int x]) ++ List.replicate (1 - (lg_sl ([.int x])).length) Slot.unset).toArray = ls at hl ⊢
  have hl : lv_has ls 1 [(0, .int x)] := hl
  refine lv_iload_n hx hb dX4_isSide_0 rfl (lv_at hl 0 rfl) ?_
  refine lv_if_eq (tgt := 9) hx hb dX4_isSide_1 (by decide) (fun c_1 => ?_) (fun c_1 => ?_)
  · refine lv_iconst (v := 1) hx hb dX4_isSide_9 (by decide) ?_
    refine lv_goto (tgt := 14) hx hb dX4_isSide_10 (by decide) ?_
    exact W.zret (v := 1) hx hb hr rfl (fun T9 ht _ => ⟨_, rfl, by first | rfl | (simp only [sideB, if_pos c_1]; done) | (simp only [sideB, if_pos c_1]; rfl) | (simp [sideB, c_1]; done) | (simp [sideB, c_1]; rfl), ht⟩) hnil dX4_isSide_14
  · refine lv_iload_n hx hb dX4_isSide_4 rfl (lv_at hl 0 rfl) ?_
    refine lv_iconst (v := 1) hx hb dX4_isSide_5 (by decide) ?_
    refine lv_icmp_ne (tgt := 13) hx hb dX4_isSide_6 (by decide) (fun c_6 => ?_) (fun c_6 => ?_)
    · refine lv_iconst (v := 0) hx hb dX4_isSide_13 (by decide) ?_
      exact W.zret (v := 0) hx hb hr rfl (fun T9 ht _ => ⟨_, rfl, by first | rfl | (simp only [sideB, if_neg c_1, if_neg c_6]; done) | (simp only [sideB, if_neg c_1, if_neg c_6]; rfl) | (simp [sideB, c_1, c_6]; done) | (simp [sideB, c_1, c_6]; rfl), ht⟩) hnil dX4_isSide_14
    · refine lv_iconst (v := 1) hx hb dX4_isSide_9 (by decide) ?_
      refine lv_goto (tgt := 14) hx hb dX4_isSide_10 (by decide) ?_
      exact W.zret (v := 1) hx hb hr rfl (fun T9 ht _ => ⟨_, rfl, by first | rfl | (simp only [sideB, if_neg c_1, if_pos c_6]; done) | (simp only [sideB, if_neg c_1, if_pos c_6]; rfl) | (simp [sideB, c_1, c_6]; done) | (simp [sideB, c_1, c_6]; rfl), ht⟩) hnil dX4_isSide_14

set_option maxHeartbeats 4000000 in
set_option maxRecDepth 100000 in
theorem c_X4_cell (l : Launch) (hst : l.stackTraces = false) (D : va_G) (cI : ClassId) (sz : Nat) (h t0 l0 m0 : Nat) (a : Nat → Nat) (σ : SS) (x : Int32) : vx_Met l yX4_cell wsX4_cell ({ frames := 6, cells := 1, slots := 6, locals := 82 } : Room) (va_Pc [.ref h, .int x] (preX D cI (wW h (a 0) t0 l0 m0 ++ sW cI a σ) sz)) (va_Qi (fun (r : Int32) (u : SS) => cellT x = 0 ∧ r = kindF σ x ∧ u = σ) (fun (u : SS) => posM D cI (va_A (wW h (a 0) t0 l0 m0 ++ sW cI a σ) sz) (wW h (a 0) t0 l0 m0 ++ sW cI a u)) (va_A (wW h (a 0) t0 l0 m0 ++ sW cI a σ) sz)) (thrX (cellT x) nmI D cI (va_A (wW h (a 0) t0 l0 m0 ++ sW cI a σ) sz) (wW h (a 0) t0 l0 m0 ++ sW cI a σ)) 1 6 (va_A (wW h (a 0) t0 l0 m0 ++ sW cI a σ) sz) := by
  refine vx_ofW (cc := cX4_cell) (maxL := 2) (ret := (some .int)) (by decide) rfl ?_
  intro p e s m args below meth c s₁ B hml hno hv
  obtain ⟨rfl, hsz, hP, hK, hXV, hD0, hTX⟩ := hv
  have hE := hXV.1
  have hx := B.exec
  have hb := B.bytes
  have hr := B.returns
  have hts := atoms_spec (ws := wsX4_cell) B.pre
  have hown : s.vm.findClass RX4 = some m.cls := findClass_of_methodNamed B.named
  have hlocks := B.notSynchronized
  subst hsz
  have hD := hD0.self (sz := s.heap.size)
  generalize hAe : va_A (wW h (a 0) t0 l0 m0 ++ sW cI a σ) s.heap.size = A at hD hTX ⊢
  have hA : ∀ q : Nat, s.heap.size ≤ q → A q := fun q h => by rw [← hAe]; exact Or.inr h
  have hS : va_S A s.heap s.heap [] := va_S.rf
  have hP : va_P D vwCl (wW h (a 0) t0 l0 m0 ++ sW cI a σ) s.heap := hP
  have hl := lv_entry ([.ref h, .int x]) (n := 2) (Nat.le_of_ble_eq_true rfl)
  rw [lg_entry_eq]
  generalize (lg_sl ([.ref h, .int x]) ++ List.replicate (2 - (lg_sl ([.ref h, .int x])).length) Slot.unset).toArray = ls at hl ⊢
  have hl : lv_has ls 2 [(0, .ref h), (1, .int x)] := hl
  refine lv_iload_n hx hb dX4_cell_0 rfl (lv_at hl 1 rfl) ?_
  refine vp_callSi (va_Run.run (va_runS (As := [.int x]) (rest := []) ⟨hx, hb, hml, hown, hts⟩ (c_X4_isCell l x) (va_cwS 1 hts gX4_cell_X4_isCell rfl rfl rfl (by decide +kernel) ⟨Nat.le_of_ble_eq_true rfl, Nat.le_of_ble_eq_true rfl⟩) ⟨fun _ _ _ _ q => q, fun _ _ _ => ⟨rfl, trivial⟩⟩ rfl rfl hl.1 rfl (lv_room (Nat.le_of_ble_eq_true rfl)) dX4_cell_1 ⟨Nat.zero_le _, Nat.zero_le _⟩)) (fun r hr9 => ?_)
  subst hr9
  refine w_bnz (tgt := 17) hx hb dX4_cell_4 (by decide) (fun c_4 => ?_) (fun c_4 => ?_)
  · refine lv_aload_n hx hb dX4_cell_17 rfl (lv_at hl 0 rfl) ?_
    refine va_get (D := D) (ci := 4) (v := .ref (a 0)) (C := RX4) (T := TX4) (N := 4) hx hb hts (by decide +kernel) hown hK hP 0 rfl rfl 0 (by decide) (hts (.fieldLink RX4 12 "Warren" "state" "LWarren$State;") (by decide +kernel)) (fun _ h9 => h9) rfl dX4_cell_18 ?_
    refine lv_iload_n hx hb dX4_cell_21 rfl (lv_at hl 1 rfl) ?_
    refine vp_callSi (va_Run.run (va_runV (As := [.int x]) (rest := []) ⟨hx, hb, hml, hown, hts⟩ (c_X2_kindAt l D cI a σ x) (cwV 1 hts gX4_cell_X2_kindAt rfl rfl rfl (by decide +kernel) ⟨Nat.le_of_ble_eq_true rfl, Nat.le_of_ble_eq_true rfl⟩) ⟨preR_blind, va_recv hK hP (ci := 2) (q0 := 1) rfl rfl, preR_of (hP.sub (ws' := sW cI a σ) [1, 2, 3, 4, 5, 6] rfl) hK hE [.ref (a 0), .int x]⟩ rfl rfl hl.1 rfl (lv_room (Nat.le_of_ble_eq_true rfl)) dX4_cell_22 ⟨Nat.zero_le _, Nat.zero_le _⟩)) (fun r hr9 => ?_)
    subst hr9
    have hP9 := hP
    have hD9 := hD
    refine W.widen (k := 1) (n := 6) (Nat.le_of_ble_eq_true rfl) (Nat.le_of_ble_eq_true rfl) ?_
    refine vx_ret ?_
    exact W.iret (v := (kindF σ x)) hx hb hr (fun T9 ht hW => ⟨⟨(kindF σ x), σ, rfl, ⟨by simp [cellT, c_4], by first | rfl | (simp [c_4]; done) | (simp [c_4]; rfl), by first | rfl | (simp [c_4]; done)⟩, by rw [ht]; exact hP9, va_K.moved hW.alike hK, hD9⟩, hS.F ht⟩) hS.2.2 dX4_cell_25
  · have hT : cellT x = 1 := by simp [cellT, c_4]
    obtain ⟨sa, hstr⟩ := hXV.2.1 _ (List.mem_of_getElem? (i := 1) (a := (54, "no such cell")) rfl)
    have hat : ∀ w ∈ vx_atS RX4 56 "java/lang/IndexOutOfBoundsException" ["java/lang/RuntimeException", "java/lang/Exception"], w.before _ s = true := vx_hat (B := [.castable "java/lang/IndexOutOfBoundsException" "java/lang/IndexOutOfBoundsException", decl_1, decl_2, decl_3]) (fun w h => hts w (List.mem_cons_of_mem _ (List.mem_append_right _ h))) (by decide +kernel) (vx_c (va_Nw.use rfl hXV.2.2.2.2.1) (vx_c (va_Nw.use rfl hXV.2.2.2.2.2.1) (vx_c (va_Nw.use rfl hXV.2.2.2.2.2.2.1) (vx_c (va_Nw.use rfl hXV.2.2.2.2.2.2.2) vx_n))))
    exact vx_throwS (own := RX4) (cls := "java/lang/IndexOutOfBoundsException") (text := "no such cell") (names := ["java/lang/RuntimeException", "java/lang/Exception"]) (ik := 52) (is := 54) (ic := 56) (sa := sa) (A := A) hx hb hst hown (by decide +kernel) (by decide +kernel) (hts (.classLink RX4 52 "java/lang/IndexOutOfBoundsException") (by decide +kernel)) (hts (.initialized "java/lang/IndexOutOfBoundsException") (by decide +kernel)) hstr hat (by decide +kernel) hTX.1 hTX.2 hS (hl.1.trans hml.symm) dX4_cell_7 dX4_cell_10 dX4_cell_11 dX4_cell_13 dX4_cell_16 (fun x hx9 => (hno x hx9).elim) (Nat.le_of_ble_eq_true rfl) (Nat.le_of_ble_eq_true rfl) (Nat.le_of_ble_eq_true rfl) (Nat.le_of_ble_eq_true rfl) hlocks (thr_of (by rw [hT]; decide) (by rw [hT]; rfl) hP hK hD hS) hS.2.2 (Nat.le_of_ble_eq_true rfl) (Nat.le_of_ble_eq_true rfl)
end
