section
-- ===== PART A: goes FIRST, ahead of the names: the tables' words, and 'selects' of the private methods out of them =====
/-- a private method of a class that the tables say can be made, by its rows of tables_1 -/
def lw_okq (q : MethodName × Nat) : Prop := (q.1.cls ≠ "java/lang/invoke/MethodHandle" ∧ q.1.cls ≠ "java/lang/invoke/VarHandle") ∧ Cond.instantiable q.1.cls q.2 ∈ tables_1 ∧ Cond.privateMethod q.1 ∈ tables_1 ∧ Cond.instanceMethod q.1 ∈ tables_1
theorem lw_p0 : lw_okq (⟨"LeastAlone", "isSlip", "(I)Z"⟩, 12) := ⟨⟨by decide +kernel, by decide +kernel⟩, List.mem_of_getElem? (i := 15) (by decide +kernel), List.mem_of_getElem? (i := 342) (by decide +kernel), List.mem_of_getElem? (i := 343) (by decide +kernel)⟩
theorem lw_p1 : lw_okq (⟨"LeastAlone", "isUntold", "()Z"⟩, 12) := ⟨⟨by decide +kernel, by decide +kernel⟩, List.mem_of_getElem? (i := 15) (by decide +kernel), List.mem_of_getElem? (i := 354) (by decide +kernel), List.mem_of_getElem? (i := 355) (by decide +kernel)⟩
theorem lw_p2 : lw_okq (⟨"LeastAlone", "weighOthers", "(I)V"⟩, 12) := ⟨⟨by decide +kernel, by decide +kernel⟩, List.mem_of_getElem? (i := 15) (by decide +kernel), List.mem_of_getElem? (i := 410) (by decide +kernel), List.mem_of_getElem? (i := 411) (by decide +kernel)⟩
theorem lw_p3 : lw_okq (⟨"LeastAlone", "lower", "(I)J"⟩, 12) := ⟨⟨by decide +kernel, by decide +kernel⟩, List.mem_of_getElem? (i := 15) (by decide +kernel), List.mem_of_getElem? (i := 454) (by decide +kernel), List.mem_of_getElem? (i := 455) (by decide +kernel)⟩
theorem lw_p4 : lw_okq (⟨"LeastAlone", "weighAll", "()V"⟩, 12) := ⟨⟨by decide +kernel, by decide +kernel⟩, List.mem_of_getElem? (i := 15) (by decide +kernel), List.mem_of_getElem? (i := 495) (by decide +kernel), List.mem_of_getElem? (i := 496) (by decide +kernel)⟩
theorem lw_p5 : lw_okq (⟨"LeastAlone$Calm", "judge", "()V"⟩, 6) := ⟨⟨by decide +kernel, by decide +kernel⟩, List.mem_of_getElem? (i := 168) (by decide +kernel), List.mem_of_getElem? (i := 526) (by decide +kernel), List.mem_of_getElem? (i := 527) (by decide +kernel)⟩
theorem lw_p6 : lw_okq (⟨"LeastAlone", "isSet", "(I)Z"⟩, 12) := ⟨⟨by decide +kernel, by decide +kernel⟩, List.mem_of_getElem? (i := 15) (by decide +kernel), List.mem_of_getElem? (i := 547) (by decide +kernel), List.mem_of_getElem? (i := 548) (by decide +kernel)⟩
theorem lw_p7 : lw_okq (⟨"LeastAlone$Pact", "gather", "(LLeastAlone$Table;)V"⟩, 6) := ⟨⟨by decide +kernel, by decide +kernel⟩, List.mem_of_getElem? (i := 199) (by decide +kernel), List.mem_of_getElem? (i := 564) (by decide +kernel), List.mem_of_getElem? (i := 565) (by decide +kernel)⟩
theorem lw_p8 : lw_okq (⟨"LeastAlone$Pact", "judge", "()V"⟩, 6) := ⟨⟨by decide +kernel, by decide +kernel⟩, List.mem_of_getElem? (i := 199) (by decide +kernel), List.mem_of_getElem? (i := 570) (by decide +kernel), List.mem_of_getElem? (i := 571) (by decide +kernel)⟩
theorem lw_p9 : lw_okq (⟨"LeastAlone", "weighPad", "(I)V"⟩, 12) := ⟨⟨by decide +kernel, by decide +kernel⟩, List.mem_of_getElem? (i := 15) (by decide +kernel), List.mem_of_getElem? (i := 588) (by decide +kernel), List.mem_of_getElem? (i := 589) (by decide +kernel)⟩
theorem lw_p10 : lw_okq (⟨"LeastAlone$Arrivals", "rank", "(I)I"⟩, 2) := ⟨⟨by decide +kernel, by decide +kernel⟩, List.mem_of_getElem? (i := 231) (by decide +kernel), List.mem_of_getElem? (i := 619) (by decide +kernel), List.mem_of_getElem? (i := 620) (by decide +kernel)⟩
theorem lw_p11 : lw_okq (⟨"LeastAlone$Fit", "bind", "(II)V"⟩, 7) := ⟨⟨by decide +kernel, by decide +kernel⟩, List.mem_of_getElem? (i := 247) (by decide +kernel), List.mem_of_getElem? (i := 654) (by decide +kernel), List.mem_of_getElem? (i := 655) (by decide +kernel)⟩
theorem lw_p12 : lw_okq (⟨"LeastAlone$Fit", "demand", "(I)V"⟩, 7) := ⟨⟨by decide +kernel, by decide +kernel⟩, List.mem_of_getElem? (i := 247) (by decide +kernel), List.mem_of_getElem? (i := 658) (by decide +kernel), List.mem_of_getElem? (i := 659) (by decide +kernel)⟩
theorem lw_p13 : lw_okq (⟨"LeastAlone", "toldOfOne", "(I)I"⟩, 12) := ⟨⟨by decide +kernel, by decide +kernel⟩, List.mem_of_getElem? (i := 15) (by decide +kernel), List.mem_of_getElem? (i := 717) (by decide +kernel), List.mem_of_getElem? (i := 718) (by decide +kernel)⟩
theorem lw_p14 : lw_okq (⟨"LeastAloneModel", "plain", "()V"⟩, 24) := ⟨⟨by decide +kernel, by decide +kernel⟩, List.mem_of_getElem? (i := 721) (by decide +kernel), List.mem_of_getElem? (i := 728) (by decide +kernel), List.mem_of_getElem? (i := 729) (by decide +kernel)⟩
theorem lw_p15 : lw_okq (⟨"LeastAloneModel", "faultOf", "()I"⟩, 24) := ⟨⟨by decide +kernel, by decide +kernel⟩, List.mem_of_getElem? (i := 721) (by decide +kernel), List.mem_of_getElem? (i := 828) (by decide +kernel), List.mem_of_getElem? (i := 829) (by decide +kernel)⟩
def lw_privs_1 : List (MethodName × Nat) := [(⟨"LeastAlone", "isSlip", "(I)Z"⟩, 12), (⟨"LeastAlone", "isUntold", "()Z"⟩, 12), (⟨"LeastAlone", "weighOthers", "(I)V"⟩, 12), (⟨"LeastAlone", "lower", "(I)J"⟩, 12), (⟨"LeastAlone", "weighAll", "()V"⟩, 12), (⟨"LeastAlone$Calm", "judge", "()V"⟩, 6), (⟨"LeastAlone", "isSet", "(I)Z"⟩, 12), (⟨"LeastAlone$Pact", "gather", "(LLeastAlone$Table;)V"⟩, 6), (⟨"LeastAlone$Pact", "judge", "()V"⟩, 6), (⟨"LeastAlone", "weighPad", "(I)V"⟩, 12), (⟨"LeastAlone$Arrivals", "rank", "(I)I"⟩, 2), (⟨"LeastAlone$Fit", "bind", "(II)V"⟩, 7), (⟨"LeastAlone$Fit", "demand", "(I)V"⟩, 7), (⟨"LeastAlone", "toldOfOne", "(I)I"⟩, 12), (⟨"LeastAloneModel", "plain", "()V"⟩, 24), (⟨"LeastAloneModel", "faultOf", "()I"⟩, 24)]
theorem lw_r1 : ∀ q ∈ lw_privs_1, lw_okq q := List.forall_mem_cons.mpr ⟨lw_p0, List.forall_mem_cons.mpr ⟨lw_p1, List.forall_mem_cons.mpr ⟨lw_p2, List.forall_mem_cons.mpr ⟨lw_p3, List.forall_mem_cons.mpr ⟨lw_p4, List.forall_mem_cons.mpr ⟨lw_p5, List.forall_mem_cons.mpr ⟨lw_p6, List.forall_mem_cons.mpr ⟨lw_p7, List.forall_mem_cons.mpr ⟨lw_p8, List.forall_mem_cons.mpr ⟨lw_p9, List.forall_mem_cons.mpr ⟨lw_p10, List.forall_mem_cons.mpr ⟨lw_p11, List.forall_mem_cons.mpr ⟨lw_p12, List.forall_mem_cons.mpr ⟨lw_p13, List.forall_mem_cons.mpr ⟨lw_p14, List.forall_mem_cons.mpr ⟨lw_p15, fun _ h => absurd h List.not_mem_nil⟩⟩⟩⟩⟩⟩⟩⟩⟩⟩⟩⟩⟩⟩⟩⟩
theorem lw_p16 : lw_okq (⟨"LeastAloneModel", "nobodyWrote", "()V"⟩, 24) := ⟨⟨by decide +kernel, by decide +kernel⟩, List.mem_of_getElem? (i := 721) (by decide +kernel), List.mem_of_getElem? (i := 836) (by decide +kernel), List.mem_of_getElem? (i := 837) (by decide +kernel)⟩
theorem lw_p17 : lw_okq (⟨"LeastAloneModel", "winner", "([I)I"⟩, 24) := ⟨⟨by decide +kernel, by decide +kernel⟩, List.mem_of_getElem? (i := 721) (by decide +kernel), List.mem_of_getElem? (i := 840) (by decide +kernel), List.mem_of_getElem? (i := 841) (by decide +kernel)⟩
theorem lw_p18 : lw_okq (⟨"LeastAloneModel", "isNumber", "(I)Z"⟩, 24) := ⟨⟨by decide +kernel, by decide +kernel⟩, List.mem_of_getElem? (i := 721) (by decide +kernel), List.mem_of_getElem? (i := 848) (by decide +kernel), List.mem_of_getElem? (i := 849) (by decide +kernel)⟩
theorem lw_p19 : lw_okq (⟨"LeastAloneModel", "allWeights", "()I"⟩, 24) := ⟨⟨by decide +kernel, by decide +kernel⟩, List.mem_of_getElem? (i := 721) (by decide +kernel), List.mem_of_getElem? (i := 852) (by decide +kernel), List.mem_of_getElem? (i := 853) (by decide +kernel)⟩
theorem lw_p20 : lw_okq (⟨"LeastAloneModel", "isMan", "(I)Z"⟩, 24) := ⟨⟨by decide +kernel, by decide +kernel⟩, List.mem_of_getElem? (i := 721) (by decide +kernel), List.mem_of_getElem? (i := 860) (by decide +kernel), List.mem_of_getElem? (i := 861) (by decide +kernel)⟩
theorem lw_p21 : lw_okq (⟨"LeastAloneModel", "layOthers", "(I)V"⟩, 24) := ⟨⟨by decide +kernel, by decide +kernel⟩, List.mem_of_getElem? (i := 721) (by decide +kernel), List.mem_of_getElem? (i := 870) (by decide +kernel), List.mem_of_getElem? (i := 871) (by decide +kernel)⟩
theorem lw_p22 : lw_okq (⟨"LeastAloneModel", "asWeights", "()V"⟩, 24) := ⟨⟨by decide +kernel, by decide +kernel⟩, List.mem_of_getElem? (i := 721) (by decide +kernel), List.mem_of_getElem? (i := 874) (by decide +kernel), List.mem_of_getElem? (i := 875) (by decide +kernel)⟩
theorem lw_p23 : lw_okq (⟨"LeastAloneModel", "worthOf", "(I)J"⟩, 24) := ⟨⟨by decide +kernel, by decide +kernel⟩, List.mem_of_getElem? (i := 721) (by decide +kernel), List.mem_of_getElem? (i := 878) (by decide +kernel), List.mem_of_getElem? (i := 879) (by decide +kernel)⟩
theorem lw_p24 : lw_okq (⟨"LeastAloneModel", "waysToWin", "(I)J"⟩, 24) := ⟨⟨by decide +kernel, by decide +kernel⟩, List.mem_of_getElem? (i := 721) (by decide +kernel), List.mem_of_getElem? (i := 882) (by decide +kernel), List.mem_of_getElem? (i := 883) (by decide +kernel)⟩
theorem lw_p25 : lw_okq (⟨"LeastAloneModel", "beginFill", "()V"⟩, 24) := ⟨⟨by decide +kernel, by decide +kernel⟩, List.mem_of_getElem? (i := 721) (by decide +kernel), List.mem_of_getElem? (i := 886) (by decide +kernel), List.mem_of_getElem? (i := 887) (by decide +kernel)⟩
theorem lw_p26 : lw_okq (⟨"LeastAloneModel", "both", "()V"⟩, 24) := ⟨⟨by decide +kernel, by decide +kernel⟩, List.mem_of_getElem? (i := 721) (by decide +kernel), List.mem_of_getElem? (i := 890) (by decide +kernel), List.mem_of_getElem? (i := 891) (by decide +kernel)⟩
theorem lw_p27 : lw_okq (⟨"LeastAloneModel", "waysOfFill", "()J"⟩, 24) := ⟨⟨by decide +kernel, by decide +kernel⟩, List.mem_of_getElem? (i := 721) (by decide +kernel), List.mem_of_getElem? (i := 895) (by decide +kernel), List.mem_of_getElem? (i := 896) (by decide +kernel)⟩
theorem lw_p28 : lw_okq (⟨"LeastAloneModel", "nextFill", "()Z"⟩, 24) := ⟨⟨by decide +kernel, by decide +kernel⟩, List.mem_of_getElem? (i := 721) (by decide +kernel), List.mem_of_getElem? (i := 905) (by decide +kernel), List.mem_of_getElem? (i := 906) (by decide +kernel)⟩
theorem lw_p29 : lw_okq (⟨"LeastAloneModel", "lowOf", "()J"⟩, 24) := ⟨⟨by decide +kernel, by decide +kernel⟩, List.mem_of_getElem? (i := 721) (by decide +kernel), List.mem_of_getElem? (i := 909) (by decide +kernel), List.mem_of_getElem? (i := 910) (by decide +kernel)⟩
theorem lw_p30 : lw_okq (⟨"LeastAloneModel", "sumOfWeights", "()I"⟩, 24) := ⟨⟨by decide +kernel, by decide +kernel⟩, List.mem_of_getElem? (i := 721) (by decide +kernel), List.mem_of_getElem? (i := 913) (by decide +kernel), List.mem_of_getElem? (i := 914) (by decide +kernel)⟩
theorem lw_p31 : lw_okq (⟨"LeastAloneModel", "bestOf", "()I"⟩, 24) := ⟨⟨by decide +kernel, by decide +kernel⟩, List.mem_of_getElem? (i := 721) (by decide +kernel), List.mem_of_getElem? (i := 924) (by decide +kernel), List.mem_of_getElem? (i := 925) (by decide +kernel)⟩
def lw_privs_2 : List (MethodName × Nat) := [(⟨"LeastAloneModel", "nobodyWrote", "()V"⟩, 24), (⟨"LeastAloneModel", "winner", "([I)I"⟩, 24), (⟨"LeastAloneModel", "isNumber", "(I)Z"⟩, 24), (⟨"LeastAloneModel", "allWeights", "()I"⟩, 24), (⟨"LeastAloneModel", "isMan", "(I)Z"⟩, 24), (⟨"LeastAloneModel", "layOthers", "(I)V"⟩, 24), (⟨"LeastAloneModel", "asWeights", "()V"⟩, 24), (⟨"LeastAloneModel", "worthOf", "(I)J"⟩, 24), (⟨"LeastAloneModel", "waysToWin", "(I)J"⟩, 24), (⟨"LeastAloneModel", "beginFill", "()V"⟩, 24), (⟨"LeastAloneModel", "both", "()V"⟩, 24), (⟨"LeastAloneModel", "waysOfFill", "()J"⟩, 24), (⟨"LeastAloneModel", "nextFill", "()Z"⟩, 24), (⟨"LeastAloneModel", "lowOf", "()J"⟩, 24), (⟨"LeastAloneModel", "sumOfWeights", "()I"⟩, 24), (⟨"LeastAloneModel", "bestOf", "()I"⟩, 24)]
theorem lw_r2 : ∀ q ∈ lw_privs_2, lw_okq q := List.forall_mem_cons.mpr ⟨lw_p16, List.forall_mem_cons.mpr ⟨lw_p17, List.forall_mem_cons.mpr ⟨lw_p18, List.forall_mem_cons.mpr ⟨lw_p19, List.forall_mem_cons.mpr ⟨lw_p20, List.forall_mem_cons.mpr ⟨lw_p21, List.forall_mem_cons.mpr ⟨lw_p22, List.forall_mem_cons.mpr ⟨lw_p23, List.forall_mem_cons.mpr ⟨lw_p24, List.forall_mem_cons.mpr ⟨lw_p25, List.forall_mem_cons.mpr ⟨lw_p26, List.forall_mem_cons.mpr ⟨lw_p27, List.forall_mem_cons.mpr ⟨lw_p28, List.forall_mem_cons.mpr ⟨lw_p29, List.forall_mem_cons.mpr ⟨lw_p30, List.forall_mem_cons.mpr ⟨lw_p31, fun _ h => absurd h List.not_mem_nil⟩⟩⟩⟩⟩⟩⟩⟩⟩⟩⟩⟩⟩⟩⟩⟩
theorem lw_p32 : lw_okq (⟨"LeastAloneModel", "meanOf", "()J"⟩, 24) := ⟨⟨by decide +kernel, by decide +kernel⟩, List.mem_of_getElem? (i := 721) (by decide +kernel), List.mem_of_getElem? (i := 932) (by decide +kernel), List.mem_of_getElem? (i := 933) (by decide +kernel)⟩
theorem lw_p33 : lw_okq (⟨"LeastAloneModel", "gapOf", "()J"⟩, 24) := ⟨⟨by decide +kernel, by decide +kernel⟩, List.mem_of_getElem? (i := 721) (by decide +kernel), List.mem_of_getElem? (i := 936) (by decide +kernel), List.mem_of_getElem? (i := 937) (by decide +kernel)⟩
theorem lw_p34 : lw_okq (⟨"LeastAloneModel", "waysOfNobody", "()J"⟩, 24) := ⟨⟨by decide +kernel, by decide +kernel⟩, List.mem_of_getElem? (i := 721) (by decide +kernel), List.mem_of_getElem? (i := 944) (by decide +kernel), List.mem_of_getElem? (i := 945) (by decide +kernel)⟩
theorem lw_p35 : lw_okq (⟨"LeastAloneModel", "layRest", "(I)V"⟩, 24) := ⟨⟨by decide +kernel, by decide +kernel⟩, List.mem_of_getElem? (i := 721) (by decide +kernel), List.mem_of_getElem? (i := 952) (by decide +kernel), List.mem_of_getElem? (i := 953) (by decide +kernel)⟩
theorem lw_p36 : lw_okq (⟨"LeastAloneModel", "nextWeights", "()Z"⟩, 24) := ⟨⟨by decide +kernel, by decide +kernel⟩, List.mem_of_getElem? (i := 721) (by decide +kernel), List.mem_of_getElem? (i := 957) (by decide +kernel), List.mem_of_getElem? (i := 958) (by decide +kernel)⟩
theorem lw_p37 : lw_okq (⟨"LeastAloneModel", "isSet", "(I)Z"⟩, 24) := ⟨⟨by decide +kernel, by decide +kernel⟩, List.mem_of_getElem? (i := 721) (by decide +kernel), List.mem_of_getElem? (i := 969) (by decide +kernel), List.mem_of_getElem? (i := 970) (by decide +kernel)⟩
theorem lw_p38 : lw_okq (⟨"LeastAloneModel", "layLeague", "(I)V"⟩, 24) := ⟨⟨by decide +kernel, by decide +kernel⟩, List.mem_of_getElem? (i := 721) (by decide +kernel), List.mem_of_getElem? (i := 976) (by decide +kernel), List.mem_of_getElem? (i := 977) (by decide +kernel)⟩
theorem lw_p39 : lw_okq (⟨"LeastAloneModel", "layAgreed", "(II)Z"⟩, 24) := ⟨⟨by decide +kernel, by decide +kernel⟩, List.mem_of_getElem? (i := 721) (by decide +kernel), List.mem_of_getElem? (i := 980) (by decide +kernel), List.mem_of_getElem? (i := 981) (by decide +kernel)⟩
theorem lw_p40 : lw_okq (⟨"LeastAloneModel", "waysOfSet", "(I)J"⟩, 24) := ⟨⟨by decide +kernel, by decide +kernel⟩, List.mem_of_getElem? (i := 721) (by decide +kernel), List.mem_of_getElem? (i := 984) (by decide +kernel), List.mem_of_getElem? (i := 985) (by decide +kernel)⟩
theorem lw_p41 : lw_okq (⟨"LeastAloneModel", "layTold", "(I)V"⟩, 24) := ⟨⟨by decide +kernel, by decide +kernel⟩, List.mem_of_getElem? (i := 721) (by decide +kernel), List.mem_of_getElem? (i := 996) (by decide +kernel), List.mem_of_getElem? (i := 997) (by decide +kernel)⟩
theorem lw_p42 : lw_okq (⟨"LeastAloneModel", "lateEvening", "()I"⟩, 24) := ⟨⟨by decide +kernel, by decide +kernel⟩, List.mem_of_getElem? (i := 721) (by decide +kernel), List.mem_of_getElem? (i := 1013) (by decide +kernel), List.mem_of_getElem? (i := 1014) (by decide +kernel)⟩
theorem lw_p43 : lw_okq (⟨"LeastAloneModel", "layWrote", "(I)V"⟩, 24) := ⟨⟨by decide +kernel, by decide +kernel⟩, List.mem_of_getElem? (i := 721) (by decide +kernel), List.mem_of_getElem? (i := 1017) (by decide +kernel), List.mem_of_getElem? (i := 1018) (by decide +kernel)⟩
theorem lw_p44 : lw_okq (⟨"LeastAloneModel", "hasOf", "(I)I"⟩, 24) := ⟨⟨by decide +kernel, by decide +kernel⟩, List.mem_of_getElem? (i := 721) (by decide +kernel), List.mem_of_getElem? (i := 1021) (by decide +kernel), List.mem_of_getElem? (i := 1022) (by decide +kernel)⟩
theorem lw_p45 : lw_okq (⟨"LeastAloneModel", "codes", "()I"⟩, 24) := ⟨⟨by decide +kernel, by decide +kernel⟩, List.mem_of_getElem? (i := 721) (by decide +kernel), List.mem_of_getElem? (i := 1043) (by decide +kernel), List.mem_of_getElem? (i := 1044) (by decide +kernel)⟩
theorem lw_p46 : lw_okq (⟨"LeastAloneModel", "isSeen", "(I)Z"⟩, 24) := ⟨⟨by decide +kernel, by decide +kernel⟩, List.mem_of_getElem? (i := 721) (by decide +kernel), List.mem_of_getElem? (i := 1047) (by decide +kernel), List.mem_of_getElem? (i := 1048) (by decide +kernel)⟩
def lw_privs_3 : List (MethodName × Nat) := [(⟨"LeastAloneModel", "meanOf", "()J"⟩, 24), (⟨"LeastAloneModel", "gapOf", "()J"⟩, 24), (⟨"LeastAloneModel", "waysOfNobody", "()J"⟩, 24), (⟨"LeastAloneModel", "layRest", "(I)V"⟩, 24), (⟨"LeastAloneModel", "nextWeights", "()Z"⟩, 24), (⟨"LeastAloneModel", "isSet", "(I)Z"⟩, 24), (⟨"LeastAloneModel", "layLeague", "(I)V"⟩, 24), (⟨"LeastAloneModel", "layAgreed", "(II)Z"⟩, 24), (⟨"LeastAloneModel", "waysOfSet", "(I)J"⟩, 24), (⟨"LeastAloneModel", "layTold", "(I)V"⟩, 24), (⟨"LeastAloneModel", "lateEvening", "()I"⟩, 24), (⟨"LeastAloneModel", "layWrote", "(I)V"⟩, 24), (⟨"LeastAloneModel", "hasOf", "(I)I"⟩, 24), (⟨"LeastAloneModel", "codes", "()I"⟩, 24), (⟨"LeastAloneModel", "isSeen", "(I)Z"⟩, 24)]
theorem lw_r3 : ∀ q ∈ lw_privs_3, lw_okq q := List.forall_mem_cons.mpr ⟨lw_p32, List.forall_mem_cons.mpr ⟨lw_p33, List.forall_mem_cons.mpr ⟨lw_p34, List.forall_mem_cons.mpr ⟨lw_p35, List.forall_mem_cons.mpr ⟨lw_p36, List.forall_mem_cons.mpr ⟨lw_p37, List.forall_mem_cons.mpr ⟨lw_p38, List.forall_mem_cons.mpr ⟨lw_p39, List.forall_mem_cons.mpr ⟨lw_p40, List.forall_mem_cons.mpr ⟨lw_p41, List.forall_mem_cons.mpr ⟨lw_p42, List.forall_mem_cons.mpr ⟨lw_p43, List.forall_mem_cons.mpr ⟨lw_p44, List.forall_mem_cons.mpr ⟨lw_p45, List.forall_mem_cons.mpr ⟨lw_p46, fun _ h => absurd h List.not_mem_nil⟩⟩⟩⟩⟩⟩⟩⟩⟩⟩⟩⟩⟩⟩⟩
def lw_privs : List (MethodName × Nat) := lw_privs_1 ++ (lw_privs_2 ++ (lw_privs_3))
def lw_tbl : List Cond := k2_sels lw_privs ++ tables_1
theorem lw_privs_ok : ∀ q ∈ lw_privs, lw_okq q := by
  show ∀ q ∈ lw_privs_1 ++ (lw_privs_2 ++ (lw_privs_3)), lw_okq q
  exact List.forall_mem_append.mpr ⟨lw_r1, List.forall_mem_append.mpr ⟨lw_r2, lw_r3⟩⟩
end
section

def RX0 : String := "LeastAlone$Arrivals"
def TX0 : u_T := fun k => match k with
  | 0 => ("LeastAlone$Arrivals", "counts", "[I", true)
  | _ => ("LeastAlone$Arrivals", "ends", "[B", true)
def tyX0 : Nat → FieldType := fun k => match k with
  | 0 => .array .int
  | _ => .array .byte
theorem nmX0 : ∀ a, a < 2 → ∀ b, b < 2 → a ≠ b → (TX0 a).2.1 ≠ (TX0 b).2.1 := by decide +kernel
theorem tyX0_ok : ∀ k, k < 2 → parseFieldDescriptor (TX0 k).2.2.1 = some (tyX0 k) := by decide +kernel
abbrev cX0_init : ByteArray := prog_2_method_1_code
def yX0_init : MethodName := ⟨RX0, "<init>", "()V"⟩
abbrev cX0_play : ByteArray := prog_2_method_2_code
def yX0_play : MethodName := ⟨RX0, "play", "(LLeastAlone$Table;LLeastAlone$Evening;)I"⟩
abbrev cX0_rank : ByteArray := prog_2_method_3_code
def yX0_rank : MethodName := ⟨RX0, "rank", "(I)I"⟩
def RX1 : String := "LeastAlone$Calm"
def TX1 : u_T := fun k => match k with
  | 0 => ("LeastAlone$Calm", "gains", "LLeastAlone$Gains;", true)
  | 1 => ("LeastAlone$Calm", "keys", "[I", true)
  | 2 => ("LeastAlone$Calm", "rows", "[I", true)
  | 3 => ("LeastAlone$Calm", "gaps", "[J", true)
  | 4 => ("LeastAlone$Calm", "row", "[I", true)
  | _ => ("LeastAlone$Calm", "sum", "I", false)
def tyX1 : Nat → FieldType := fun k => match k with
  | 0 => .object "LeastAlone$Gains"
  | 1 => .array .int
  | 2 => .array .int
  | 3 => .array .long
  | 4 => .array .int
  | _ => .int
theorem nmX1 : ∀ a, a < 6 → ∀ b, b < 6 → a ≠ b → (TX1 a).2.1 ≠ (TX1 b).2.1 := by decide +kernel
theorem tyX1_ok : ∀ k, k < 6 → parseFieldDescriptor (TX1 k).2.2.1 = some (tyX1 k) := by decide +kernel
abbrev cX1_init : ByteArray := prog_3_method_1_code
def yX1_init : MethodName := ⟨RX1, "<init>", "()V"⟩
abbrev cX1_find : ByteArray := prog_3_method_2_code
def yX1_find : MethodName := ⟨RX1, "find", "(LLeastAlone$Table;I)V"⟩
abbrev cX1_weightOf : ByteArray := prog_3_method_3_code
def yX1_weightOf : MethodName := ⟨RX1, "weightOf", "(II)I"⟩
abbrev cX1_judge : ByteArray := prog_3_method_4_code
def yX1_judge : MethodName := ⟨RX1, "judge", "()V"⟩
def RX2 : String := "LeastAlone$Evening"
def TX2 : u_T := fun k => match k with
  | 0 => ("LeastAlone$Evening", "slips", "[I", true)
  | _ => ("LeastAlone$Evening", "counts", "[I", true)
def tyX2 : Nat → FieldType := fun k => match k with
  | 0 => .array .int
  | _ => .array .int
theorem nmX2 : ∀ a, a < 2 → ∀ b, b < 2 → a ≠ b → (TX2 a).2.1 ≠ (TX2 b).2.1 := by decide +kernel
theorem tyX2_ok : ∀ k, k < 2 → parseFieldDescriptor (TX2 k).2.2.1 = some (tyX2 k) := by decide +kernel
abbrev cX2_init : ByteArray := prog_4_method_1_code
def yX2_init : MethodName := ⟨RX2, "<init>", "()V"⟩
abbrev cX2_clear : ByteArray := prog_4_method_2_code
def yX2_clear : MethodName := ⟨RX2, "clear", "()V"⟩
abbrev cX2_write : ByteArray := prog_4_method_3_code
def yX2_write : MethodName := ⟨RX2, "write", "(II)V"⟩
abbrev cX2_draw : ByteArray := prog_4_method_4_code
def yX2_draw : MethodName := ⟨RX2, "draw", "(LLeastAlone$Table;I)I"⟩
abbrev cX2_numberOfLot : ByteArray := prog_4_method_5_code
def yX2_numberOfLot : MethodName := ⟨RX2, "numberOfLot", "(LLeastAlone$Table;I)I"⟩
abbrev cX2_writers : ByteArray := prog_4_method_6_code
def yX2_writers : MethodName := ⟨RX2, "writers", "(I)I"⟩
def RX3 : String := "LeastAlone$Fit"
def TX3 : u_T := fun k => match k with
  | 0 => ("LeastAlone$Fit", "winners", "LLeastAlone$Winners;", true)
  | 1 => ("LeastAlone$Fit", "bound", "[I", true)
  | 2 => ("LeastAlone$Fit", "law", "I", false)
  | 3 => ("LeastAlone$Fit", "men", "I", false)
  | 4 => ("LeastAlone$Fit", "numbers", "I", false)
  | 5 => ("LeastAlone$Fit", "mustWin", "I", false)
  | _ => ("LeastAlone$Fit", "clash", "Z", false)
def tyX3 : Nat → FieldType := fun k => match k with
  | 0 => .object "LeastAlone$Winners"
  | 1 => .array .int
  | 2 => .int
  | 3 => .int
  | 4 => .int
  | 5 => .int
  | _ => .boolean
theorem nmX3 : ∀ a, a < 7 → ∀ b, b < 7 → a ≠ b → (TX3 a).2.1 ≠ (TX3 b).2.1 := by decide +kernel
theorem tyX3_ok : ∀ k, k < 7 → parseFieldDescriptor (TX3 k).2.2.1 = some (tyX3 k) := by decide +kernel
abbrev cX3_init : ByteArray := prog_5_method_1_code
def yX3_init : MethodName := ⟨RX3, "<init>", "()V"⟩
abbrev cX3_read : ByteArray := prog_5_method_2_code
def yX3_read : MethodName := ⟨RX3, "read", "(LLeastAlone$Table;)V"⟩
abbrev cX3_bind : ByteArray := prog_5_method_3_code
def yX3_bind : MethodName := ⟨RX3, "bind", "(II)V"⟩
abbrev cX3_demand : ByteArray := prog_5_method_4_code
def yX3_demand : MethodName := ⟨RX3, "demand", "(I)V"⟩
abbrev cX3_rows : ByteArray := prog_5_method_5_code
def yX3_rows : MethodName := ⟨RX3, "rows", "()I"⟩
abbrev cX3_bindFirst : ByteArray := prog_5_method_6_code
def yX3_bindFirst : MethodName := ⟨RX3, "bindFirst", "()V"⟩
abbrev cX3_numbersOf : ByteArray := prog_5_method_7_code
def yX3_numbersOf : MethodName := ⟨RX3, "numbersOf", "(I)I"⟩
def RX4 : String := "LeastAlone$Gains"
def TX4 : u_T := fun k => match k with
  | 0 => ("LeastAlone$Tally", "counts", "[I", true)
  | 1 => ("LeastAlone$Tally", "of", "[J", true)
  | 2 => ("LeastAlone$Tally", "law", "I", false)
  | 3 => ("LeastAlone$Tally", "numbers", "I", false)
  | _ => ("LeastAlone$Tally", "free", "I", false)
def tyX4 : Nat → FieldType := fun k => match k with
  | 0 => .array .int
  | 1 => .array .long
  | 2 => .int
  | 3 => .int
  | _ => .int
theorem nmX4 : ∀ a, a < 5 → ∀ b, b < 5 → a ≠ b → (TX4 a).2.1 ≠ (TX4 b).2.1 := by decide +kernel
theorem tyX4_ok : ∀ k, k < 5 → parseFieldDescriptor (TX4 k).2.2.1 = some (tyX4 k) := by decide +kernel
abbrev cX4_init : ByteArray := prog_6_method_1_code
def yX4_init : MethodName := ⟨RX4, "<init>", "()V"⟩
abbrev cX4_meet : ByteArray := prog_6_method_2_code
def yX4_meet : MethodName := ⟨RX4, "meet", "(J)V"⟩
abbrev cX4_top : ByteArray := prog_6_method_3_code
def yX4_top : MethodName := ⟨RX4, "top", "()I"⟩
abbrev cX4_average : ByteArray := prog_6_method_4_code
def yX4_average : MethodName := ⟨RX4, "average", "([I)J"⟩
abbrev cX4_surplus : ByteArray := prog_6_method_5_code
def yX4_surplus : MethodName := ⟨RX4, "surplus", "([II)J"⟩
def RX5 : String := "LeastAlone$Pact"
def TX5 : u_T := fun k => match k with
  | 0 => ("LeastAlone$Pact", "winners", "LLeastAlone$Winners;", true)
  | 1 => ("LeastAlone$Pact", "row", "[I", true)
  | 2 => ("LeastAlone$Pact", "bestRow", "[I", true)
  | 3 => ("LeastAlone$Pact", "bestUpper", "J", false)
  | 4 => ("LeastAlone$Pact", "set", "I", false)
  | _ => ("LeastAlone$Pact", "size", "I", false)
def tyX5 : Nat → FieldType := fun k => match k with
  | 0 => .object "LeastAlone$Winners"
  | 1 => .array .int
  | 2 => .array .int
  | 3 => .long
  | 4 => .int
  | _ => .int
theorem nmX5 : ∀ a, a < 6 → ∀ b, b < 6 → a ≠ b → (TX5 a).2.1 ≠ (TX5 b).2.1 := by decide +kernel
theorem tyX5_ok : ∀ k, k < 6 → parseFieldDescriptor (TX5 k).2.2.1 = some (tyX5 k) := by decide +kernel
abbrev cX5_init : ByteArray := prog_7_method_1_code
def yX5_init : MethodName := ⟨RX5, "<init>", "()V"⟩
abbrev cX5_find : ByteArray := prog_7_method_2_code
def yX5_find : MethodName := ⟨RX5, "find", "(LLeastAlone$Table;I)V"⟩
abbrev cX5_numberOf : ByteArray := prog_7_method_3_code
def yX5_numberOf : MethodName := ⟨RX5, "numberOf", "(I)I"⟩
abbrev cX5_gather : ByteArray := prog_7_method_4_code
def yX5_gather : MethodName := ⟨RX5, "gather", "(LLeastAlone$Table;)V"⟩
abbrev cX5_judge : ByteArray := prog_7_method_5_code
def yX5_judge : MethodName := ⟨RX5, "judge", "()V"⟩
def RX6 : String := "LeastAlone$Table"
def TX6 : u_T := fun k => match k with
  | 0 => ("LeastAlone$Table", "men", "I", false)
  | 1 => ("LeastAlone$Table", "numbers", "I", false)
  | 2 => ("LeastAlone$Table", "law", "I", false)
  | 3 => ("LeastAlone$Table", "weights", "[I", true)
  | 4 => ("LeastAlone$Table", "fools", "[I", true)
  | 5 => ("LeastAlone$Table", "sightHow", "[I", true)
  | 6 => ("LeastAlone$Table", "sightMan", "[I", true)
  | 7 => ("LeastAlone$Table", "sightNumber", "[I", true)
  | _ => ("LeastAlone$Table", "sights", "I", false)
def tyX6 : Nat → FieldType := fun k => match k with
  | 0 => .int
  | 1 => .int
  | 2 => .int
  | 3 => .array .int
  | 4 => .array .int
  | 5 => .array .int
  | 6 => .array .int
  | 7 => .array .int
  | _ => .int
theorem nmX6 : ∀ a, a < 9 → ∀ b, b < 9 → a ≠ b → (TX6 a).2.1 ≠ (TX6 b).2.1 := by decide +kernel
theorem tyX6_ok : ∀ k, k < 9 → parseFieldDescriptor (TX6 k).2.2.1 = some (tyX6 k) := by decide +kernel
abbrev cX6_init : ByteArray := prog_8_method_1_code
def yX6_init : MethodName := ⟨RX6, "<init>", "()V"⟩
abbrev cX6_open : ByteArray := prog_8_method_2_code
def yX6_open : MethodName := ⟨RX6, "open", "(II)V"⟩
abbrev cX6_copy : ByteArray := prog_8_method_3_code
def yX6_copy : MethodName := ⟨RX6, "copy", "(LLeastAlone$Table;)V"⟩
abbrev cX6_addSight : ByteArray := prog_8_method_4_code
def yX6_addSight : MethodName := ⟨RX6, "addSight", "(III)V"⟩
abbrev cX6_hasMan : ByteArray := prog_8_method_5_code
def yX6_hasMan : MethodName := ⟨RX6, "hasMan", "(I)Z"⟩
abbrev cX6_hasNumber : ByteArray := prog_8_method_6_code
def yX6_hasNumber : MethodName := ⟨RX6, "hasNumber", "(I)Z"⟩
abbrev cX6_allWeights : ByteArray := prog_8_method_7_code
def yX6_allWeights : MethodName := ⟨RX6, "allWeights", "()I"⟩
abbrev cX6_shares : ByteArray := prog_8_method_8_code
def yX6_shares : MethodName := ⟨RX6, "shares", "()I"⟩
def RX7 : String := "LeastAlone$Tally"
def TX7 : u_T := fun k => match k with
  | _ => ("", "", "", false)
def tyX7 : Nat → FieldType := fun k => match k with
  | _ => .int
theorem nmX7 : ∀ a, a < 0 → ∀ b, b < 0 → a ≠ b → (TX7 a).2.1 ≠ (TX7 b).2.1 := by decide +kernel
theorem tyX7_ok : ∀ k, k < 0 → parseFieldDescriptor (TX7 k).2.2.1 = some (tyX7 k) := by decide +kernel
abbrev cX7_init : ByteArray := prog_9_method_1_code
def yX7_init : MethodName := ⟨RX7, "<init>", "()V"⟩
abbrev cX7_clear : ByteArray := prog_9_method_2_code
def yX7_clear : MethodName := ⟨RX7, "clear", "(II)V"⟩
abbrev cX7_join : ByteArray := prog_9_method_3_code
def yX7_join : MethodName := ⟨RX7, "join", "(I)V"⟩
abbrev cX7_run : ByteArray := prog_9_method_4_code
def yX7_run : MethodName := ⟨RX7, "run", "([I)V"⟩
def RX8 : String := "LeastAlone$Winners"
def TX8 : u_T := fun k => match k with
  | 0 => ("LeastAlone$Tally", "counts", "[I", true)
  | 1 => ("LeastAlone$Tally", "of", "[J", true)
  | 2 => ("LeastAlone$Tally", "law", "I", false)
  | 3 => ("LeastAlone$Tally", "numbers", "I", false)
  | _ => ("LeastAlone$Tally", "free", "I", false)
def tyX8 : Nat → FieldType := fun k => match k with
  | 0 => .array .int
  | 1 => .array .long
  | 2 => .int
  | 3 => .int
  | _ => .int
theorem nmX8 : ∀ a, a < 5 → ∀ b, b < 5 → a ≠ b → (TX8 a).2.1 ≠ (TX8 b).2.1 := by decide +kernel
theorem tyX8_ok : ∀ k, k < 5 → parseFieldDescriptor (TX8 k).2.2.1 = some (tyX8 k) := by decide +kernel
abbrev cX8_init : ByteArray := prog_10_method_1_code
def yX8_init : MethodName := ⟨RX8, "<init>", "()V"⟩
abbrev cX8_meet : ByteArray := prog_10_method_2_code
def yX8_meet : MethodName := ⟨RX8, "meet", "(J)V"⟩
def RX9 : String := "LeastAlone"
def TX9 : u_T := fun k => match k with
  | 0 => ("LeastAlone", "now", "LLeastAlone$Table;", true)
  | 1 => ("LeastAlone", "images", "[LLeastAlone$Table;", true)
  | 2 => ("LeastAlone", "kept", "[Z", true)
  | 3 => ("LeastAlone", "pad", "[I", true)
  | 4 => ("LeastAlone", "signs", "I", false)
  | 5 => ("LeastAlone", "evening", "LLeastAlone$Evening;", true)
  | 6 => ("LeastAlone", "gains", "LLeastAlone$Gains;", true)
  | 7 => ("LeastAlone", "winners", "LLeastAlone$Winners;", true)
  | 8 => ("LeastAlone", "calm", "LLeastAlone$Calm;", true)
  | 9 => ("LeastAlone", "pact", "LLeastAlone$Pact;", true)
  | 10 => ("LeastAlone", "arrivals", "LLeastAlone$Arrivals;", true)
  | _ => ("LeastAlone", "fit", "LLeastAlone$Fit;", true)
def tyX9 : Nat → FieldType := fun k => match k with
  | 0 => .object "LeastAlone$Table"
  | 1 => .array (.object "LeastAlone$Table")
  | 2 => .array .boolean
  | 3 => .array .int
  | 4 => .int
  | 5 => .object "LeastAlone$Evening"
  | 6 => .object "LeastAlone$Gains"
  | 7 => .object "LeastAlone$Winners"
  | 8 => .object "LeastAlone$Calm"
  | 9 => .object "LeastAlone$Pact"
  | 10 => .object "LeastAlone$Arrivals"
  | _ => .object "LeastAlone$Fit"
theorem nmX9 : ∀ a, a < 12 → ∀ b, b < 12 → a ≠ b → (TX9 a).2.1 ≠ (TX9 b).2.1 := by decide +kernel
theorem tyX9_ok : ∀ k, k < 12 → parseFieldDescriptor (TX9 k).2.2.1 = some (tyX9 k) := by decide +kernel
abbrev cX9_init : ByteArray := prog_1_method_1_code
def yX9_init : MethodName := ⟨RX9, "<init>", "()V"⟩
abbrev cX9_inn : ByteArray := prog_1_method_2_code
def yX9_inn : MethodName := ⟨RX9, "inn", "(II)I"⟩
abbrev cX9_rule : ByteArray := prog_1_method_3_code
def yX9_rule : MethodName := ⟨RX9, "rule", "(I)I"⟩
abbrev cX9_say : ByteArray := prog_1_method_4_code
def yX9_say : MethodName := ⟨RX9, "say", "(I)I"⟩
abbrev cX9_wipe : ByteArray := prog_1_method_5_code
def yX9_wipe : MethodName := ⟨RX9, "wipe", "()I"⟩
abbrev cX9_fault : ByteArray := prog_1_method_6_code
def yX9_fault : MethodName := ⟨RX9, "fault", "()I"⟩
abbrev cX9_wins : ByteArray := prog_1_method_7_code
def yX9_wins : MethodName := ⟨RX9, "wins", "(I)I"⟩
abbrev cX9_weight : ByteArray := prog_1_method_8_code
def yX9_weight : MethodName := ⟨RX9, "weight", "(II)I"⟩
abbrev cX9_fool : ByteArray := prog_1_method_9_code
def yX9_fool : MethodName := ⟨RX9, "fool", "(II)I"⟩
abbrev cX9_worth : ByteArray := prog_1_method_10_code
def yX9_worth : MethodName := ⟨RX9, "worth", "(III)J"⟩
abbrev cX9_best : ByteArray := prog_1_method_11_code
def yX9_best : MethodName := ⟨RX9, "best", "(I)I"⟩
abbrev cX9_mean : ByteArray := prog_1_method_12_code
def yX9_mean : MethodName := ⟨RX9, "mean", "(III)J"⟩
abbrev cX9_nobody : ByteArray := prog_1_method_13_code
def yX9_nobody : MethodName := ⟨RX9, "nobody", "(I)J"⟩
abbrev cX9_rest : ByteArray := prog_1_method_14_code
def yX9_rest : MethodName := ⟨RX9, "rest", "(II)I"⟩
abbrev cX9_gap : ByteArray := prog_1_method_15_code
def yX9_gap : MethodName := ⟨RX9, "gap", "(II)J"⟩
abbrev cX9_friends : ByteArray := prog_1_method_16_code
def yX9_friends : MethodName := ⟨RX9, "friends", "(II)I"⟩
abbrev cX9_league : ByteArray := prog_1_method_17_code
def yX9_league : MethodName := ⟨RX9, "league", "(II)J"⟩
abbrev cX9_spy : ByteArray := prog_1_method_18_code
def yX9_spy : MethodName := ⟨RX9, "spy", "(I)I"⟩
abbrev cX9_spied : ByteArray := prog_1_method_19_code
def yX9_spied : MethodName := ⟨RX9, "spied", "(II)J"⟩
abbrev cX9_steps : ByteArray := prog_1_method_20_code
def yX9_steps : MethodName := ⟨RX9, "steps", "(I)I"⟩
abbrev cX9_late : ByteArray := prog_1_method_21_code
def yX9_late : MethodName := ⟨RX9, "late", "(II)I"⟩
abbrev cX9_prize : ByteArray := prog_1_method_22_code
def yX9_prize : MethodName := ⟨RX9, "prize", "(III)J"⟩
abbrev cX9_seen : ByteArray := prog_1_method_23_code
def yX9_seen : MethodName := ⟨RX9, "seen", "(III)I"⟩
abbrev cX9_forget : ByteArray := prog_1_method_24_code
def yX9_forget : MethodName := ⟨RX9, "forget", "()I"⟩
abbrev cX9_fits : ByteArray := prog_1_method_25_code
def yX9_fits : MethodName := ⟨RX9, "fits", "(I)I"⟩
abbrev cX9_could : ByteArray := prog_1_method_26_code
def yX9_could : MethodName := ⟨RX9, "could", "(I)I"⟩
abbrev cX9_year : ByteArray := prog_1_method_27_code
def yX9_year : MethodName := ⟨RX9, "year", "(III)I"⟩
abbrev cX9_image : ByteArray := prog_1_method_28_code
def yX9_image : MethodName := ⟨RX9, "image", "(I)I"⟩
abbrev cX9_restore : ByteArray := prog_1_method_29_code
def yX9_restore : MethodName := ⟨RX9, "restore", "(I)I"⟩
abbrev cX9_told : ByteArray := prog_1_method_30_code
def yX9_told : MethodName := ⟨RX9, "told", "(I)I"⟩
abbrev cX9_toldOfOne : ByteArray := prog_1_method_31_code
def yX9_toldOfOne : MethodName := ⟨RX9, "toldOfOne", "(I)I"⟩
abbrev cX9_isSize : ByteArray := prog_1_method_32_code
def yX9_isSize : MethodName := ⟨RX9, "isSize", "(I)Z"⟩
abbrev cX9_isBit : ByteArray := prog_1_method_33_code
def yX9_isBit : MethodName := ⟨RX9, "isBit", "(I)Z"⟩
abbrev cX9_isSum : ByteArray := prog_1_method_34_code
def yX9_isSum : MethodName := ⟨RX9, "isSum", "(I)Z"⟩
abbrev cX9_isSet : ByteArray := prog_1_method_35_code
def yX9_isSet : MethodName := ⟨RX9, "isSet", "(I)Z"⟩
abbrev cX9_isSlip : ByteArray := prog_1_method_36_code
def yX9_isSlip : MethodName := ⟨RX9, "isSlip", "(I)Z"⟩
abbrev cX9_isUntold : ByteArray := prog_1_method_37_code
def yX9_isUntold : MethodName := ⟨RX9, "isUntold", "()Z"⟩
abbrev cX9_lower : ByteArray := prog_1_method_38_code
def yX9_lower : MethodName := ⟨RX9, "lower", "(I)J"⟩
abbrev cX9_weighOthers : ByteArray := prog_1_method_39_code
def yX9_weighOthers : MethodName := ⟨RX9, "weighOthers", "(I)V"⟩
abbrev cX9_weighPad : ByteArray := prog_1_method_40_code
def yX9_weighPad : MethodName := ⟨RX9, "weighPad", "(I)V"⟩
abbrev cX9_weighAll : ByteArray := prog_1_method_41_code
def yX9_weighAll : MethodName := ⟨RX9, "weighAll", "()V"⟩
abbrev cX9_power : ByteArray := prog_1_method_42_code
def yX9_power : MethodName := ⟨RX9, "power", "(JI)J"⟩
abbrev cX9_lowest : ByteArray := prog_1_method_43_code
def yX9_lowest : MethodName := ⟨RX9, "lowest", "(JJI)J"⟩
abbrev cX9_commonDivisor : ByteArray := prog_1_method_44_code
def yX9_commonDivisor : MethodName := ⟨RX9, "commonDivisor", "(JJ)J"⟩
abbrev cX9_writersToWin : ByteArray := prog_1_method_45_code
def yX9_writersToWin : MethodName := ⟨RX9, "writersToWin", "(I)I"⟩
abbrev cX9_numbersWritten : ByteArray := prog_1_method_46_code
def yX9_numbersWritten : MethodName := ⟨RX9, "numbersWritten", "(I[II)I"⟩
abbrev cX9_winner : ByteArray := prog_1_method_47_code
def yX9_winner : MethodName := ⟨RX9, "winner", "(I[II)I"⟩
abbrev cX9_winning : ByteArray := prog_1_method_48_code
def yX9_winning : MethodName := ⟨RX9, "winning", "(II)I"⟩
abbrev cX9_place : ByteArray := prog_1_method_49_code
def yX9_place : MethodName := ⟨RX9, "place", "(LLeastAlone$Tally;[IIIJ)V"⟩
abbrev cX9_spread : ByteArray := prog_1_method_50_code
def yX9_spread : MethodName := ⟨RX9, "spread", "(LLeastAlone$Calm;II)V"⟩
abbrev cX9_agree : ByteArray := prog_1_method_51_code
def yX9_agree : MethodName := ⟨RX9, "agree", "(LLeastAlone$Pact;LLeastAlone$Table;II)V"⟩
abbrev cX9_choice : ByteArray := prog_1_method_52_code
def yX9_choice : MethodName := ⟨RX9, "choice", "(LLeastAlone$Arrivals;LLeastAlone$Table;I)I"⟩
abbrev cX9_endWith : ByteArray := prog_1_method_53_code
def yX9_endWith : MethodName := ⟨RX9, "endWith", "(LLeastAlone$Arrivals;LLeastAlone$Table;II)I"⟩
abbrev cX9_end : ByteArray := prog_1_method_54_code
def yX9_end : MethodName := ⟨RX9, "end", "(LLeastAlone$Arrivals;LLeastAlone$Table;I)I"⟩
def RX10 : String := "LeastAloneModel"
def TX10 : u_T := fun k => match k with
  | 0 => ("LeastAloneModel", "men", "I", false)
  | 1 => ("LeastAloneModel", "numbers", "I", false)
  | 2 => ("LeastAloneModel", "law", "I", false)
  | 3 => ("LeastAloneModel", "weight", "[I", true)
  | 4 => ("LeastAloneModel", "fools", "[I", true)
  | 5 => ("LeastAloneModel", "sights", "I", false)
  | 6 => ("LeastAloneModel", "sight", "[I", true)
  | 7 => ("LeastAloneModel", "signs", "I", false)
  | 8 => ("LeastAloneModel", "pad", "[I", true)
  | 9 => ("LeastAloneModel", "counted", "[I", true)
  | 10 => ("LeastAloneModel", "base", "[I", true)
  | 11 => ("LeastAloneModel", "free", "I", false)
  | 12 => ("LeastAloneModel", "fill", "[I", true)
  | 13 => ("LeastAloneModel", "weights", "[I", true)
  | 14 => ("LeastAloneModel", "resting", "[I", true)
  | 15 => ("LeastAloneModel", "restUp", "J", false)
  | 16 => ("LeastAloneModel", "agreed", "[I", true)
  | 17 => ("LeastAloneModel", "bestAgreed", "[I", true)
  | 18 => ("LeastAloneModel", "leagueUp", "J", false)
  | 19 => ("LeastAloneModel", "wrote", "[I", true)
  | 20 => ("LeastAloneModel", "lateBest", "[I", true)
  | 21 => ("LeastAloneModel", "lateTo", "[I", true)
  | 22 => ("LeastAloneModel", "image", "[I", true)
  | _ => ("LeastAloneModel", "isKept", "[Z", true)
def tyX10 : Nat → FieldType := fun k => match k with
  | 0 => .int
  | 1 => .int
  | 2 => .int
  | 3 => .array .int
  | 4 => .array .int
  | 5 => .int
  | 6 => .array .int
  | 7 => .int
  | 8 => .array .int
  | 9 => .array .int
  | 10 => .array .int
  | 11 => .int
  | 12 => .array .int
  | 13 => .array .int
  | 14 => .array .int
  | 15 => .long
  | 16 => .array .int
  | 17 => .array .int
  | 18 => .long
  | 19 => .array .int
  | 20 => .array .int
  | 21 => .array .int
  | 22 => .array .int
  | _ => .array .boolean
theorem nmX10 : ∀ a, a < 24 → ∀ b, b < 24 → a ≠ b → (TX10 a).2.1 ≠ (TX10 b).2.1 := by decide +kernel
theorem tyX10_ok : ∀ k, k < 24 → parseFieldDescriptor (TX10 k).2.2.1 = some (tyX10 k) := by decide +kernel
abbrev cX10_init : ByteArray := prog_12_method_1_code
def yX10_init : MethodName := ⟨RX10, "<init>", "()V"⟩
abbrev cX10_plain : ByteArray := prog_12_method_2_code
def yX10_plain : MethodName := ⟨RX10, "plain", "()V"⟩
abbrev cX10_in : ByteArray := prog_12_method_3_code
def yX10_in : MethodName := ⟨RX10, "in", "(III)Z"⟩
abbrev cX10_has : ByteArray := prog_12_method_4_code
def yX10_has : MethodName := ⟨RX10, "has", "(II)Z"⟩
abbrev cX10_isMan : ByteArray := prog_12_method_5_code
def yX10_isMan : MethodName := ⟨RX10, "isMan", "(I)Z"⟩
abbrev cX10_isNumber : ByteArray := prog_12_method_6_code
def yX10_isNumber : MethodName := ⟨RX10, "isNumber", "(I)Z"⟩
abbrev cX10_inn : ByteArray := prog_12_method_7_code
def yX10_inn : MethodName := ⟨RX10, "inn", "(II)I"⟩
abbrev cX10_rule : ByteArray := prog_12_method_8_code
def yX10_rule : MethodName := ⟨RX10, "rule", "(I)I"⟩
abbrev cX10_say : ByteArray := prog_12_method_9_code
def yX10_say : MethodName := ⟨RX10, "say", "(I)I"⟩
abbrev cX10_wipe : ByteArray := prog_12_method_10_code
def yX10_wipe : MethodName := ⟨RX10, "wipe", "()I"⟩
abbrev cX10_faultOf : ByteArray := prog_12_method_11_code
def yX10_faultOf : MethodName := ⟨RX10, "faultOf", "()I"⟩
abbrev cX10_fault : ByteArray := prog_12_method_12_code
def yX10_fault : MethodName := ⟨RX10, "fault", "()I"⟩
abbrev cX10_winner : ByteArray := prog_12_method_13_code
def yX10_winner : MethodName := ⟨RX10, "winner", "([I)I"⟩
abbrev cX10_nobodyWrote : ByteArray := prog_12_method_14_code
def yX10_nobodyWrote : MethodName := ⟨RX10, "nobodyWrote", "()V"⟩
abbrev cX10_wins : ByteArray := prog_12_method_15_code
def yX10_wins : MethodName := ⟨RX10, "wins", "(I)I"⟩
abbrev cX10_weight : ByteArray := prog_12_method_16_code
def yX10_weight : MethodName := ⟨RX10, "weight", "(II)I"⟩
abbrev cX10_allWeights : ByteArray := prog_12_method_17_code
def yX10_allWeights : MethodName := ⟨RX10, "allWeights", "()I"⟩
abbrev cX10_fool : ByteArray := prog_12_method_18_code
def yX10_fool : MethodName := ⟨RX10, "fool", "(II)I"⟩
abbrev cX10_asWeights : ByteArray := prog_12_method_19_code
def yX10_asWeights : MethodName := ⟨RX10, "asWeights", "()V"⟩
abbrev cX10_power : ByteArray := prog_12_method_20_code
def yX10_power : MethodName := ⟨RX10, "power", "(JI)J"⟩
abbrev cX10_choose : ByteArray := prog_12_method_21_code
def yX10_choose : MethodName := ⟨RX10, "choose", "(II)I"⟩
abbrev cX10_beginFill : ByteArray := prog_12_method_22_code
def yX10_beginFill : MethodName := ⟨RX10, "beginFill", "()V"⟩
abbrev cX10_nextFill : ByteArray := prog_12_method_23_code
def yX10_nextFill : MethodName := ⟨RX10, "nextFill", "()Z"⟩
abbrev cX10_waysOfFill : ByteArray := prog_12_method_24_code
def yX10_waysOfFill : MethodName := ⟨RX10, "waysOfFill", "()J"⟩
abbrev cX10_both : ByteArray := prog_12_method_25_code
def yX10_both : MethodName := ⟨RX10, "both", "()V"⟩
abbrev cX10_waysToWin : ByteArray := prog_12_method_26_code
def yX10_waysToWin : MethodName := ⟨RX10, "waysToWin", "(I)J"⟩
abbrev cX10_sumOfWeights : ByteArray := prog_12_method_27_code
def yX10_sumOfWeights : MethodName := ⟨RX10, "sumOfWeights", "()I"⟩
abbrev cX10_lowOf : ByteArray := prog_12_method_28_code
def yX10_lowOf : MethodName := ⟨RX10, "lowOf", "()J"⟩
abbrev cX10_layOthers : ByteArray := prog_12_method_29_code
def yX10_layOthers : MethodName := ⟨RX10, "layOthers", "(I)V"⟩
abbrev cX10_worthOf : ByteArray := prog_12_method_30_code
def yX10_worthOf : MethodName := ⟨RX10, "worthOf", "(I)J"⟩
abbrev cX10_term : ByteArray := prog_12_method_31_code
def yX10_term : MethodName := ⟨RX10, "term", "(JJI)J"⟩
abbrev cX10_worth : ByteArray := prog_12_method_32_code
def yX10_worth : MethodName := ⟨RX10, "worth", "(III)J"⟩
abbrev cX10_bestOf : ByteArray := prog_12_method_33_code
def yX10_bestOf : MethodName := ⟨RX10, "bestOf", "()I"⟩
abbrev cX10_best : ByteArray := prog_12_method_34_code
def yX10_best : MethodName := ⟨RX10, "best", "(I)I"⟩
abbrev cX10_meanOf : ByteArray := prog_12_method_35_code
def yX10_meanOf : MethodName := ⟨RX10, "meanOf", "()J"⟩
abbrev cX10_gapOf : ByteArray := prog_12_method_36_code
def yX10_gapOf : MethodName := ⟨RX10, "gapOf", "()J"⟩
abbrev cX10_mean : ByteArray := prog_12_method_37_code
def yX10_mean : MethodName := ⟨RX10, "mean", "(III)J"⟩
abbrev cX10_waysOfNobody : ByteArray := prog_12_method_38_code
def yX10_waysOfNobody : MethodName := ⟨RX10, "waysOfNobody", "()J"⟩
abbrev cX10_nobody : ByteArray := prog_12_method_39_code
def yX10_nobody : MethodName := ⟨RX10, "nobody", "(I)J"⟩
abbrev cX10_layRest : ByteArray := prog_12_method_40_code
def yX10_layRest : MethodName := ⟨RX10, "layRest", "(I)V"⟩
abbrev cX10_nextWeights : ByteArray := prog_12_method_41_code
def yX10_nextWeights : MethodName := ⟨RX10, "nextWeights", "()Z"⟩
abbrev cX10_rest : ByteArray := prog_12_method_42_code
def yX10_rest : MethodName := ⟨RX10, "rest", "(II)I"⟩
abbrev cX10_gap : ByteArray := prog_12_method_43_code
def yX10_gap : MethodName := ⟨RX10, "gap", "(II)J"⟩
abbrev cX10_waysOfSet : ByteArray := prog_12_method_44_code
def yX10_waysOfSet : MethodName := ⟨RX10, "waysOfSet", "(I)J"⟩
abbrev cX10_layAgreed : ByteArray := prog_12_method_45_code
def yX10_layAgreed : MethodName := ⟨RX10, "layAgreed", "(II)Z"⟩
abbrev cX10_layLeague : ByteArray := prog_12_method_46_code
def yX10_layLeague : MethodName := ⟨RX10, "layLeague", "(I)V"⟩
abbrev cX10_isSet : ByteArray := prog_12_method_47_code
def yX10_isSet : MethodName := ⟨RX10, "isSet", "(I)Z"⟩
abbrev cX10_friends : ByteArray := prog_12_method_48_code
def yX10_friends : MethodName := ⟨RX10, "friends", "(II)I"⟩
abbrev cX10_league : ByteArray := prog_12_method_49_code
def yX10_league : MethodName := ⟨RX10, "league", "(II)J"⟩
abbrev cX10_layTold : ByteArray := prog_12_method_50_code
def yX10_layTold : MethodName := ⟨RX10, "layTold", "(I)V"⟩
abbrev cX10_spy : ByteArray := prog_12_method_51_code
def yX10_spy : MethodName := ⟨RX10, "spy", "(I)I"⟩
abbrev cX10_spied : ByteArray := prog_12_method_52_code
def yX10_spied : MethodName := ⟨RX10, "spied", "(II)J"⟩
abbrev cX10_steps : ByteArray := prog_12_method_53_code
def yX10_steps : MethodName := ⟨RX10, "steps", "(I)I"⟩
abbrev cX10_hasOf : ByteArray := prog_12_method_54_code
def yX10_hasOf : MethodName := ⟨RX10, "hasOf", "(I)I"⟩
abbrev cX10_lateEvening : ByteArray := prog_12_method_55_code
def yX10_lateEvening : MethodName := ⟨RX10, "lateEvening", "()I"⟩
abbrev cX10_layWrote : ByteArray := prog_12_method_56_code
def yX10_layWrote : MethodName := ⟨RX10, "layWrote", "(I)V"⟩
abbrev cX10_late : ByteArray := prog_12_method_57_code
def yX10_late : MethodName := ⟨RX10, "late", "(II)I"⟩
abbrev cX10_prize : ByteArray := prog_12_method_58_code
def yX10_prize : MethodName := ⟨RX10, "prize", "(III)J"⟩
abbrev cX10_seen : ByteArray := prog_12_method_59_code
def yX10_seen : MethodName := ⟨RX10, "seen", "(III)I"⟩
abbrev cX10_forget : ByteArray := prog_12_method_60_code
def yX10_forget : MethodName := ⟨RX10, "forget", "()I"⟩
abbrev cX10_isSeen : ByteArray := prog_12_method_61_code
def yX10_isSeen : MethodName := ⟨RX10, "isSeen", "(I)Z"⟩
abbrev cX10_codes : ByteArray := prog_12_method_62_code
def yX10_codes : MethodName := ⟨RX10, "codes", "()I"⟩
abbrev cX10_fits : ByteArray := prog_12_method_63_code
def yX10_fits : MethodName := ⟨RX10, "fits", "(I)I"⟩
abbrev cX10_could : ByteArray := prog_12_method_64_code
def yX10_could : MethodName := ⟨RX10, "could", "(I)I"⟩
abbrev cX10_year : ByteArray := prog_12_method_65_code
def yX10_year : MethodName := ⟨RX10, "year", "(III)I"⟩
abbrev cX10_image : ByteArray := prog_12_method_66_code
def yX10_image : MethodName := ⟨RX10, "image", "(I)I"⟩
abbrev cX10_restore : ByteArray := prog_12_method_67_code
def yX10_restore : MethodName := ⟨RX10, "restore", "(I)I"⟩
abbrev cX10_told : ByteArray := prog_12_method_68_code
def yX10_told : MethodName := ⟨RX10, "told", "(I)I"⟩
def RJ6 : String := "java/lang/Integer"
def TJ6 : u_T := fun k => match k with
  | _ => ("", "", "", false)
def tyJ6 : Nat → FieldType := fun k => match k with
  | _ => .int
theorem nmJ6 : ∀ a, a < 0 → ∀ b, b < 0 → a ≠ b → (TJ6 a).2.1 ≠ (TJ6 b).2.1 := by decide +kernel
theorem tyJ6_ok : ∀ k, k < 0 → parseFieldDescriptor (TJ6 k).2.2.1 = some (tyJ6 k) := by decide +kernel
abbrev cJ6_bitCount_0f7a4 : ByteArray := prog_13_method_49_code
def yJ6_bitCount_0f7a4 : MethodName := ⟨RJ6, "bitCount", "(I)I"⟩
def RJ10 : String := "java/lang/System"
def TJ10 : u_T := fun k => match k with
  | _ => ("", "", "", false)
def tyJ10 : Nat → FieldType := fun k => match k with
  | _ => .int
theorem nmJ10 : ∀ a, a < 0 → ∀ b, b < 0 → a ≠ b → (TJ10 a).2.1 ≠ (TJ10 b).2.1 := by decide +kernel
theorem tyJ10_ok : ∀ k, k < 0 → parseFieldDescriptor (TJ10 k).2.2.1 = some (tyJ10 k) := by decide +kernel
def RL : String := "LeastAloneLaw"
abbrev cL_law : ByteArray := code
def yL_law : MethodName := ⟨RL, "law", "([I)Z"⟩
end
section
abbrev rI : Type := Instr × List Nat × List Nat
/-- a written number -/
def rc : List Nat → Int32
  | [v] => nI v
  | _ :: v :: _ => - nI v
  | [] => 0
def rcL : List Nat → Int64
  | [v] => lN v
  | _ :: v :: _ => - lN v
  | [] => 0
end
section
/-! the instructions of every method, as the claim's listing has them, with what they link to and the places of the words that say so -/
def tb_X0_init : List (Nat × rI) := [
  (0, .aload_n 0, [], []),
  (1, .invokespecial 3, [0], [282, 67, 68]),
  (4, .aload_n 0, [], []),
  (5, .bipush 7, [7], []),
  (7, .newarray .int, [7], [130]),
  (9, .putfield 9, [0, 1, 2, 0], [283]),
  (12, .aload_n 0, [], []),
  (13, .sipush 924, [924], []),
  (16, .newarray .byte, [924], [292]),
  (18, .putfield 15, [1, 1, 2, 0], [285]),
  (21, .return_, [3], [])]
def tb_X0_play : List (Nat × rI) := [
  (0, .iconst 0, [0], []),
  (1, .istore_n 3, [], []),
  (2, .iload_n 3, [], []),
  (3, .sipush 924, [924], []),
  (6, .if_icmp .ge 16, [22], []),
  (9, .aload_n 0, [], []),
  (10, .getfield 15, [1, 0], [285]),
  (13, .iload_n 3, [], []),
  (14, .iconst 0, [0], []),
  (15, .bastore, [], []),
  (16, .iinc 3 1, [1], []),
  (19, .goto (-17), [2], []),
  (22, .iconst 0, [0], []),
  (23, .istore_n 3, [], []),
  (24, .iload_n 3, [], []),
  (25, .bipush 7, [7], []),
  (27, .if_icmp .ge 16, [43], []),
  (30, .aload_n 0, [], []),
  (31, .getfield 9, [0, 0], [283]),
  (34, .iload_n 3, [], []),
  (35, .iconst 0, [0], []),
  (36, .iastore, [], []),
  (37, .iinc 3 1, [1], []),
  (40, .goto (-16), [24], []),
  (43, .aload_n 2, [], []),
  (44, .invokevirtual 19, [0, 0, 2, 8], [655, 405, 406, 50]),
  (47, .iconst 0, [0], []),
  (48, .istore_n 3, [], []),
  (49, .iload_n 3, [], []),
  (50, .aload_n 1, [], []),
  (51, .getfield 24, [0, 6], [79]),
  (54, .if_icmp .ge 48, [102], []),
  (57, .aload_n 0, [], []),
  (58, .aload_n 1, [], []),
  (59, .iload_n 3, [], []),
  (60, .invokestatic 30, [1, 95, 3, 0, 0], [656, 657, 48]),
  (63, .istore 4, [], []),
  (65, .iload 4, [], []),
  (67, .iconst 1, [1], []),
  (68, .if_icmp .lt 28, [96], []),
  (71, .iload 4, [], []),
  (73, .bipush 7, [7], []),
  (75, .if_icmp .ge 21, [96], []),
  (78, .aload_n 0, [], []),
  (79, .getfield 9, [0, 0], [283]),
  (82, .iload 4, [], []),
  (84, .dup2, [], []),
  (85, .iaload, [], []),
  (86, .iconst 1, [1], []),
  (87, .iadd, [], []),
  (88, .iastore, [], []),
  (89, .aload_n 2, [], []),
  (90, .iload_n 3, [], []),
  (91, .iload 4, [], []),
  (93, .invokevirtual 34, [0, 2, 2, 9], [672, 409, 410, 50]),
  (96, .iinc 3 1, [1], []),
  (99, .goto (-50), [49], []),
  (102, .aload_n 1, [], []),
  (103, .getfield 38, [2, 6], [92]),
  (106, .aload_n 0, [], []),
  (107, .getfield 9, [0, 0], [283]),
  (110, .aload_n 1, [], []),
  (111, .getfield 41, [1, 6], [86]),
  (114, .invokestatic 44, [1, 90, 3, 0, 0], [673, 413, 48]),
  (117, .ireturn, [0], [])]
def tb_X0_rank : List (Nat × rI) := [
  (0, .iconst 0, [0], []),
  (1, .istore_n 2, [], []),
  (2, .iconst 0, [0], []),
  (3, .istore_n 3, [], []),
  (4, .iconst 1, [1], []),
  (5, .istore 4, [], []),
  (7, .iload 4, [], []),
  (9, .iload_n 1, [], []),
  (10, .if_icmp .gt 50, [60], []),
  (13, .iload 4, [], []),
  (15, .bipush 7, [7], []),
  (17, .if_icmp .ge 43, [60], []),
  (20, .iload_n 2, [], []),
  (21, .aload_n 0, [], []),
  (22, .getfield 9, [0, 0], [283]),
  (25, .iload 4, [], []),
  (27, .iaload, [], []),
  (28, .iadd, [], []),
  (29, .istore_n 2, [], []),
  (30, .iload_n 2, [], []),
  (31, .ifCond .lt 23, [54], []),
  (34, .iload_n 2, [], []),
  (35, .bipush 7, [7], []),
  (37, .if_icmp .ge 17, [54], []),
  (40, .iload_n 3, [], []),
  (41, .getstatic 48, [1000002], [1, 669]),
  (44, .iload 4, [], []),
  (46, .bipush 7, [7], []),
  (48, .imul, [], []),
  (49, .iload_n 2, [], []),
  (50, .iadd, [], []),
  (51, .iaload, [], []),
  (52, .iadd, [], []),
  (53, .istore_n 3, [], []),
  (54, .iinc 4 1, [1], []),
  (57, .goto (-50), [7], []),
  (60, .iload_n 3, [], []),
  (61, .ireturn, [0], [])]
def tb_X1_init : List (Nat × rI) := [
  (0, .aload_n 0, [], []),
  (1, .invokespecial 3, [0], [219, 67, 68]),
  (4, .aload_n 0, [], []),
  (5, .new 9, [4], [220, 149, 52]),
  (8, .dup, [], []),
  (9, .invokespecial 11, [2, 20, 0, 2, 14], [221, 151, 52]),
  (12, .putfield 12, [0, 1, 2, 1], [222]),
  (15, .aload_n 0, [], []),
  (16, .bipush 9, [9], []),
  (18, .newarray .int, [9], [130]),
  (20, .putfield 18, [1, 1, 2, 1], [224]),
  (23, .aload_n 0, [], []),
  (24, .bipush 63, [63], []),
  (26, .newarray .int, [63], [130]),
  (28, .putfield 22, [2, 1, 2, 1], [225]),
  (31, .aload_n 0, [], []),
  (32, .bipush 9, [9], []),
  (34, .newarray .long, [9], [201]),
  (36, .putfield 25, [3, 1, 2, 1], [226]),
  (39, .aload_n 0, [], []),
  (40, .bipush 7, [7], []),
  (42, .newarray .int, [7], [130]),
  (44, .putfield 29, [4, 1, 2, 1], [228]),
  (47, .aload_n 0, [], []),
  (48, .iconst 0, [0], []),
  (49, .putfield 32, [5, 0, 0, 1], [230]),
  (52, .return_, [3], [])]
def tb_X1_find : List (Nat × rI) := [
  (0, .aload_n 1, [], []),
  (1, .getfield 36, [2, 6], [90]),
  (4, .bipush 100, [100], []),
  (6, .imul, [], []),
  (7, .aload_n 1, [], []),
  (8, .getfield 41, [0, 6], [76]),
  (11, .bipush 10, [10], []),
  (13, .imul, [], []),
  (14, .iadd, [], []),
  (15, .aload_n 1, [], []),
  (16, .getfield 44, [1, 6], [83]),
  (19, .iadd, [], []),
  (20, .istore_n 3, [], []),
  (21, .iload_n 2, [], []),
  (22, .invokestatic 47, [1, 77, 1, 0, 0], [565, 559, 48]),
  (25, .ifCond .eq 13, [38], []),
  (28, .aload_n 0, [], []),
  (29, .getfield 18, [1, 1], [224]),
  (32, .iload_n 2, [], []),
  (33, .iaload, [], []),
  (34, .iload_n 3, [], []),
  (35, .if_icmp .ne 4, [39], []),
  (38, .return_, [3], []),
  (39, .aload_n 0, [], []),
  (40, .iload_n 2, [], []),
  (41, .putfield 32, [5, 0, 0, 1], [230]),
  (44, .aload_n 0, [], []),
  (45, .getfield 18, [1, 1], [224]),
  (48, .aload_n 0, [], []),
  (49, .getfield 32, [5, 1], [230]),
  (52, .iload_n 3, [], []),
  (53, .iastore, [], []),
  (54, .aload_n 0, [], []),
  (55, .getfield 25, [3, 1], [226]),
  (58, .aload_n 0, [], []),
  (59, .getfield 32, [5, 1], [230]),
  (62, .ldc2_w 51, [0, 1], [566]),
  (65, .lastore, [], []),
  (66, .aload_n 0, [], []),
  (67, .getfield 12, [0, 1], [222]),
  (70, .aload_n 1, [], []),
  (71, .getfield 36, [2, 6], [90]),
  (74, .aload_n 1, [], []),
  (75, .getfield 44, [1, 6], [83]),
  (78, .invokevirtual 53, [2, 2, 4, 39], [567, 461, 462, 463, 464, 51]),
  (81, .iconst 1, [1], []),
  (82, .istore 4, [], []),
  (84, .iload 4, [], []),
  (86, .aload_n 1, [], []),
  (87, .getfield 41, [0, 6], [76]),
  (90, .if_icmp .ge 17, [107], []),
  (93, .aload_n 0, [], []),
  (94, .getfield 12, [0, 1], [222]),
  (97, .iconst 0, [0], []),
  (98, .invokevirtual 57, [2, 1, 4, 40], [568, 467, 468, 469, 470, 51]),
  (101, .iinc 4 1, [1], []),
  (104, .goto (-20), [84], []),
  (107, .aload_n 0, [], []),
  (108, .iconst 1, [1], []),
  (109, .aload_n 0, [], []),
  (110, .getfield 32, [5, 1], [230]),
  (113, .invokestatic 61, [1, 93, 3, 0, 0], [569, 570, 48]),
  (116, .return_, [3], [])]
def tb_X1_weightOf : List (Nat × rI) := [
  (0, .iload_n 1, [], []),
  (1, .invokestatic 47, [1, 77, 1, 0, 0], [565, 559, 48]),
  (4, .ifCond .eq 14, [18], []),
  (7, .iload_n 2, [], []),
  (8, .iconst 1, [1], []),
  (9, .if_icmp .lt 9, [18], []),
  (12, .iload_n 2, [], []),
  (13, .bipush 6, [6], []),
  (15, .if_icmp .le 5, [20], []),
  (18, .iconst 0, [0], []),
  (19, .ireturn, [0], []),
  (20, .aload_n 0, [], []),
  (21, .getfield 22, [2, 1], [225]),
  (24, .iload_n 1, [], []),
  (25, .bipush 7, [7], []),
  (27, .imul, [], []),
  (28, .iload_n 2, [], []),
  (29, .iadd, [], []),
  (30, .iaload, [], []),
  (31, .ireturn, [0], [])]
def tb_X1_judge : List (Nat × rI) := [
  (0, .aload_n 0, [], []),
  (1, .getfield 12, [0, 1], [222]),
  (4, .aload_n 0, [], []),
  (5, .getfield 29, [4, 1], [228]),
  (8, .aload_n 0, [], []),
  (9, .getfield 32, [5, 1], [230]),
  (12, .invokevirtual 65, [0, 2, 4, 24], [576, 532, 533, 52]),
  (15, .lstore_n 1, [], []),
  (16, .aload_n 0, [], []),
  (17, .getfield 25, [3, 1], [226]),
  (20, .aload_n 0, [], []),
  (21, .getfield 32, [5, 1], [230]),
  (24, .laload, [], []),
  (25, .lconst 0, [0], []),
  (26, .lcmp, [], []),
  (27, .ifCond .lt 17, [44], []),
  (30, .lload_n 1, [], []),
  (31, .aload_n 0, [], []),
  (32, .getfield 25, [3, 1], [226]),
  (35, .aload_n 0, [], []),
  (36, .getfield 32, [5, 1], [230]),
  (39, .laload, [], []),
  (40, .lcmp, [], []),
  (41, .ifCond .ge 34, [75], []),
  (44, .aload_n 0, [], []),
  (45, .getfield 25, [3, 1], [226]),
  (48, .aload_n 0, [], []),
  (49, .getfield 32, [5, 1], [230]),
  (52, .lload_n 1, [], []),
  (53, .lastore, [], []),
  (54, .aload_n 0, [], []),
  (55, .getfield 29, [4, 1], [228]),
  (58, .iconst 0, [0], []),
  (59, .aload_n 0, [], []),
  (60, .getfield 22, [2, 1], [225]),
  (63, .aload_n 0, [], []),
  (64, .getfield 32, [5, 1], [230]),
  (67, .bipush 7, [7], []),
  (69, .imul, [], []),
  (70, .bipush 7, [7], []),
  (72, .invokestatic 69, [2], [577, 579, 578, 59]),
  (75, .return_, [3], [])]
def tb_X2_init : List (Nat × rI) := [
  (0, .aload_n 0, [], []),
  (1, .invokespecial 3, [0], [137, 67, 68]),
  (4, .aload_n 0, [], []),
  (5, .bipush 6, [6], []),
  (7, .newarray .int, [6], [130]),
  (9, .putfield 9, [0, 1, 2, 2], [138]),
  (12, .aload_n 0, [], []),
  (13, .bipush 7, [7], []),
  (15, .newarray .int, [7], [130]),
  (17, .putfield 15, [1, 1, 2, 2], [140]),
  (20, .return_, [3], [])]
def tb_X2_clear : List (Nat × rI) := [
  (0, .iconst 0, [0], []),
  (1, .istore_n 1, [], []),
  (2, .iload_n 1, [], []),
  (3, .bipush 7, [7], []),
  (5, .if_icmp .ge 16, [21], []),
  (8, .aload_n 0, [], []),
  (9, .getfield 15, [1, 2], [140]),
  (12, .iload_n 1, [], []),
  (13, .iconst 0, [0], []),
  (14, .iastore, [], []),
  (15, .iinc 1 1, [1], []),
  (18, .goto (-16), [2], []),
  (21, .iconst 0, [0], []),
  (22, .istore_n 1, [], []),
  (23, .iload_n 1, [], []),
  (24, .bipush 6, [6], []),
  (26, .if_icmp .ge 16, [42], []),
  (29, .aload_n 0, [], []),
  (30, .getfield 9, [0, 2], [138]),
  (33, .iload_n 1, [], []),
  (34, .iconst 0, [0], []),
  (35, .iastore, [], []),
  (36, .iinc 1 1, [1], []),
  (39, .goto (-16), [23], []),
  (42, .return_, [3], [])]
def tb_X2_write : List (Nat × rI) := [
  (0, .iload_n 1, [], []),
  (1, .ifCond .lt 36, [37], []),
  (4, .iload_n 1, [], []),
  (5, .bipush 6, [6], []),
  (7, .if_icmp .ge 30, [37], []),
  (10, .iload_n 2, [], []),
  (11, .ifCond .lt 26, [37], []),
  (14, .iload_n 2, [], []),
  (15, .bipush 7, [7], []),
  (17, .if_icmp .ge 20, [37], []),
  (20, .aload_n 0, [], []),
  (21, .getfield 9, [0, 2], [138]),
  (24, .iload_n 1, [], []),
  (25, .iload_n 2, [], []),
  (26, .iastore, [], []),
  (27, .aload_n 0, [], []),
  (28, .getfield 15, [1, 2], [140]),
  (31, .iload_n 2, [], []),
  (32, .dup2, [], []),
  (33, .iaload, [], []),
  (34, .iconst 1, [1], []),
  (35, .iadd, [], []),
  (36, .iastore, [], []),
  (37, .return_, [3], [])]
def tb_X2_draw : List (Nat × rI) := [
  (0, .aload_n 1, [], []),
  (1, .invokevirtual 18, [0, 0, 6, 36], [739, 439, 440, 49]),
  (4, .istore_n 3, [], []),
  (5, .iload_n 2, [], []),
  (6, .istore 4, [], []),
  (8, .aload_n 0, [], []),
  (9, .invokevirtual 24, [0, 0, 2, 8], [740, 405, 406, 50]),
  (12, .iconst 0, [0], []),
  (13, .istore 5, [], []),
  (15, .iload 5, [], []),
  (17, .aload_n 1, [], []),
  (18, .getfield 27, [0, 6], [80]),
  (21, .if_icmp .ge 68, [89], []),
  (24, .bipush 75, [75], []),
  (26, .iload 4, [], []),
  (28, .imul, [], []),
  (29, .bipush 74, [74], []),
  (31, .iadd, [], []),
  (32, .ldc 31, [65537], [741]),
  (34, .irem, [], []),
  (35, .istore 4, [], []),
  (37, .iload_n 3, [], []),
  (38, .ifCond .le 10, [48], []),
  (41, .iload 4, [], []),
  (43, .iload_n 3, [], []),
  (44, .irem, [], []),
  (45, .goto 4, [49], []),
  (48, .iconst 0, [0], []),
  (49, .istore 6, [], []),
  (51, .aload_n 0, [], []),
  (52, .iload 5, [], []),
  (54, .aload_n 1, [], []),
  (55, .getfield 32, [4, 6], [99]),
  (58, .iload 5, [], []),
  (60, .iaload, [], []),
  (61, .ifCond .eq 13, [74], []),
  (64, .aload_n 1, [], []),
  (65, .getfield 32, [4, 6], [99]),
  (68, .iload 5, [], []),
  (70, .iaload, [], []),
  (71, .goto 9, [80], []),
  (74, .aload_n 1, [], []),
  (75, .iload 6, [], []),
  (77, .invokestatic 35, [0, 11, 2, 0, 0], [742, 743, 50]),
  (80, .invokevirtual 39, [0, 2, 2, 9], [745, 409, 410, 50]),
  (83, .iinc 5 1, [1], []),
  (86, .goto (-71), [15], []),
  (89, .iload 4, [], []),
  (91, .ireturn, [0], [])]
def tb_X2_numberOfLot : List (Nat × rI) := [
  (0, .iload_n 1, [], []),
  (1, .istore_n 2, [], []),
  (2, .iconst 1, [1], []),
  (3, .istore_n 3, [], []),
  (4, .iload_n 3, [], []),
  (5, .aload_n 0, [], []),
  (6, .getfield 43, [1, 6], [88]),
  (9, .if_icmp .ge 30, [39], []),
  (12, .iload_n 2, [], []),
  (13, .aload_n 0, [], []),
  (14, .getfield 46, [3, 6], [96]),
  (17, .iload_n 3, [], []),
  (18, .iaload, [], []),
  (19, .if_icmp .ge 5, [24], []),
  (22, .iload_n 3, [], []),
  (23, .ireturn, [0], []),
  (24, .iload_n 2, [], []),
  (25, .aload_n 0, [], []),
  (26, .getfield 46, [3, 6], [96]),
  (29, .iload_n 3, [], []),
  (30, .iaload, [], []),
  (31, .isub, [], []),
  (32, .istore_n 2, [], []),
  (33, .iinc 3 1, [1], []),
  (36, .goto (-32), [4], []),
  (39, .aload_n 0, [], []),
  (40, .getfield 43, [1, 6], [88]),
  (43, .ireturn, [0], [])]
def tb_X2_writers : List (Nat × rI) := [
  (0, .iconst 0, [0], []),
  (1, .istore_n 2, [], []),
  (2, .iconst 0, [0], []),
  (3, .istore_n 3, [], []),
  (4, .iload_n 3, [], []),
  (5, .bipush 6, [6], []),
  (7, .if_icmp .ge 25, [32], []),
  (10, .aload_n 0, [], []),
  (11, .getfield 9, [0, 2], [138]),
  (14, .iload_n 3, [], []),
  (15, .iaload, [], []),
  (16, .iload_n 1, [], []),
  (17, .if_icmp .ne 9, [26], []),
  (20, .iload_n 2, [], []),
  (21, .iconst 1, [1], []),
  (22, .iload_n 3, [], []),
  (23, .ishl, [], []),
  (24, .ior, [], []),
  (25, .istore_n 2, [], []),
  (26, .iinc 3 1, [1], []),
  (29, .goto (-25), [4], []),
  (32, .iload_n 2, [], []),
  (33, .ireturn, [0], [])]
def tb_X3_init : List (Nat × rI) := [
  (0, .aload_n 0, [], []),
  (1, .invokespecial 3, [0], [298, 67, 68]),
  (4, .aload_n 0, [], []),
  (5, .new 9, [7], [299, 203, 53]),
  (8, .dup, [], []),
  (9, .invokespecial 11, [2, 42, 0, 2, 14], [300, 205, 53]),
  (12, .putfield 12, [0, 1, 2, 3], [301]),
  (15, .aload_n 0, [], []),
  (16, .bipush 6, [6], []),
  (18, .newarray .int, [6], [130]),
  (20, .putfield 18, [1, 1, 2, 3], [302]),
  (23, .aload_n 0, [], []),
  (24, .iconst 0, [0], []),
  (25, .putfield 22, [2, 0, 0, 3], [304]),
  (28, .aload_n 0, [], []),
  (29, .iconst 0, [0], []),
  (30, .putfield 26, [3, 0, 0, 3], [305]),
  (33, .aload_n 0, [], []),
  (34, .iconst 0, [0], []),
  (35, .putfield 29, [4, 0, 0, 3], [306]),
  (38, .aload_n 0, [], []),
  (39, .iconst (-1), [0, 1], []),
  (40, .putfield 32, [5, 0, 0, 3], [307]),
  (43, .aload_n 0, [], []),
  (44, .iconst 0, [0], []),
  (45, .putfield 35, [6, 0, 3, 3], [308]),
  (48, .return_, [3], [])]
def tb_X3_read : List (Nat × rI) := [
  (0, .aload_n 0, [], []),
  (1, .aload_n 1, [], []),
  (2, .getfield 39, [2, 6], [91]),
  (5, .putfield 22, [2, 0, 0, 3], [304]),
  (8, .aload_n 0, [], []),
  (9, .aload_n 1, [], []),
  (10, .getfield 42, [0, 6], [77]),
  (13, .putfield 26, [3, 0, 0, 3], [305]),
  (16, .aload_n 0, [], []),
  (17, .aload_n 1, [], []),
  (18, .getfield 43, [1, 6], [84]),
  (21, .putfield 29, [4, 0, 0, 3], [306]),
  (24, .aload_n 0, [], []),
  (25, .iconst (-1), [0, 1], []),
  (26, .putfield 32, [5, 0, 0, 3], [307]),
  (29, .aload_n 0, [], []),
  (30, .iconst 0, [0], []),
  (31, .putfield 35, [6, 0, 3, 3], [308]),
  (34, .iconst 0, [0], []),
  (35, .istore_n 2, [], []),
  (36, .iload_n 2, [], []),
  (37, .bipush 6, [6], []),
  (39, .if_icmp .ge 16, [55], []),
  (42, .aload_n 0, [], []),
  (43, .getfield 18, [1, 3], [302]),
  (46, .iload_n 2, [], []),
  (47, .iconst 0, [0], []),
  (48, .iastore, [], []),
  (49, .iinc 2 1, [1], []),
  (52, .goto (-16), [36], []),
  (55, .iconst 0, [0], []),
  (56, .istore_n 2, [], []),
  (57, .iload_n 2, [], []),
  (58, .aload_n 1, [], []),
  (59, .getfield 44, [8, 6], [109]),
  (62, .if_icmp .ge 67, [129], []),
  (65, .iload_n 2, [], []),
  (66, .bipush 6, [6], []),
  (68, .if_icmp .ge 61, [129], []),
  (71, .aload_n 1, [], []),
  (72, .getfield 47, [5, 6], [103]),
  (75, .iload_n 2, [], []),
  (76, .iaload, [], []),
  (77, .istore_n 3, [], []),
  (78, .iload_n 3, [], []),
  (79, .iconst 2, [2], []),
  (80, .if_icmp .eq 19, [99], []),
  (83, .aload_n 0, [], []),
  (84, .aload_n 1, [], []),
  (85, .getfield 50, [6, 6], [105]),
  (88, .iload_n 2, [], []),
  (89, .iaload, [], []),
  (90, .aload_n 1, [], []),
  (91, .getfield 53, [7, 6], [107]),
  (94, .iload_n 2, [], []),
  (95, .iaload, [], []),
  (96, .invokevirtual 56, [0, 2, 3, 15], [700, 702, 11, 57]),
  (99, .iload_n 3, [], []),
  (100, .iconst 1, [1], []),
  (101, .if_icmp .eq 22, [123], []),
  (104, .aload_n 0, [], []),
  (105, .iload_n 3, [], []),
  (106, .iconst 2, [2], []),
  (107, .if_icmp .ne 7, [114], []),
  (110, .iconst 0, [0], []),
  (111, .goto 9, [120], []),
  (114, .aload_n 1, [], []),
  (115, .getfield 53, [7, 6], [107]),
  (118, .iload_n 2, [], []),
  (119, .iaload, [], []),
  (120, .invokevirtual 60, [0, 1, 3, 16], [704, 706, 12, 57]),
  (123, .iinc 2 1, [1], []),
  (126, .goto (-69), [57], []),
  (129, .return_, [3], [])]
def tb_X3_bind : List (Nat × rI) := [
  (0, .iload_n 1, [], []),
  (1, .ifCond .lt 9, [10], []),
  (4, .iload_n 1, [], []),
  (5, .bipush 6, [6], []),
  (7, .if_icmp .lt 4, [11], []),
  (10, .return_, [3], []),
  (11, .aload_n 0, [], []),
  (12, .getfield 18, [1, 3], [302]),
  (15, .iload_n 1, [], []),
  (16, .iaload, [], []),
  (17, .ifCond .eq 18, [35], []),
  (20, .aload_n 0, [], []),
  (21, .getfield 18, [1, 3], [302]),
  (24, .iload_n 1, [], []),
  (25, .iaload, [], []),
  (26, .iload_n 2, [], []),
  (27, .if_icmp .eq 8, [35], []),
  (30, .aload_n 0, [], []),
  (31, .iconst 1, [1], []),
  (32, .putfield 35, [6, 0, 3, 3], [308]),
  (35, .aload_n 0, [], []),
  (36, .getfield 18, [1, 3], [302]),
  (39, .iload_n 1, [], []),
  (40, .iload_n 2, [], []),
  (41, .iastore, [], []),
  (42, .return_, [3], [])]
def tb_X3_demand : List (Nat × rI) := [
  (0, .aload_n 0, [], []),
  (1, .getfield 32, [5, 3], [307]),
  (4, .iconst (-1), [0, 1], []),
  (5, .if_icmp .eq 16, [21], []),
  (8, .aload_n 0, [], []),
  (9, .getfield 32, [5, 3], [307]),
  (12, .iload_n 1, [], []),
  (13, .if_icmp .eq 8, [21], []),
  (16, .aload_n 0, [], []),
  (17, .iconst 1, [1], []),
  (18, .putfield 35, [6, 0, 3, 3], [308]),
  (21, .aload_n 0, [], []),
  (22, .iload_n 1, [], []),
  (23, .putfield 32, [5, 0, 0, 3], [307]),
  (26, .return_, [3], [])]
def tb_X3_rows : List (Nat × rI) := [
  (0, .aload_n 0, [], []),
  (1, .getfield 35, [6, 3], [308]),
  (4, .ifCond .eq 5, [9], []),
  (7, .iconst 0, [0], []),
  (8, .ireturn, [0], []),
  (9, .aload_n 0, [], []),
  (10, .getfield 12, [0, 3], [301]),
  (13, .aload_n 0, [], []),
  (14, .getfield 22, [2, 3], [304]),
  (17, .aload_n 0, [], []),
  (18, .getfield 29, [4, 3], [306]),
  (21, .invokevirtual 64, [2, 2, 7, 39], [712, 546, 462, 547, 464, 51]),
  (24, .iconst 0, [0], []),
  (25, .istore_n 1, [], []),
  (26, .iload_n 1, [], []),
  (27, .aload_n 0, [], []),
  (28, .getfield 26, [3, 3], [305]),
  (31, .if_icmp .ge 28, [59], []),
  (34, .iload_n 1, [], []),
  (35, .bipush 6, [6], []),
  (37, .if_icmp .ge 22, [59], []),
  (40, .aload_n 0, [], []),
  (41, .getfield 12, [0, 3], [301]),
  (44, .aload_n 0, [], []),
  (45, .getfield 18, [1, 3], [302]),
  (48, .iload_n 1, [], []),
  (49, .iaload, [], []),
  (50, .invokevirtual 67, [2, 1, 7, 40], [713, 549, 468, 550, 470, 51]),
  (53, .iinc 1 1, [1], []),
  (56, .goto (-30), [26], []),
  (59, .aload_n 0, [], []),
  (60, .getfield 32, [5, 3], [307]),
  (63, .ifCond .lt 12, [75], []),
  (66, .aload_n 0, [], []),
  (67, .getfield 32, [5, 3], [307]),
  (70, .bipush 7, [7], []),
  (72, .if_icmp .lt 20, [92], []),
  (75, .aload_n 0, [], []),
  (76, .getfield 29, [4, 3], [306]),
  (79, .i2l, [], []),
  (80, .aload_n 0, [], []),
  (81, .getfield 12, [0, 3], [301]),
  (84, .getfield 70, [4, 7], [185, 186]),
  (87, .invokestatic 73, [1, 85, 2, 0, 0], [714, 482, 48]),
  (90, .l2i, [], []),
  (91, .ireturn, [0], []),
  (92, .aload_n 0, [], []),
  (93, .getfield 12, [0, 3], [301]),
  (96, .getstatic 77, [1000003], [1, 715]),
  (99, .invokevirtual 80, [2, 1, 7, 41], [717, 552, 474, 553, 476, 51]),
  (102, .aload_n 0, [], []),
  (103, .getfield 12, [0, 3], [301]),
  (106, .getfield 84, [1, 7], [169, 165]),
  (109, .aload_n 0, [], []),
  (110, .getfield 32, [5, 3], [307]),
  (113, .laload, [], []),
  (114, .l2i, [], []),
  (115, .ireturn, [0], [])]
def tb_X3_bindFirst : List (Nat × rI) := [
  (0, .iconst 0, [0], []),
  (1, .istore_n 1, [], []),
  (2, .iload_n 1, [], []),
  (3, .aload_n 0, [], []),
  (4, .getfield 26, [3, 3], [305]),
  (7, .if_icmp .ge 70, [77], []),
  (10, .iload_n 1, [], []),
  (11, .bipush 6, [6], []),
  (13, .if_icmp .ge 64, [77], []),
  (16, .aload_n 0, [], []),
  (17, .getfield 18, [1, 3], [302]),
  (20, .iload_n 1, [], []),
  (21, .iaload, [], []),
  (22, .ifCond .eq 7, [29], []),
  (25, .iconst 1, [1], []),
  (26, .goto 4, [30], []),
  (29, .iconst 0, [0], []),
  (30, .istore_n 2, [], []),
  (31, .iconst 1, [1], []),
  (32, .istore_n 3, [], []),
  (33, .iload_n 3, [], []),
  (34, .aload_n 0, [], []),
  (35, .getfield 29, [4, 3], [306]),
  (38, .if_icmp .gt 33, [71], []),
  (41, .iload_n 2, [], []),
  (42, .ifCond .ne 29, [71], []),
  (45, .aload_n 0, [], []),
  (46, .getfield 18, [1, 3], [302]),
  (49, .iload_n 1, [], []),
  (50, .iload_n 3, [], []),
  (51, .iastore, [], []),
  (52, .aload_n 0, [], []),
  (53, .invokevirtual 88, [0, 0, 3, 17], [722, 709, 710, 57]),
  (56, .ifCond .le 7, [63], []),
  (59, .iconst 1, [1], []),
  (60, .goto 4, [64], []),
  (63, .iconst 0, [0], []),
  (64, .istore_n 2, [], []),
  (65, .iinc 3 1, [1], []),
  (68, .goto (-35), [33], []),
  (71, .iinc 1 1, [1], []),
  (74, .goto (-72), [2], []),
  (77, .return_, [3], [])]
def tb_X3_numbersOf : List (Nat × rI) := [
  (0, .iload_n 1, [], []),
  (1, .ifCond .lt 9, [10], []),
  (4, .iload_n 1, [], []),
  (5, .bipush 6, [6], []),
  (7, .if_icmp .lt 5, [12], []),
  (10, .iconst 0, [0], []),
  (11, .ireturn, [0], []),
  (12, .aload_n 0, [], []),
  (13, .getfield 18, [1, 3], [302]),
  (16, .iload_n 1, [], []),
  (17, .iaload, [], []),
  (18, .istore_n 2, [], []),
  (19, .iconst 0, [0], []),
  (20, .istore_n 3, [], []),
  (21, .iconst 1, [1], []),
  (22, .istore 4, [], []),
  (24, .iload 4, [], []),
  (26, .aload_n 0, [], []),
  (27, .getfield 29, [4, 3], [306]),
  (30, .if_icmp .gt 41, [71], []),
  (33, .aload_n 0, [], []),
  (34, .getfield 18, [1, 3], [302]),
  (37, .iload_n 1, [], []),
  (38, .iload 4, [], []),
  (40, .iastore, [], []),
  (41, .iload_n 2, [], []),
  (42, .ifCond .eq 9, [51], []),
  (45, .iload_n 2, [], []),
  (46, .iload 4, [], []),
  (48, .if_icmp .ne 17, [65], []),
  (51, .aload_n 0, [], []),
  (52, .invokevirtual 88, [0, 0, 3, 17], [722, 709, 710, 57]),
  (55, .ifCond .le 10, [65], []),
  (58, .iload_n 3, [], []),
  (59, .iconst 1, [1], []),
  (60, .iload 4, [], []),
  (62, .ishl, [], []),
  (63, .ior, [], []),
  (64, .istore_n 3, [], []),
  (65, .iinc 4 1, [1], []),
  (68, .goto (-44), [24], []),
  (71, .aload_n 0, [], []),
  (72, .getfield 18, [1, 3], [302]),
  (75, .iload_n 1, [], []),
  (76, .iload_n 2, [], []),
  (77, .iastore, [], []),
  (78, .iload_n 3, [], []),
  (79, .ireturn, [0], [])]
def tb_X4_init : List (Nat × rI) := [
  (0, .aload_n 0, [], []),
  (1, .invokespecial 3, [2, 38, 0, 2, 14], [153, 154, 51]),
  (4, .return_, [3], [])]
def tb_X4_meet : List (Nat × rI) := [
  (0, .aload_n 0, [], []),
  (1, .getfield 9, [2, 4], [173, 174]),
  (4, .invokestatic 15, [1, 88, 1, 0, 0], [490, 416, 48]),
  (7, .istore_n 3, [], []),
  (8, .aload_n 0, [], []),
  (9, .getfield 9, [2, 4], [173, 174]),
  (12, .iload_n 3, [], []),
  (13, .aload_n 0, [], []),
  (14, .getfield 19, [0, 4], [160, 161]),
  (17, .aload_n 0, [], []),
  (18, .getfield 23, [3, 4], [180, 181]),
  (21, .invokestatic 26, [1, 89, 3, 0, 0], [491, 419, 48]),
  (24, .iconst 1, [1], []),
  (25, .iadd, [], []),
  (26, .invokestatic 30, [1, 91, 2, 0, 0], [492, 422, 48]),
  (29, .istore 4, [], []),
  (31, .iconst 1, [1], []),
  (32, .istore 5, [], []),
  (34, .iconst 1, [1], []),
  (35, .istore 6, [], []),
  (37, .iload 6, [], []),
  (39, .aload_n 0, [], []),
  (40, .getfield 23, [3, 4], [180, 181]),
  (43, .if_icmp .gt 64, [107], []),
  (46, .iload 6, [], []),
  (48, .bipush 7, [7], []),
  (50, .if_icmp .ge 57, [107], []),
  (53, .aload_n 0, [], []),
  (54, .getfield 19, [0, 4], [160, 161]),
  (57, .iload 6, [], []),
  (59, .iaload, [], []),
  (60, .iload_n 3, [], []),
  (61, .if_icmp .ne 9, [70], []),
  (64, .iinc 5 1, [1], []),
  (67, .goto 34, [101], []),
  (70, .aload_n 0, [], []),
  (71, .getfield 19, [0, 4], [160, 161]),
  (74, .iload 6, [], []),
  (76, .iaload, [], []),
  (77, .iload_n 3, [], []),
  (78, .iconst 1, [1], []),
  (79, .isub, [], []),
  (80, .if_icmp .ne 21, [101], []),
  (83, .iload 5, [], []),
  (85, .iload 4, [], []),
  (87, .if_icmp .ne 14, [101], []),
  (90, .aload_n 0, [], []),
  (91, .getfield 34, [1, 4], [166, 167]),
  (94, .iload 6, [], []),
  (96, .dup2, [], []),
  (97, .laload, [], []),
  (98, .lload_n 1, [], []),
  (99, .ladd, [], []),
  (100, .lastore, [], []),
  (101, .iinc 6 1, [1], []),
  (104, .goto (-67), [37], []),
  (107, .return_, [3], [])]
def tb_X4_top : List (Nat × rI) := [
  (0, .iconst 1, [1], []),
  (1, .istore_n 1, [], []),
  (2, .iconst 2, [2], []),
  (3, .istore_n 2, [], []),
  (4, .iload_n 2, [], []),
  (5, .aload_n 0, [], []),
  (6, .getfield 23, [3, 4], [180, 181]),
  (9, .if_icmp .gt 33, [42], []),
  (12, .iload_n 2, [], []),
  (13, .bipush 7, [7], []),
  (15, .if_icmp .ge 27, [42], []),
  (18, .aload_n 0, [], []),
  (19, .getfield 34, [1, 4], [166, 167]),
  (22, .iload_n 2, [], []),
  (23, .laload, [], []),
  (24, .aload_n 0, [], []),
  (25, .getfield 34, [1, 4], [166, 167]),
  (28, .iload_n 1, [], []),
  (29, .laload, [], []),
  (30, .lcmp, [], []),
  (31, .ifCond .le 5, [36], []),
  (34, .iload_n 2, [], []),
  (35, .istore_n 1, [], []),
  (36, .iinc 2 1, [1], []),
  (39, .goto (-35), [4], []),
  (42, .iload_n 1, [], []),
  (43, .ireturn, [0], [])]
def tb_X4_average : List (Nat × rI) := [
  (0, .lconst 0, [0], []),
  (1, .lstore_n 2, [], []),
  (2, .iconst 1, [1], []),
  (3, .istore 4, [], []),
  (5, .iload 4, [], []),
  (7, .aload_n 0, [], []),
  (8, .getfield 23, [3, 4], [180, 181]),
  (11, .if_icmp .gt 39, [50], []),
  (14, .iload 4, [], []),
  (16, .bipush 7, [7], []),
  (18, .if_icmp .ge 32, [50], []),
  (21, .iload 4, [], []),
  (23, .aload_n 1, [], []),
  (24, .arraylength, [], []),
  (25, .if_icmp .ge 25, [50], []),
  (28, .lload_n 2, [], []),
  (29, .aload_n 1, [], []),
  (30, .iload 4, [], []),
  (32, .iaload, [], []),
  (33, .i2l, [], []),
  (34, .aload_n 0, [], []),
  (35, .getfield 34, [1, 4], [166, 167]),
  (38, .iload 4, [], []),
  (40, .laload, [], []),
  (41, .lmul, [], []),
  (42, .ladd, [], []),
  (43, .lstore_n 2, [], []),
  (44, .iinc 4 1, [1], []),
  (47, .goto (-42), [5], []),
  (50, .lload_n 2, [], []),
  (51, .lreturn, [2], [])]
def tb_X4_surplus : List (Nat × rI) := [
  (0, .iload_n 2, [], []),
  (1, .i2l, [], []),
  (2, .aload_n 0, [], []),
  (3, .getfield 34, [1, 4], [166, 167]),
  (6, .aload_n 0, [], []),
  (7, .invokevirtual 38, [0, 0, 4, 22], [535, 520, 521, 52]),
  (10, .laload, [], []),
  (11, .lmul, [], []),
  (12, .aload_n 0, [], []),
  (13, .aload_n 1, [], []),
  (14, .invokevirtual 42, [0, 1, 4, 23], [536, 528, 529, 52]),
  (17, .lsub, [], []),
  (18, .lreturn, [2], [])]
def tb_X5_init : List (Nat × rI) := [
  (0, .aload_n 0, [], []),
  (1, .invokespecial 3, [0], [250, 67, 68]),
  (4, .aload_n 0, [], []),
  (5, .new 9, [7], [251, 203, 53]),
  (8, .dup, [], []),
  (9, .invokespecial 11, [2, 42, 0, 2, 14], [252, 205, 53]),
  (12, .putfield 12, [0, 1, 2, 5], [254]),
  (15, .aload_n 0, [], []),
  (16, .bipush 6, [6], []),
  (18, .newarray .int, [6], [130]),
  (20, .putfield 18, [1, 1, 2, 5], [256]),
  (23, .aload_n 0, [], []),
  (24, .bipush 6, [6], []),
  (26, .newarray .int, [6], [130]),
  (28, .putfield 22, [2, 1, 2, 5], [258]),
  (31, .aload_n 0, [], []),
  (32, .ldc2_w 25, [0, 1], [253]),
  (35, .putfield 27, [3, 0, 1, 5], [259]),
  (38, .aload_n 0, [], []),
  (39, .iconst 0, [0], []),
  (40, .putfield 31, [4, 0, 0, 5], [261]),
  (43, .aload_n 0, [], []),
  (44, .iconst 0, [0], []),
  (45, .putfield 35, [5, 0, 0, 5], [262]),
  (48, .return_, [3], [])]
def tb_X5_find : List (Nat × rI) := [
  (0, .aload_n 0, [], []),
  (1, .iload_n 2, [], []),
  (2, .putfield 31, [4, 0, 0, 5], [261]),
  (5, .aload_n 0, [], []),
  (6, .iload_n 2, [], []),
  (7, .invokestatic 38, [0, 166, 1, 0, 0], [601, 602, 60]),
  (10, .putfield 35, [5, 0, 0, 5], [262]),
  (13, .aload_n 0, [], []),
  (14, .ldc2_w 25, [0, 1], [253]),
  (17, .putfield 27, [3, 0, 1, 5], [259]),
  (20, .aload_n 0, [], []),
  (21, .aload_n 1, [], []),
  (22, .iconst 0, [0], []),
  (23, .iconst 1, [1], []),
  (24, .invokestatic 44, [1, 94, 4, 0, 0], [607, 608, 48]),
  (27, .return_, [3], [])]
def tb_X5_numberOf : List (Nat × rI) := [
  (0, .aload_n 0, [], []),
  (1, .getfield 31, [4, 5], [261]),
  (4, .iconst 1, [1], []),
  (5, .iload_n 1, [], []),
  (6, .ishl, [], []),
  (7, .iconst 1, [1], []),
  (8, .isub, [], []),
  (9, .iand, [], []),
  (10, .invokestatic 38, [0, 166, 1, 0, 0], [601, 602, 60]),
  (13, .istore_n 2, [], []),
  (14, .iload_n 2, [], []),
  (15, .bipush 6, [6], []),
  (17, .if_icmp .ge 12, [29], []),
  (20, .aload_n 0, [], []),
  (21, .getfield 22, [2, 5], [258]),
  (24, .iload_n 2, [], []),
  (25, .iaload, [], []),
  (26, .goto 4, [30], []),
  (29, .iconst 0, [0], []),
  (30, .ireturn, [0], [])]
def tb_X5_gather : List (Nat × rI) := [
  (0, .aload_n 0, [], []),
  (1, .getfield 12, [0, 5], [254]),
  (4, .aload_n 1, [], []),
  (5, .getfield 48, [2, 6], [94]),
  (8, .aload_n 1, [], []),
  (9, .getfield 53, [1, 6], [87]),
  (12, .invokevirtual 56, [2, 2, 7, 39], [614, 546, 462, 547, 464, 51]),
  (15, .iconst 0, [0], []),
  (16, .istore_n 2, [], []),
  (17, .iconst 0, [0], []),
  (18, .istore_n 3, [], []),
  (19, .iload_n 3, [], []),
  (20, .aload_n 1, [], []),
  (21, .getfield 60, [0, 6], [81]),
  (24, .if_icmp .ge 58, [82], []),
  (27, .aload_n 0, [], []),
  (28, .getfield 31, [4, 5], [261]),
  (31, .iload_n 3, [], []),
  (32, .ishr, [], []),
  (33, .iconst 1, [1], []),
  (34, .iand, [], []),
  (35, .ifCond .eq 28, [63], []),
  (38, .iload_n 2, [], []),
  (39, .bipush 6, [6], []),
  (41, .if_icmp .ge 22, [63], []),
  (44, .aload_n 0, [], []),
  (45, .getfield 12, [0, 5], [254]),
  (48, .aload_n 0, [], []),
  (49, .getfield 18, [1, 5], [256]),
  (52, .iload_n 2, [], []),
  (53, .iaload, [], []),
  (54, .invokevirtual 63, [2, 1, 7, 40], [615, 549, 468, 550, 470, 51]),
  (57, .iinc 2 1, [1], []),
  (60, .goto 16, [76], []),
  (63, .aload_n 0, [], []),
  (64, .getfield 12, [0, 5], [254]),
  (67, .aload_n 1, [], []),
  (68, .getfield 67, [4, 6], [100]),
  (71, .iload_n 3, [], []),
  (72, .iaload, [], []),
  (73, .invokevirtual 63, [2, 1, 7, 40], [615, 549, 468, 550, 470, 51]),
  (76, .iinc 3 1, [1], []),
  (79, .goto (-60), [19], []),
  (82, .return_, [3], [])]
def tb_X5_judge : List (Nat × rI) := [
  (0, .lconst 0, [0], []),
  (1, .lstore_n 1, [], []),
  (2, .iconst 0, [0], []),
  (3, .istore_n 3, [], []),
  (4, .iload_n 3, [], []),
  (5, .aload_n 0, [], []),
  (6, .getfield 35, [5, 5], [262]),
  (9, .if_icmp .ge 49, [58], []),
  (12, .iload_n 3, [], []),
  (13, .bipush 6, [6], []),
  (15, .if_icmp .ge 43, [58], []),
  (18, .aload_n 0, [], []),
  (19, .getfield 18, [1, 5], [256]),
  (22, .iload_n 3, [], []),
  (23, .iaload, [], []),
  (24, .istore 4, [], []),
  (26, .iload 4, [], []),
  (28, .iconst 1, [1], []),
  (29, .if_icmp .lt 23, [52], []),
  (32, .iload 4, [], []),
  (34, .bipush 7, [7], []),
  (36, .if_icmp .ge 16, [52], []),
  (39, .lload_n 1, [], []),
  (40, .aload_n 0, [], []),
  (41, .getfield 12, [0, 5], [254]),
  (44, .getfield 70, [1, 7], [168, 165]),
  (47, .iload 4, [], []),
  (49, .laload, [], []),
  (50, .ladd, [], []),
  (51, .lstore_n 1, [], []),
  (52, .iinc 3 1, [1], []),
  (55, .goto (-51), [4], []),
  (58, .lload_n 1, [], []),
  (59, .aload_n 0, [], []),
  (60, .getfield 27, [3, 5], [259]),
  (63, .lcmp, [], []),
  (64, .ifCond .le 23, [87], []),
  (67, .aload_n 0, [], []),
  (68, .lload_n 1, [], []),
  (69, .putfield 27, [3, 0, 1, 5], [259]),
  (72, .aload_n 0, [], []),
  (73, .getfield 18, [1, 5], [256]),
  (76, .iconst 0, [0], []),
  (77, .aload_n 0, [], []),
  (78, .getfield 22, [2, 5], [258]),
  (81, .iconst 0, [0], []),
  (82, .bipush 6, [6], []),
  (84, .invokestatic 74, [2], [620, 579, 578, 59]),
  (87, .return_, [3], [])]
def tb_X6_init : List (Nat × rI) := [
  (0, .aload_n 0, [], []),
  (1, .invokespecial 3, [0], [74, 67, 68]),
  (4, .aload_n 0, [], []),
  (5, .iconst 4, [4], []),
  (6, .putfield 9, [0, 0, 0, 6], [75]),
  (9, .aload_n 0, [], []),
  (10, .iconst 5, [5], []),
  (11, .putfield 15, [1, 0, 0, 6], [82]),
  (14, .aload_n 0, [], []),
  (15, .iconst 0, [0], []),
  (16, .putfield 18, [2, 0, 0, 6], [89]),
  (19, .aload_n 0, [], []),
  (20, .bipush 7, [7], []),
  (22, .newarray .int, [7], [130]),
  (24, .dup, [], []),
  (25, .iconst 0, [0], []),
  (26, .iconst 0, [0], []),
  (27, .iastore, [], []),
  (28, .dup, [], []),
  (29, .iconst 1, [1], []),
  (30, .iconst 1, [1], []),
  (31, .iastore, [], []),
  (32, .dup, [], []),
  (33, .iconst 2, [2], []),
  (34, .iconst 1, [1], []),
  (35, .iastore, [], []),
  (36, .dup, [], []),
  (37, .iconst 3, [3], []),
  (38, .iconst 1, [1], []),
  (39, .iastore, [], []),
  (40, .dup, [], []),
  (41, .iconst 4, [4], []),
  (42, .iconst 1, [1], []),
  (43, .iastore, [], []),
  (44, .dup, [], []),
  (45, .iconst 5, [5], []),
  (46, .iconst 1, [1], []),
  (47, .iastore, [], []),
  (48, .dup, [], []),
  (49, .bipush 6, [6], []),
  (51, .iconst 0, [0], []),
  (52, .iastore, [], []),
  (53, .putfield 21, [3, 1, 2, 6], [95]),
  (56, .aload_n 0, [], []),
  (57, .bipush 6, [6], []),
  (59, .newarray .int, [6], [130]),
  (61, .putfield 25, [4, 1, 2, 6], [98]),
  (64, .aload_n 0, [], []),
  (65, .bipush 6, [6], []),
  (67, .newarray .int, [6], [130]),
  (69, .putfield 28, [5, 1, 2, 6], [102]),
  (72, .aload_n 0, [], []),
  (73, .bipush 6, [6], []),
  (75, .newarray .int, [6], [130]),
  (77, .putfield 31, [6, 1, 2, 6], [104]),
  (80, .aload_n 0, [], []),
  (81, .bipush 6, [6], []),
  (83, .newarray .int, [6], [130]),
  (85, .putfield 34, [7, 1, 2, 6], [106]),
  (88, .aload_n 0, [], []),
  (89, .iconst 0, [0], []),
  (90, .putfield 37, [8, 0, 0, 6], [108]),
  (93, .return_, [3], [])]
def tb_X6_open : List (Nat × rI) := [
  (0, .aload_n 0, [], []),
  (1, .iload_n 1, [], []),
  (2, .putfield 9, [0, 0, 0, 6], [75]),
  (5, .aload_n 0, [], []),
  (6, .iload_n 2, [], []),
  (7, .putfield 15, [1, 0, 0, 6], [82]),
  (10, .aload_n 0, [], []),
  (11, .iconst 0, [0], []),
  (12, .putfield 37, [8, 0, 0, 6], [108]),
  (15, .iconst 1, [1], []),
  (16, .istore_n 3, [], []),
  (17, .iload_n 3, [], []),
  (18, .bipush 6, [6], []),
  (20, .if_icmp .gt 25, [45], []),
  (23, .aload_n 0, [], []),
  (24, .getfield 21, [3, 6], [95]),
  (27, .iload_n 3, [], []),
  (28, .iload_n 3, [], []),
  (29, .iload_n 2, [], []),
  (30, .if_icmp .gt 7, [37], []),
  (33, .iconst 1, [1], []),
  (34, .goto 4, [38], []),
  (37, .iconst 0, [0], []),
  (38, .iastore, [], []),
  (39, .iinc 3 1, [1], []),
  (42, .goto (-25), [17], []),
  (45, .iconst 0, [0], []),
  (46, .istore_n 3, [], []),
  (47, .iload_n 3, [], []),
  (48, .bipush 6, [6], []),
  (50, .if_icmp .ge 16, [66], []),
  (53, .aload_n 0, [], []),
  (54, .getfield 25, [4, 6], [98]),
  (57, .iload_n 3, [], []),
  (58, .iconst 0, [0], []),
  (59, .iastore, [], []),
  (60, .iinc 3 1, [1], []),
  (63, .goto (-16), [47], []),
  (66, .return_, [3], [])]
def tb_X6_copy : List (Nat × rI) := [
  (0, .aload_n 0, [], []),
  (1, .aload_n 1, [], []),
  (2, .getfield 9, [0, 6], [75]),
  (5, .putfield 9, [0, 0, 0, 6], [75]),
  (8, .aload_n 0, [], []),
  (9, .aload_n 1, [], []),
  (10, .getfield 15, [1, 6], [82]),
  (13, .putfield 15, [1, 0, 0, 6], [82]),
  (16, .aload_n 0, [], []),
  (17, .aload_n 1, [], []),
  (18, .getfield 18, [2, 6], [89]),
  (21, .putfield 18, [2, 0, 0, 6], [89]),
  (24, .aload_n 0, [], []),
  (25, .aload_n 1, [], []),
  (26, .getfield 37, [8, 6], [108]),
  (29, .putfield 37, [8, 0, 0, 6], [108]),
  (32, .aload_n 1, [], []),
  (33, .getfield 21, [3, 6], [95]),
  (36, .iconst 0, [0], []),
  (37, .aload_n 0, [], []),
  (38, .getfield 21, [3, 6], [95]),
  (41, .iconst 0, [0], []),
  (42, .bipush 7, [7], []),
  (44, .invokestatic 40, [2], [754, 579, 578, 59]),
  (47, .aload_n 1, [], []),
  (48, .getfield 25, [4, 6], [98]),
  (51, .iconst 0, [0], []),
  (52, .aload_n 0, [], []),
  (53, .getfield 25, [4, 6], [98]),
  (56, .iconst 0, [0], []),
  (57, .bipush 6, [6], []),
  (59, .invokestatic 40, [2], [754, 579, 578, 59]),
  (62, .aload_n 1, [], []),
  (63, .getfield 28, [5, 6], [102]),
  (66, .iconst 0, [0], []),
  (67, .aload_n 0, [], []),
  (68, .getfield 28, [5, 6], [102]),
  (71, .iconst 0, [0], []),
  (72, .bipush 6, [6], []),
  (74, .invokestatic 40, [2], [754, 579, 578, 59]),
  (77, .aload_n 1, [], []),
  (78, .getfield 31, [6, 6], [104]),
  (81, .iconst 0, [0], []),
  (82, .aload_n 0, [], []),
  (83, .getfield 31, [6, 6], [104]),
  (86, .iconst 0, [0], []),
  (87, .bipush 6, [6], []),
  (89, .invokestatic 40, [2], [754, 579, 578, 59]),
  (92, .aload_n 1, [], []),
  (93, .getfield 34, [7, 6], [106]),
  (96, .iconst 0, [0], []),
  (97, .aload_n 0, [], []),
  (98, .getfield 34, [7, 6], [106]),
  (101, .iconst 0, [0], []),
  (102, .bipush 6, [6], []),
  (104, .invokestatic 40, [2], [754, 579, 578, 59]),
  (107, .return_, [3], [])]
def tb_X6_addSight : List (Nat × rI) := [
  (0, .aload_n 0, [], []),
  (1, .getfield 37, [8, 6], [108]),
  (4, .bipush 6, [6], []),
  (6, .if_icmp .ge 43, [49], []),
  (9, .aload_n 0, [], []),
  (10, .getfield 28, [5, 6], [102]),
  (13, .aload_n 0, [], []),
  (14, .getfield 37, [8, 6], [108]),
  (17, .iload_n 1, [], []),
  (18, .iastore, [], []),
  (19, .aload_n 0, [], []),
  (20, .getfield 31, [6, 6], [104]),
  (23, .aload_n 0, [], []),
  (24, .getfield 37, [8, 6], [108]),
  (27, .iload_n 2, [], []),
  (28, .iastore, [], []),
  (29, .aload_n 0, [], []),
  (30, .getfield 34, [7, 6], [106]),
  (33, .aload_n 0, [], []),
  (34, .getfield 37, [8, 6], [108]),
  (37, .iload_n 3, [], []),
  (38, .iastore, [], []),
  (39, .aload_n 0, [], []),
  (40, .dup, [], []),
  (41, .getfield 37, [8, 6], [108]),
  (44, .iconst 1, [1], []),
  (45, .iadd, [], []),
  (46, .putfield 37, [8, 0, 0, 6], [108]),
  (49, .return_, [3], [])]
def tb_X6_hasMan : List (Nat × rI) := [
  (0, .iload_n 1, [], []),
  (1, .ifCond .lt 15, [16], []),
  (4, .iload_n 1, [], []),
  (5, .aload_n 0, [], []),
  (6, .getfield 9, [0, 6], [75]),
  (9, .if_icmp .ge 7, [16], []),
  (12, .iconst 1, [1], []),
  (13, .goto 4, [17], []),
  (16, .iconst 0, [0], []),
  (17, .ireturn, [1], [])]
def tb_X6_hasNumber : List (Nat × rI) := [
  (0, .iload_n 1, [], []),
  (1, .iconst 1, [1], []),
  (2, .if_icmp .lt 15, [17], []),
  (5, .iload_n 1, [], []),
  (6, .aload_n 0, [], []),
  (7, .getfield 15, [1, 6], [82]),
  (10, .if_icmp .gt 7, [17], []),
  (13, .iconst 1, [1], []),
  (14, .goto 4, [18], []),
  (17, .iconst 0, [0], []),
  (18, .ireturn, [1], [])]
def tb_X6_allWeights : List (Nat × rI) := [
  (0, .iconst 0, [0], []),
  (1, .istore_n 1, [], []),
  (2, .iconst 1, [1], []),
  (3, .istore_n 2, [], []),
  (4, .iload_n 2, [], []),
  (5, .aload_n 0, [], []),
  (6, .getfield 15, [1, 6], [82]),
  (9, .if_icmp .gt 18, [27], []),
  (12, .iload_n 1, [], []),
  (13, .aload_n 0, [], []),
  (14, .getfield 21, [3, 6], [95]),
  (17, .iload_n 2, [], []),
  (18, .iaload, [], []),
  (19, .iadd, [], []),
  (20, .istore_n 1, [], []),
  (21, .iinc 2 1, [1], []),
  (24, .goto (-20), [4], []),
  (27, .iload_n 1, [], []),
  (28, .ireturn, [0], [])]
def tb_X6_shares : List (Nat × rI) := [
  (0, .aload_n 0, [], []),
  (1, .getfield 18, [2, 6], [89]),
  (4, .invokestatic 46, [1, 88, 1, 0, 0], [508, 416, 48]),
  (7, .ireturn, [0], [])]
def tb_X7_init : List (Nat × rI) := [
  (0, .aload_n 0, [], []),
  (1, .invokespecial 3, [0], [156, 67, 68]),
  (4, .aload_n 0, [], []),
  (5, .bipush 7, [7], []),
  (7, .newarray .int, [7], [130]),
  (9, .putfield 9, [0, 1, 2, 4, 7], [157]),
  (12, .aload_n 0, [], []),
  (13, .bipush 7, [7], []),
  (15, .newarray .long, [7], [201]),
  (17, .putfield 15, [1, 1, 2, 4, 7], [163]),
  (20, .aload_n 0, [], []),
  (21, .iconst 0, [0], []),
  (22, .putfield 19, [2, 0, 0, 4, 7], [172]),
  (25, .aload_n 0, [], []),
  (26, .iconst 2, [2], []),
  (27, .putfield 23, [3, 0, 0, 4, 7], [177]),
  (30, .aload_n 0, [], []),
  (31, .iconst 0, [0], []),
  (32, .putfield 26, [4, 0, 0, 4, 7], [184]),
  (35, .return_, [3], [])]
def tb_X7_clear : List (Nat × rI) := [
  (0, .aload_n 0, [], []),
  (1, .iload_n 1, [], []),
  (2, .putfield 19, [2, 0, 0, 4, 7], [172]),
  (5, .aload_n 0, [], []),
  (6, .iload_n 2, [], []),
  (7, .putfield 23, [3, 0, 0, 4, 7], [177]),
  (10, .aload_n 0, [], []),
  (11, .iconst 0, [0], []),
  (12, .putfield 26, [4, 0, 0, 4, 7], [184]),
  (15, .iconst 0, [0], []),
  (16, .istore_n 3, [], []),
  (17, .iload_n 3, [], []),
  (18, .bipush 7, [7], []),
  (20, .if_icmp .ge 16, [36], []),
  (23, .aload_n 0, [], []),
  (24, .getfield 9, [0, 4, 7], [157]),
  (27, .iload_n 3, [], []),
  (28, .iconst 0, [0], []),
  (29, .iastore, [], []),
  (30, .iinc 3 1, [1], []),
  (33, .goto (-16), [17], []),
  (36, .return_, [3], [])]
def tb_X7_join : List (Nat × rI) := [
  (0, .iload_n 1, [], []),
  (1, .ifCond .ne 16, [17], []),
  (4, .aload_n 0, [], []),
  (5, .dup, [], []),
  (6, .getfield 26, [4, 4, 7], [184]),
  (9, .iconst 1, [1], []),
  (10, .iadd, [], []),
  (11, .putfield 26, [4, 0, 0, 4, 7], [184]),
  (14, .goto 26, [40], []),
  (17, .iload_n 1, [], []),
  (18, .iconst 1, [1], []),
  (19, .if_icmp .lt 21, [40], []),
  (22, .iload_n 1, [], []),
  (23, .aload_n 0, [], []),
  (24, .getfield 23, [3, 4, 7], [177]),
  (27, .if_icmp .gt 13, [40], []),
  (30, .aload_n 0, [], []),
  (31, .getfield 9, [0, 4, 7], [157]),
  (34, .iload_n 1, [], []),
  (35, .dup2, [], []),
  (36, .iaload, [], []),
  (37, .iconst 1, [1], []),
  (38, .iadd, [], []),
  (39, .iastore, [], []),
  (40, .return_, [3], [])]
def tb_X7_run : List (Nat × rI) := [
  (0, .iconst 0, [0], []),
  (1, .istore_n 2, [], []),
  (2, .iload_n 2, [], []),
  (3, .bipush 7, [7], []),
  (5, .if_icmp .ge 16, [21], []),
  (8, .aload_n 0, [], []),
  (9, .getfield 15, [1, 4, 7], [163]),
  (12, .iload_n 2, [], []),
  (13, .lconst 0, [0], []),
  (14, .lastore, [], []),
  (15, .iinc 2 1, [1], []),
  (18, .goto (-16), [2], []),
  (21, .aload_n 0, [], []),
  (22, .aload_n 1, [], []),
  (23, .iconst 1, [1], []),
  (24, .aload_n 0, [], []),
  (25, .getfield 26, [4, 4, 7], [184]),
  (28, .lconst 1, [1], []),
  (29, .invokestatic 29, [1, 92, 5, 0, 0], [478, 479, 48]),
  (32, .return_, [3], [])]
def tb_X8_init : List (Nat × rI) := [
  (0, .aload_n 0, [], []),
  (1, .invokespecial 3, [2, 38, 0, 2, 14], [207, 154, 51]),
  (4, .return_, [3], [])]
def tb_X8_meet : List (Nat × rI) := [
  (0, .aload_n 0, [], []),
  (1, .getfield 9, [2, 7], [175, 176]),
  (4, .aload_n 0, [], []),
  (5, .getfield 15, [0, 7], [158, 159]),
  (8, .aload_n 0, [], []),
  (9, .getfield 19, [3, 7], [178, 179]),
  (12, .invokestatic 22, [1, 90, 3, 0, 0], [496, 413, 48]),
  (15, .istore_n 3, [], []),
  (16, .iload_n 3, [], []),
  (17, .ifCond .lt 19, [36], []),
  (20, .iload_n 3, [], []),
  (21, .bipush 7, [7], []),
  (23, .if_icmp .ge 13, [36], []),
  (26, .aload_n 0, [], []),
  (27, .getfield 26, [1, 7], [164, 165]),
  (30, .iload_n 3, [], []),
  (31, .dup2, [], []),
  (32, .laload, [], []),
  (33, .lload_n 1, [], []),
  (34, .ladd, [], []),
  (35, .lastore, [], []),
  (36, .return_, [3], [])]
def tb_X9_init : List (Nat × rI) := [
  (0, .aload_n 0, [], []),
  (1, .invokespecial 3, [0], [66, 67, 68]),
  (4, .aload_n 0, [], []),
  (5, .new 9, [6], [69, 70, 49]),
  (8, .dup, [], []),
  (9, .invokespecial 11, [2, 30, 0, 5, 31], [71, 72, 49]),
  (12, .putfield 12, [0, 1, 2, 8], [324]),
  (15, .aload_n 0, [], []),
  (16, .iconst 2, [2], []),
  (17, .anewarray 9, [2], [69, 131]),
  (20, .dup, [], []),
  (21, .iconst 0, [0], []),
  (22, .new 9, [6], [69, 70, 49]),
  (25, .dup, [], []),
  (26, .invokespecial 11, [2, 30, 0, 5, 31], [71, 72, 49]),
  (29, .aastore, [], []),
  (30, .dup, [], []),
  (31, .iconst 1, [1], []),
  (32, .new 9, [6], [69, 70, 49]),
  (35, .dup, [], []),
  (36, .invokespecial 11, [2, 30, 0, 5, 31], [71, 72, 49]),
  (39, .aastore, [], []),
  (40, .putfield 16, [1, 1, 2, 8], [325]),
  (43, .aload_n 0, [], []),
  (44, .iconst 2, [2], []),
  (45, .newarray .boolean, [2], [147]),
  (47, .putfield 20, [2, 1, 2, 8], [326]),
  (50, .aload_n 0, [], []),
  (51, .bipush 48, [48], []),
  (53, .newarray .int, [48], [130]),
  (55, .putfield 24, [3, 1, 2, 8], [327]),
  (58, .aload_n 0, [], []),
  (59, .iconst 0, [0], []),
  (60, .putfield 28, [4, 0, 0, 8], [328]),
  (63, .aload_n 0, [], []),
  (64, .new 32, [2], [132, 133, 50]),
  (67, .dup, [], []),
  (68, .invokespecial 34, [2, 7, 0, 2, 13], [134, 135, 50]),
  (71, .putfield 35, [5, 1, 2, 8], [329]),
  (74, .aload_n 0, [], []),
  (75, .new 39, [4], [148, 149, 52]),
  (78, .dup, [], []),
  (79, .invokespecial 41, [2, 20, 0, 2, 14], [150, 151, 52]),
  (82, .putfield 42, [6, 1, 2, 8], [330]),
  (85, .aload_n 0, [], []),
  (86, .new 46, [7], [202, 203, 53]),
  (89, .dup, [], []),
  (90, .invokespecial 48, [2, 42, 0, 2, 14], [204, 205, 53]),
  (93, .putfield 49, [7, 1, 2, 8], [331]),
  (96, .aload_n 0, [], []),
  (97, .new 53, [1], [214, 215, 54]),
  (100, .dup, [], []),
  (101, .invokespecial 55, [2, 3, 0, 7, 107], [216, 217, 54]),
  (104, .putfield 56, [8, 1, 2, 8], [332]),
  (107, .aload_n 0, [], []),
  (108, .new 60, [5], [245, 246, 55]),
  (111, .dup, [], []),
  (112, .invokespecial 62, [2, 25, 0, 5, 31], [247, 248, 55]),
  (115, .putfield 63, [9, 1, 2, 8], [333]),
  (118, .aload_n 0, [], []),
  (119, .new 67, [0], [277, 278, 56]),
  (122, .dup, [], []),
  (123, .invokespecial 69, [2, 0, 0, 2, 931], [279, 280, 56]),
  (126, .putfield 70, [10, 1, 2, 8], [334]),
  (129, .aload_n 0, [], []),
  (130, .new 74, [3], [293, 294, 57]),
  (133, .dup, [], []),
  (134, .invokespecial 76, [2, 13, 0, 4, 25], [295, 296, 57]),
  (137, .putfield 77, [11, 1, 2, 8], [335]),
  (140, .return_, [3], [])]
def tb_X9_inn : List (Nat × rI) := [
  (0, .iload_n 1, [], []),
  (1, .invokestatic 81, [0, 75, 1, 0, 0], [365, 366, 48]),
  (4, .ifCond .eq 10, [14], []),
  (7, .iload_n 2, [], []),
  (8, .invokestatic 81, [0, 75, 1, 0, 0], [365, 366, 48]),
  (11, .ifCond .ne 6, [17], []),
  (14, .bipush (-2), [0, 2], []),
  (16, .ireturn, [0], []),
  (17, .aload_n 0, [], []),
  (18, .getfield 12, [0, 8], [324]),
  (21, .getfield 85, [0, 6], [78]),
  (24, .bipush 10, [10], []),
  (26, .imul, [], []),
  (27, .aload_n 0, [], []),
  (28, .getfield 12, [0, 8], [324]),
  (31, .getfield 88, [1, 6], [85]),
  (34, .iadd, [], []),
  (35, .istore_n 3, [], []),
  (36, .aload_n 0, [], []),
  (37, .getfield 12, [0, 8], [324]),
  (40, .iload_n 1, [], []),
  (41, .iload_n 2, [], []),
  (42, .invokevirtual 91, [0, 2, 6, 31], [368, 369, 370, 49]),
  (45, .iload_n 3, [], []),
  (46, .ireturn, [0], [])]
def tb_X9_rule : List (Nat × rI) := [
  (0, .iload_n 1, [], []),
  (1, .ifCond .lt 8, [9], []),
  (4, .iload_n 1, [], []),
  (5, .iconst 3, [3], []),
  (6, .if_icmp .le 6, [12], []),
  (9, .bipush (-2), [0, 2], []),
  (11, .ireturn, [0], []),
  (12, .aload_n 0, [], []),
  (13, .getfield 12, [0, 8], [324]),
  (16, .getfield 95, [2, 6], [93]),
  (19, .istore_n 2, [], []),
  (20, .aload_n 0, [], []),
  (21, .getfield 12, [0, 8], [324]),
  (24, .iload_n 1, [], []),
  (25, .putfield 95, [2, 0, 0, 6], [93]),
  (28, .iload_n 2, [], []),
  (29, .ireturn, [0], [])]
def tb_X9_say : List (Nat × rI) := [
  (0, .iload_n 1, [], []),
  (1, .bipush 33, [33], []),
  (3, .if_icmp .lt 9, [12], []),
  (6, .iload_n 1, [], []),
  (7, .bipush 126, [126], []),
  (9, .if_icmp .le 6, [15], []),
  (12, .bipush (-2), [0, 2], []),
  (14, .ireturn, [0], []),
  (15, .aload_n 0, [], []),
  (16, .getfield 28, [4, 8], [328]),
  (19, .bipush 48, [48], []),
  (21, .if_icmp .lt 6, [27], []),
  (24, .bipush (-4), [0, 4], []),
  (26, .ireturn, [0], []),
  (27, .aload_n 0, [], []),
  (28, .getfield 24, [3, 8], [327]),
  (31, .aload_n 0, [], []),
  (32, .getfield 28, [4, 8], [328]),
  (35, .iload_n 1, [], []),
  (36, .iastore, [], []),
  (37, .aload_n 0, [], []),
  (38, .dup, [], []),
  (39, .getfield 28, [4, 8], [328]),
  (42, .iconst 1, [1], []),
  (43, .iadd, [], []),
  (44, .putfield 28, [4, 0, 0, 8], [328]),
  (47, .aload_n 0, [], []),
  (48, .getfield 28, [4, 8], [328]),
  (51, .ireturn, [0], [])]
def tb_X9_wipe : List (Nat × rI) := [
  (0, .aload_n 0, [], []),
  (1, .getfield 28, [4, 8], [328]),
  (4, .istore_n 1, [], []),
  (5, .aload_n 0, [], []),
  (6, .iconst 0, [0], []),
  (7, .putfield 28, [4, 0, 0, 8], [328]),
  (10, .iload_n 1, [], []),
  (11, .ireturn, [0], [])]
def tb_X9_fault : List (Nat × rI) := [
  (0, .iconst 0, [0], []),
  (1, .istore_n 1, [], []),
  (2, .iload_n 1, [], []),
  (3, .aload_n 0, [], []),
  (4, .getfield 28, [4, 8], [328]),
  (7, .if_icmp .ge 41, [48], []),
  (10, .iload_n 1, [], []),
  (11, .bipush 48, [48], []),
  (13, .if_icmp .ge 35, [48], []),
  (16, .iload_n 1, [], []),
  (17, .aload_n 0, [], []),
  (18, .getfield 12, [0, 8], [324]),
  (21, .getfield 85, [0, 6], [78]),
  (24, .if_icmp .ge 16, [40], []),
  (27, .aload_n 0, [], []),
  (28, .aload_n 0, [], []),
  (29, .getfield 24, [3, 8], [327]),
  (32, .iload_n 1, [], []),
  (33, .iaload, [], []),
  (34, .invokevirtual 98, [0, 1, 8, 79], [388, 390, 0, 48]),
  (37, .ifCond .ne 5, [42], []),
  (40, .iload_n 1, [], []),
  (41, .ireturn, [0], []),
  (42, .iinc 1 1, [1], []),
  (45, .goto (-43), [2], []),
  (48, .aload_n 0, [], []),
  (49, .getfield 28, [4, 8], [328]),
  (52, .aload_n 0, [], []),
  (53, .getfield 12, [0, 8], [324]),
  (56, .getfield 85, [0, 6], [78]),
  (59, .if_icmp .ge 10, [69], []),
  (62, .aload_n 0, [], []),
  (63, .getfield 28, [4, 8], [328]),
  (66, .goto 5, [71], []),
  (69, .bipush (-6), [0, 6], []),
  (71, .ireturn, [0], [])]
def tb_X9_wins : List (Nat × rI) := [
  (0, .iload_n 1, [], []),
  (1, .invokestatic 101, [0, 76, 1, 0, 0], [396, 397, 48]),
  (4, .ifCond .ne 6, [10], []),
  (7, .bipush (-2), [0, 2], []),
  (9, .ireturn, [0], []),
  (10, .aload_n 0, [], []),
  (11, .invokevirtual 104, [0, 0, 8, 49], [399, 385, 386, 48]),
  (14, .bipush (-6), [0, 6], []),
  (16, .if_icmp .eq 6, [22], []),
  (19, .bipush (-5), [0, 5], []),
  (21, .ireturn, [0], []),
  (22, .aload_n 0, [], []),
  (23, .invokevirtual 108, [0, 0, 8, 80], [400, 402, 1, 48]),
  (26, .ifCond .eq 6, [32], []),
  (29, .bipush (-3), [0, 3], []),
  (31, .ireturn, [0], []),
  (32, .aload_n 0, [], []),
  (33, .getfield 35, [5, 8], [329]),
  (36, .invokevirtual 112, [0, 0, 2, 8], [404, 405, 406, 50]),
  (39, .iconst 0, [0], []),
  (40, .istore_n 2, [], []),
  (41, .iload_n 2, [], []),
  (42, .aload_n 0, [], []),
  (43, .getfield 12, [0, 8], [324]),
  (46, .getfield 85, [0, 6], [78]),
  (49, .if_icmp .ge 26, [75], []),
  (52, .aload_n 0, [], []),
  (53, .getfield 35, [5, 8], [329]),
  (56, .iload_n 2, [], []),
  (57, .aload_n 0, [], []),
  (58, .getfield 24, [3, 8], [327]),
  (61, .iload_n 2, [], []),
  (62, .iaload, [], []),
  (63, .bipush 48, [48], []),
  (65, .isub, [], []),
  (66, .invokevirtual 115, [0, 2, 2, 9], [408, 409, 410, 50]),
  (69, .iinc 2 1, [1], []),
  (72, .goto (-31), [41], []),
  (75, .aload_n 0, [], []),
  (76, .getfield 12, [0, 8], [324]),
  (79, .getfield 95, [2, 6], [93]),
  (82, .aload_n 0, [], []),
  (83, .getfield 35, [5, 8], [329]),
  (86, .getfield 118, [1, 2], [141]),
  (89, .aload_n 0, [], []),
  (90, .getfield 12, [0, 8], [324]),
  (93, .getfield 88, [1, 6], [85]),
  (96, .invokestatic 121, [0, 90, 3, 0, 0], [412, 413, 48]),
  (99, .istore_n 2, [], []),
  (100, .iload_n 2, [], []),
  (101, .ifCond .ne 6, [107], []),
  (104, .bipush (-6), [0, 6], []),
  (106, .ireturn, [0], []),
  (107, .iload_n 1, [], []),
  (108, .ifCond .ne 7, [115], []),
  (111, .iload_n 2, [], []),
  (112, .goto 11, [123], []),
  (115, .aload_n 0, [], []),
  (116, .getfield 35, [5, 8], [329]),
  (119, .iload_n 2, [], []),
  (120, .invokevirtual 125, [0, 1, 2, 12], [426, 427, 428, 50]),
  (123, .ireturn, [0], [])]
def tb_X9_weight : List (Nat × rI) := [
  (0, .aload_n 0, [], []),
  (1, .getfield 12, [0, 8], [324]),
  (4, .iload_n 1, [], []),
  (5, .invokevirtual 129, [0, 1, 6, 35], [434, 435, 436, 49]),
  (8, .ifCond .ne 5, [13], []),
  (11, .iconst (-1), [0, 1], []),
  (12, .ireturn, [0], []),
  (13, .iload_n 2, [], []),
  (14, .ifCond .lt 9, [23], []),
  (17, .iload_n 2, [], []),
  (18, .bipush 9, [9], []),
  (20, .if_icmp .le 6, [26], []),
  (23, .bipush (-2), [0, 2], []),
  (25, .ireturn, [0], []),
  (26, .aload_n 0, [], []),
  (27, .getfield 12, [0, 8], [324]),
  (30, .getfield 132, [3, 6], [97]),
  (33, .iload_n 1, [], []),
  (34, .iaload, [], []),
  (35, .istore_n 3, [], []),
  (36, .aload_n 0, [], []),
  (37, .getfield 12, [0, 8], [324]),
  (40, .invokevirtual 135, [0, 0, 6, 36], [438, 439, 440, 49]),
  (43, .iload_n 3, [], []),
  (44, .isub, [], []),
  (45, .iload_n 2, [], []),
  (46, .iadd, [], []),
  (47, .istore 4, [], []),
  (49, .iload 4, [], []),
  (51, .iconst 1, [1], []),
  (52, .if_icmp .lt 10, [62], []),
  (55, .iload 4, [], []),
  (57, .bipush 12, [12], []),
  (59, .if_icmp .le 6, [65], []),
  (62, .bipush (-2), [0, 2], []),
  (64, .ireturn, [0], []),
  (65, .aload_n 0, [], []),
  (66, .getfield 12, [0, 8], [324]),
  (69, .getfield 132, [3, 6], [97]),
  (72, .iload_n 1, [], []),
  (73, .iload_n 2, [], []),
  (74, .iastore, [], []),
  (75, .iload_n 3, [], []),
  (76, .ireturn, [0], [])]
def tb_X9_fool : List (Nat × rI) := [
  (0, .aload_n 0, [], []),
  (1, .getfield 12, [0, 8], [324]),
  (4, .iload_n 1, [], []),
  (5, .invokevirtual 138, [0, 1, 6, 34], [446, 447, 448, 49]),
  (8, .ifCond .eq 18, [26], []),
  (11, .iload_n 2, [], []),
  (12, .ifCond .eq 16, [28], []),
  (15, .aload_n 0, [], []),
  (16, .getfield 12, [0, 8], [324]),
  (19, .iload_n 2, [], []),
  (20, .invokevirtual 129, [0, 1, 6, 35], [434, 435, 436, 49]),
  (23, .ifCond .ne 5, [28], []),
  (26, .iconst (-1), [0, 1], []),
  (27, .ireturn, [0], []),
  (28, .aload_n 0, [], []),
  (29, .getfield 12, [0, 8], [324]),
  (32, .getfield 141, [4, 6], [101]),
  (35, .iload_n 1, [], []),
  (36, .iaload, [], []),
  (37, .istore_n 3, [], []),
  (38, .aload_n 0, [], []),
  (39, .getfield 12, [0, 8], [324]),
  (42, .getfield 141, [4, 6], [101]),
  (45, .iload_n 1, [], []),
  (46, .iload_n 2, [], []),
  (47, .iastore, [], []),
  (48, .iload_n 3, [], []),
  (49, .ireturn, [0], [])]
def tb_X9_worth : List (Nat × rI) := [
  (0, .aload_n 0, [], []),
  (1, .getfield 12, [0, 8], [324]),
  (4, .iload_n 1, [], []),
  (5, .invokevirtual 138, [0, 1, 6, 34], [446, 447, 448, 49]),
  (8, .ifCond .eq 14, [22], []),
  (11, .aload_n 0, [], []),
  (12, .getfield 12, [0, 8], [324]),
  (15, .iload_n 2, [], []),
  (16, .invokevirtual 129, [0, 1, 6, 35], [434, 435, 436, 49]),
  (19, .ifCond .ne 7, [26], []),
  (22, .ldc2_w 144, [0, 1000000000000000001], [454]),
  (25, .lreturn, [2], []),
  (26, .iload_n 3, [], []),
  (27, .invokestatic 101, [0, 76, 1, 0, 0], [396, 397, 48]),
  (30, .ifCond .ne 7, [37], []),
  (33, .ldc2_w 146, [0, 1000000000000000002], [455]),
  (36, .lreturn, [2], []),
  (37, .aload_n 0, [], []),
  (38, .iload_n 1, [], []),
  (39, .invokevirtual 148, [0, 1, 8, 82], [456, 458, 2, 48]),
  (42, .aload_n 0, [], []),
  (43, .getfield 42, [6, 8], [330]),
  (46, .getfield 152, [1, 4], [170, 167]),
  (49, .iload_n 2, [], []),
  (50, .laload, [], []),
  (51, .aload_n 0, [], []),
  (52, .aload_n 0, [], []),
  (53, .getfield 42, [6, 8], [330]),
  (56, .getfield 156, [4, 4], [187, 188]),
  (59, .invokevirtual 159, [0, 1, 8, 81], [500, 502, 3, 48]),
  (62, .iload_n 3, [], []),
  (63, .invokestatic 163, [0, 86, 3, 0, 0], [509, 510, 48]),
  (66, .lreturn, [2], [])]
def tb_X9_best : List (Nat × rI) := [
  (0, .aload_n 0, [], []),
  (1, .getfield 12, [0, 8], [324]),
  (4, .iload_n 1, [], []),
  (5, .invokevirtual 138, [0, 1, 6, 34], [446, 447, 448, 49]),
  (8, .ifCond .ne 5, [13], []),
  (11, .iconst (-1), [0, 1], []),
  (12, .ireturn, [0], []),
  (13, .aload_n 0, [], []),
  (14, .iload_n 1, [], []),
  (15, .invokevirtual 148, [0, 1, 8, 82], [456, 458, 2, 48]),
  (18, .aload_n 0, [], []),
  (19, .getfield 42, [6, 8], [330]),
  (22, .invokevirtual 167, [0, 0, 4, 22], [519, 520, 521, 52]),
  (25, .ireturn, [0], [])]
def tb_X9_mean : List (Nat × rI) := [
  (0, .aload_n 0, [], []),
  (1, .getfield 12, [0, 8], [324]),
  (4, .iload_n 1, [], []),
  (5, .invokevirtual 138, [0, 1, 6, 34], [446, 447, 448, 49]),
  (8, .ifCond .ne 7, [15], []),
  (11, .ldc2_w 144, [0, 1000000000000000001], [454]),
  (14, .lreturn, [2], []),
  (15, .iload_n 2, [], []),
  (16, .invokestatic 101, [0, 76, 1, 0, 0], [396, 397, 48]),
  (19, .ifCond .eq 10, [29], []),
  (22, .iload_n 3, [], []),
  (23, .invokestatic 101, [0, 76, 1, 0, 0], [396, 397, 48]),
  (26, .ifCond .ne 7, [33], []),
  (29, .ldc2_w 146, [0, 1000000000000000002], [455]),
  (32, .lreturn, [2], []),
  (33, .aload_n 0, [], []),
  (34, .iload_n 1, [], []),
  (35, .invokevirtual 148, [0, 1, 8, 82], [456, 458, 2, 48]),
  (38, .iload_n 2, [], []),
  (39, .ifCond .ne 20, [59], []),
  (42, .aload_n 0, [], []),
  (43, .getfield 42, [6, 8], [330]),
  (46, .aload_n 0, [], []),
  (47, .getfield 12, [0, 8], [324]),
  (50, .getfield 132, [3, 6], [97]),
  (53, .invokevirtual 170, [0, 1, 4, 23], [527, 528, 529, 52]),
  (56, .goto 24, [80], []),
  (59, .aload_n 0, [], []),
  (60, .getfield 42, [6, 8], [330]),
  (63, .aload_n 0, [], []),
  (64, .getfield 12, [0, 8], [324]),
  (67, .getfield 132, [3, 6], [97]),
  (70, .aload_n 0, [], []),
  (71, .getfield 12, [0, 8], [324]),
  (74, .invokevirtual 135, [0, 0, 6, 36], [438, 439, 440, 49]),
  (77, .invokevirtual 174, [0, 2, 4, 24], [531, 532, 533, 52]),
  (80, .lstore 4, [], []),
  (82, .lload 4, [], []),
  (84, .aload_n 0, [], []),
  (85, .aload_n 0, [], []),
  (86, .getfield 42, [6, 8], [330]),
  (89, .getfield 156, [4, 4], [187, 188]),
  (92, .iconst 1, [1], []),
  (93, .iadd, [], []),
  (94, .invokevirtual 159, [0, 1, 8, 81], [500, 502, 3, 48]),
  (97, .iload_n 3, [], []),
  (98, .invokestatic 163, [0, 86, 3, 0, 0], [509, 510, 48]),
  (101, .lreturn, [2], [])]
def tb_X9_nobody : List (Nat × rI) := [
  (0, .iload_n 1, [], []),
  (1, .invokestatic 101, [0, 76, 1, 0, 0], [396, 397, 48]),
  (4, .ifCond .ne 7, [11], []),
  (7, .ldc2_w 146, [0, 1000000000000000002], [455]),
  (10, .lreturn, [2], []),
  (11, .aload_n 0, [], []),
  (12, .invokevirtual 178, [0, 0, 8, 84], [541, 543, 4, 48]),
  (15, .aload_n 0, [], []),
  (16, .getfield 49, [7, 8], [331]),
  (19, .getfield 181, [1, 7], [171, 165]),
  (22, .iconst 0, [0], []),
  (23, .laload, [], []),
  (24, .aload_n 0, [], []),
  (25, .getfield 12, [0, 8], [324]),
  (28, .invokevirtual 135, [0, 0, 6, 36], [438, 439, 440, 49]),
  (31, .i2l, [], []),
  (32, .aload_n 0, [], []),
  (33, .getfield 49, [7, 8], [331]),
  (36, .getfield 182, [4, 7], [189, 186]),
  (39, .invokestatic 183, [0, 85, 2, 0, 0], [481, 482, 48]),
  (42, .iload_n 1, [], []),
  (43, .invokestatic 163, [0, 86, 3, 0, 0], [509, 510, 48]),
  (46, .lreturn, [2], [])]
def tb_X9_rest : List (Nat × rI) := [
  (0, .aload_n 0, [], []),
  (1, .getfield 12, [0, 8], [324]),
  (4, .iload_n 2, [], []),
  (5, .invokevirtual 129, [0, 1, 6, 35], [434, 435, 436, 49]),
  (8, .ifCond .ne 5, [13], []),
  (11, .iconst (-1), [0, 1], []),
  (12, .ireturn, [0], []),
  (13, .iload_n 1, [], []),
  (14, .invokestatic 187, [0, 77, 1, 0, 0], [558, 559, 48]),
  (17, .ifCond .ne 6, [23], []),
  (20, .bipush (-2), [0, 2], []),
  (22, .ireturn, [0], []),
  (23, .aload_n 0, [], []),
  (24, .getfield 56, [8, 8], [332]),
  (27, .aload_n 0, [], []),
  (28, .getfield 12, [0, 8], [324]),
  (31, .iload_n 1, [], []),
  (32, .invokevirtual 190, [0, 2, 1, 4], [561, 562, 563, 54]),
  (35, .aload_n 0, [], []),
  (36, .getfield 56, [8, 8], [332]),
  (39, .iload_n 1, [], []),
  (40, .iload_n 2, [], []),
  (41, .invokevirtual 194, [0, 2, 1, 5], [581, 582, 583, 54]),
  (44, .ireturn, [0], [])]
def tb_X9_gap : List (Nat × rI) := [
  (0, .iload_n 1, [], []),
  (1, .invokestatic 187, [0, 77, 1, 0, 0], [558, 559, 48]),
  (4, .ifCond .eq 10, [14], []),
  (7, .iload_n 2, [], []),
  (8, .invokestatic 101, [0, 76, 1, 0, 0], [396, 397, 48]),
  (11, .ifCond .ne 7, [18], []),
  (14, .ldc2_w 146, [0, 1000000000000000002], [455]),
  (17, .lreturn, [2], []),
  (18, .aload_n 0, [], []),
  (19, .getfield 56, [8, 8], [332]),
  (22, .aload_n 0, [], []),
  (23, .getfield 12, [0, 8], [324]),
  (26, .iload_n 1, [], []),
  (27, .invokevirtual 190, [0, 2, 1, 4], [561, 562, 563, 54]),
  (30, .aload_n 0, [], []),
  (31, .getfield 56, [8, 8], [332]),
  (34, .getfield 198, [3, 1], [227]),
  (37, .iload_n 1, [], []),
  (38, .laload, [], []),
  (39, .iload_n 1, [], []),
  (40, .i2l, [], []),
  (41, .aload_n 0, [], []),
  (42, .getfield 12, [0, 8], [324]),
  (45, .getfield 85, [0, 6], [78]),
  (48, .invokestatic 183, [0, 85, 2, 0, 0], [481, 482, 48]),
  (51, .aload_n 0, [], []),
  (52, .getfield 12, [0, 8], [324]),
  (55, .invokevirtual 201, [0, 0, 6, 37], [504, 505, 506, 49]),
  (58, .i2l, [], []),
  (59, .lmul, [], []),
  (60, .iload_n 2, [], []),
  (61, .invokestatic 163, [0, 86, 3, 0, 0], [509, 510, 48]),
  (64, .lreturn, [2], [])]
def tb_X9_friends : List (Nat × rI) := [
  (0, .aload_n 0, [], []),
  (1, .getfield 12, [0, 8], [324]),
  (4, .iload_n 2, [], []),
  (5, .invokevirtual 138, [0, 1, 6, 34], [446, 447, 448, 49]),
  (8, .ifCond .ne 5, [13], []),
  (11, .iconst (-1), [0, 1], []),
  (12, .ireturn, [0], []),
  (13, .aload_n 0, [], []),
  (14, .iload_n 1, [], []),
  (15, .invokevirtual 204, [0, 1, 8, 78], [593, 595, 6, 48]),
  (18, .ifCond .ne 6, [24], []),
  (21, .bipush (-2), [0, 2], []),
  (23, .ireturn, [0], []),
  (24, .iload_n 1, [], []),
  (25, .iload_n 2, [], []),
  (26, .ishr, [], []),
  (27, .iconst 1, [1], []),
  (28, .iand, [], []),
  (29, .ifCond .ne 5, [34], []),
  (32, .iconst (-1), [0, 1], []),
  (33, .ireturn, [0], []),
  (34, .aload_n 0, [], []),
  (35, .getfield 63, [9, 8], [333]),
  (38, .aload_n 0, [], []),
  (39, .getfield 12, [0, 8], [324]),
  (42, .iload_n 1, [], []),
  (43, .invokevirtual 207, [0, 2, 5, 26], [597, 598, 599, 55]),
  (46, .aload_n 0, [], []),
  (47, .getfield 63, [9, 8], [333]),
  (50, .iload_n 2, [], []),
  (51, .invokevirtual 208, [0, 1, 5, 27], [622, 623, 624, 55]),
  (54, .ireturn, [0], [])]
def tb_X9_league : List (Nat × rI) := [
  (0, .aload_n 0, [], []),
  (1, .iload_n 1, [], []),
  (2, .invokevirtual 204, [0, 1, 8, 78], [593, 595, 6, 48]),
  (5, .ifCond .eq 10, [15], []),
  (8, .iload_n 2, [], []),
  (9, .invokestatic 101, [0, 76, 1, 0, 0], [396, 397, 48]),
  (12, .ifCond .ne 7, [19], []),
  (15, .ldc2_w 146, [0, 1000000000000000002], [455]),
  (18, .lreturn, [2], []),
  (19, .aload_n 0, [], []),
  (20, .getfield 63, [9, 8], [333]),
  (23, .aload_n 0, [], []),
  (24, .getfield 12, [0, 8], [324]),
  (27, .iload_n 1, [], []),
  (28, .invokevirtual 207, [0, 2, 5, 26], [597, 598, 599, 55]),
  (31, .aload_n 0, [], []),
  (32, .getfield 63, [9, 8], [333]),
  (35, .getfield 211, [3, 5], [260]),
  (38, .aload_n 0, [], []),
  (39, .aload_n 0, [], []),
  (40, .getfield 63, [9, 8], [333]),
  (43, .getfield 215, [0, 5], [255]),
  (46, .getfield 182, [4, 7], [189, 186]),
  (49, .invokevirtual 159, [0, 1, 8, 81], [500, 502, 3, 48]),
  (52, .iload_n 2, [], []),
  (53, .invokestatic 163, [0, 86, 3, 0, 0], [509, 510, 48]),
  (56, .lreturn, [2], [])]
def tb_X9_spy : List (Nat × rI) := [
  (0, .aload_n 0, [], []),
  (1, .getfield 12, [0, 8], [324]),
  (4, .iload_n 1, [], []),
  (5, .invokevirtual 138, [0, 1, 6, 34], [446, 447, 448, 49]),
  (8, .ifCond .ne 5, [13], []),
  (11, .iconst (-1), [0, 1], []),
  (12, .ireturn, [0], []),
  (13, .aload_n 0, [], []),
  (14, .invokevirtual 104, [0, 0, 8, 49], [399, 385, 386, 48]),
  (17, .bipush (-6), [0, 6], []),
  (19, .if_icmp .eq 6, [25], []),
  (22, .bipush (-5), [0, 5], []),
  (24, .ireturn, [0], []),
  (25, .aload_n 0, [], []),
  (26, .iload_n 1, [], []),
  (27, .invokevirtual 216, [0, 1, 8, 83], [634, 636, 9, 48]),
  (30, .aload_n 0, [], []),
  (31, .getfield 42, [6, 8], [330]),
  (34, .invokevirtual 167, [0, 0, 4, 22], [519, 520, 521, 52]),
  (37, .ireturn, [0], [])]
def tb_X9_spied : List (Nat × rI) := [
  (0, .aload_n 0, [], []),
  (1, .getfield 12, [0, 8], [324]),
  (4, .iload_n 1, [], []),
  (5, .invokevirtual 138, [0, 1, 6, 34], [446, 447, 448, 49]),
  (8, .ifCond .ne 7, [15], []),
  (11, .ldc2_w 144, [0, 1000000000000000001], [454]),
  (14, .lreturn, [2], []),
  (15, .iload_n 2, [], []),
  (16, .invokestatic 101, [0, 76, 1, 0, 0], [396, 397, 48]),
  (19, .ifCond .ne 7, [26], []),
  (22, .ldc2_w 146, [0, 1000000000000000002], [455]),
  (25, .lreturn, [2], []),
  (26, .aload_n 0, [], []),
  (27, .invokevirtual 104, [0, 0, 8, 49], [399, 385, 386, 48]),
  (30, .bipush (-6), [0, 6], []),
  (32, .if_icmp .eq 7, [39], []),
  (35, .ldc2_w 219, [0, 1000000000000000005], [642]),
  (38, .lreturn, [2], []),
  (39, .aload_n 0, [], []),
  (40, .iload_n 1, [], []),
  (41, .invokevirtual 216, [0, 1, 8, 83], [634, 636, 9, 48]),
  (44, .aload_n 0, [], []),
  (45, .getfield 42, [6, 8], [330]),
  (48, .getfield 152, [1, 4], [170, 167]),
  (51, .aload_n 0, [], []),
  (52, .getfield 42, [6, 8], [330]),
  (55, .invokevirtual 167, [0, 0, 4, 22], [519, 520, 521, 52]),
  (58, .laload, [], []),
  (59, .aload_n 0, [], []),
  (60, .aload_n 0, [], []),
  (61, .getfield 42, [6, 8], [330]),
  (64, .getfield 156, [4, 4], [187, 188]),
  (67, .invokevirtual 159, [0, 1, 8, 81], [500, 502, 3, 48]),
  (70, .iload_n 2, [], []),
  (71, .invokestatic 163, [0, 86, 3, 0, 0], [509, 510, 48]),
  (74, .lreturn, [2], [])]
def tb_X9_steps : List (Nat × rI) := [
  (0, .iload_n 1, [], []),
  (1, .iconst 1, [1], []),
  (2, .if_icmp .lt 9, [11], []),
  (5, .iload_n 1, [], []),
  (6, .bipush 20, [20], []),
  (8, .if_icmp .le 6, [14], []),
  (11, .bipush (-2), [0, 2], []),
  (13, .ireturn, [0], []),
  (14, .iconst 0, [0], []),
  (15, .istore_n 2, [], []),
  (16, .iconst 1, [1], []),
  (17, .istore_n 3, [], []),
  (18, .iload_n 3, [], []),
  (19, .iload_n 1, [], []),
  (20, .if_icmp .gt 81, [101], []),
  (23, .aload_n 0, [], []),
  (24, .getfield 42, [6, 8], [330]),
  (27, .aload_n 0, [], []),
  (28, .getfield 12, [0, 8], [324]),
  (31, .getfield 95, [2, 6], [93]),
  (34, .aload_n 0, [], []),
  (35, .getfield 12, [0, 8], [324]),
  (38, .getfield 88, [1, 6], [85]),
  (41, .invokevirtual 221, [2, 2, 4, 39], [460, 461, 462, 463, 464, 51]),
  (44, .iconst 1, [1], []),
  (45, .istore 4, [], []),
  (47, .iload 4, [], []),
  (49, .aload_n 0, [], []),
  (50, .getfield 12, [0, 8], [324]),
  (53, .getfield 85, [0, 6], [78]),
  (56, .if_icmp .ge 17, [73], []),
  (59, .aload_n 0, [], []),
  (60, .getfield 42, [6, 8], [330]),
  (63, .iload_n 2, [], []),
  (64, .invokevirtual 223, [2, 1, 4, 40], [466, 467, 468, 469, 470, 51]),
  (67, .iinc 4 1, [1], []),
  (70, .goto (-23), [47], []),
  (73, .aload_n 0, [], []),
  (74, .getfield 42, [6, 8], [330]),
  (77, .aload_n 0, [], []),
  (78, .getfield 12, [0, 8], [324]),
  (81, .getfield 132, [3, 6], [97]),
  (84, .invokevirtual 226, [2, 1, 4, 41], [472, 473, 474, 475, 476, 51]),
  (87, .aload_n 0, [], []),
  (88, .getfield 42, [6, 8], [330]),
  (91, .invokevirtual 167, [0, 0, 4, 22], [519, 520, 521, 52]),
  (94, .istore_n 2, [], []),
  (95, .iinc 3 1, [1], []),
  (98, .goto (-80), [18], []),
  (101, .iload_n 2, [], []),
  (102, .ireturn, [0], [])]
def tb_X9_late : List (Nat × rI) := [
  (0, .aload_n 0, [], []),
  (1, .getfield 12, [0, 8], [324]),
  (4, .iload_n 1, [], []),
  (5, .invokevirtual 138, [0, 1, 6, 34], [446, 447, 448, 49]),
  (8, .ifCond .ne 5, [13], []),
  (11, .iconst (-1), [0, 1], []),
  (12, .ireturn, [0], []),
  (13, .iload_n 2, [], []),
  (14, .invokestatic 101, [0, 76, 1, 0, 0], [396, 397, 48]),
  (17, .ifCond .ne 6, [23], []),
  (20, .bipush (-2), [0, 2], []),
  (22, .ireturn, [0], []),
  (23, .aload_n 0, [], []),
  (24, .getfield 70, [10, 8], [334]),
  (27, .aload_n 0, [], []),
  (28, .getfield 12, [0, 8], [324]),
  (31, .aload_n 0, [], []),
  (32, .getfield 35, [5, 8], [329]),
  (35, .invokevirtual 230, [0, 2, 0, 1], [651, 652, 653, 56]),
  (38, .istore_n 3, [], []),
  (39, .iload_n 2, [], []),
  (40, .ifCond .ne 13, [53], []),
  (43, .aload_n 0, [], []),
  (44, .getfield 35, [5, 8], [329]),
  (47, .getfield 234, [0, 2], [139]),
  (50, .iload_n 1, [], []),
  (51, .iaload, [], []),
  (52, .ireturn, [0], []),
  (53, .iload_n 3, [], []),
  (54, .ifCond .ne 8, [62], []),
  (57, .bipush (-6), [0, 6], []),
  (59, .goto 11, [70], []),
  (62, .aload_n 0, [], []),
  (63, .getfield 35, [5, 8], [329]),
  (66, .iload_n 3, [], []),
  (67, .invokevirtual 125, [0, 1, 2, 12], [426, 427, 428, 50]),
  (70, .ireturn, [0], [])]
def tb_X9_prize : List (Nat × rI) := [
  (0, .iload_n 1, [], []),
  (1, .iconst 1, [1], []),
  (2, .if_icmp .lt 27, [29], []),
  (5, .iload_n 1, [], []),
  (6, .sipush 999, [999], []),
  (9, .if_icmp .gt 20, [29], []),
  (12, .iload_n 2, [], []),
  (13, .ifCond .lt 16, [29], []),
  (16, .iload_n 2, [], []),
  (17, .bipush 100, [100], []),
  (19, .if_icmp .ge 10, [29], []),
  (22, .iload_n 3, [], []),
  (23, .invokestatic 101, [0, 76, 1, 0, 0], [396, 397, 48]),
  (26, .ifCond .ne 7, [33], []),
  (29, .ldc2_w 146, [0, 1000000000000000002], [455]),
  (32, .lreturn, [2], []),
  (33, .aload_n 0, [], []),
  (34, .invokevirtual 178, [0, 0, 8, 84], [541, 543, 4, 48]),
  (37, .aload_n 0, [], []),
  (38, .getfield 12, [0, 8], [324]),
  (41, .invokevirtual 135, [0, 0, 6, 36], [438, 439, 440, 49]),
  (44, .i2l, [], []),
  (45, .aload_n 0, [], []),
  (46, .getfield 49, [7, 8], [331]),
  (49, .getfield 182, [4, 7], [189, 186]),
  (52, .invokestatic 183, [0, 85, 2, 0, 0], [481, 482, 48]),
  (55, .lstore 4, [], []),
  (57, .lload 4, [], []),
  (59, .aload_n 0, [], []),
  (60, .getfield 49, [7, 8], [331]),
  (63, .getfield 181, [1, 7], [171, 165]),
  (66, .iconst 0, [0], []),
  (67, .laload, [], []),
  (68, .lsub, [], []),
  (69, .lstore 6, [], []),
  (71, .lload 6, [], []),
  (73, .lconst 0, [0], []),
  (74, .lcmp, [], []),
  (75, .ifCond .gt 7, [82], []),
  (78, .ldc2_w 237, [0, 1000000000000000003], [678]),
  (81, .lreturn, [2], []),
  (82, .iload_n 2, [], []),
  (83, .ifCond .ne 15, [98], []),
  (86, .iload_n 1, [], []),
  (87, .i2l, [], []),
  (88, .lload 4, [], []),
  (90, .lmul, [], []),
  (91, .lload 6, [], []),
  (93, .iload_n 3, [], []),
  (94, .invokestatic 163, [0, 86, 3, 0, 0], [509, 510, 48]),
  (97, .lreturn, [2], []),
  (98, .iload_n 2, [], []),
  (99, .iload_n 1, [], []),
  (100, .imul, [], []),
  (101, .i2l, [], []),
  (102, .lload 4, [], []),
  (104, .lmul, [], []),
  (105, .lload 6, [], []),
  (107, .ldc2_w 239, [100], [679]),
  (110, .lmul, [], []),
  (111, .iload_n 3, [], []),
  (112, .invokestatic 163, [0, 86, 3, 0, 0], [509, 510, 48]),
  (115, .lreturn, [2], [])]
def tb_X9_seen : List (Nat × rI) := [
  (0, .iload_n 1, [], []),
  (1, .iconst 2, [2], []),
  (2, .if_icmp .eq 27, [29], []),
  (5, .aload_n 0, [], []),
  (6, .getfield 12, [0, 8], [324]),
  (9, .iload_n 2, [], []),
  (10, .invokevirtual 138, [0, 1, 6, 34], [446, 447, 448, 49]),
  (13, .ifCond .eq 14, [27], []),
  (16, .aload_n 0, [], []),
  (17, .getfield 12, [0, 8], [324]),
  (20, .iload_n 3, [], []),
  (21, .invokevirtual 129, [0, 1, 6, 35], [434, 435, 436, 49]),
  (24, .ifCond .ne 5, [29], []),
  (27, .iconst (-1), [0, 1], []),
  (28, .ireturn, [0], []),
  (29, .iload_n 1, [], []),
  (30, .ifCond .lt 8, [38], []),
  (33, .iload_n 1, [], []),
  (34, .iconst 2, [2], []),
  (35, .if_icmp .le 6, [41], []),
  (38, .bipush (-2), [0, 2], []),
  (40, .ireturn, [0], []),
  (41, .aload_n 0, [], []),
  (42, .getfield 12, [0, 8], [324]),
  (45, .getfield 241, [8, 6], [110]),
  (48, .bipush 6, [6], []),
  (50, .if_icmp .lt 6, [56], []),
  (53, .bipush (-4), [0, 4], []),
  (55, .ireturn, [0], []),
  (56, .aload_n 0, [], []),
  (57, .getfield 12, [0, 8], [324]),
  (60, .iload_n 1, [], []),
  (61, .iload_n 2, [], []),
  (62, .iload_n 3, [], []),
  (63, .invokevirtual 244, [0, 3, 6, 33], [684, 685, 686, 49]),
  (66, .aload_n 0, [], []),
  (67, .getfield 12, [0, 8], [324]),
  (70, .getfield 241, [8, 6], [110]),
  (73, .ireturn, [0], [])]
def tb_X9_forget : List (Nat × rI) := [
  (0, .aload_n 0, [], []),
  (1, .getfield 12, [0, 8], [324]),
  (4, .getfield 241, [8, 6], [110]),
  (7, .istore_n 1, [], []),
  (8, .aload_n 0, [], []),
  (9, .getfield 12, [0, 8], [324]),
  (12, .iconst 0, [0], []),
  (13, .putfield 241, [8, 0, 0, 6], [110]),
  (16, .iload_n 1, [], []),
  (17, .ireturn, [0], [])]
def tb_X9_fits : List (Nat × rI) := [
  (0, .aload_n 0, [], []),
  (1, .getfield 77, [11, 8], [335]),
  (4, .aload_n 0, [], []),
  (5, .getfield 12, [0, 8], [324]),
  (8, .invokevirtual 248, [0, 1, 3, 14], [696, 697, 698, 57]),
  (11, .iload_n 1, [], []),
  (12, .iconst (-1), [0, 1], []),
  (13, .if_icmp .ne 11, [24], []),
  (16, .aload_n 0, [], []),
  (17, .getfield 77, [11, 8], [335]),
  (20, .invokevirtual 252, [0, 0, 3, 17], [708, 709, 710, 57]),
  (23, .ireturn, [0], []),
  (24, .aload_n 0, [], []),
  (25, .getfield 12, [0, 8], [324]),
  (28, .iload_n 1, [], []),
  (29, .invokevirtual 138, [0, 1, 6, 34], [446, 447, 448, 49]),
  (32, .ifCond .eq 13, [45], []),
  (35, .aload_n 0, [], []),
  (36, .getfield 77, [11, 8], [335]),
  (39, .invokevirtual 252, [0, 0, 3, 17], [708, 709, 710, 57]),
  (42, .ifCond .ne 6, [48], []),
  (45, .bipush (-6), [0, 6], []),
  (47, .ireturn, [0], []),
  (48, .aload_n 0, [], []),
  (49, .getfield 77, [11, 8], [335]),
  (52, .invokevirtual 255, [0, 0, 3, 18], [718, 719, 720, 57]),
  (55, .aload_n 0, [], []),
  (56, .getfield 77, [11, 8], [335]),
  (59, .getfield 258, [1, 3], [303]),
  (62, .iload_n 1, [], []),
  (63, .iaload, [], []),
  (64, .ireturn, [0], [])]
def tb_X9_could : List (Nat × rI) := [
  (0, .aload_n 0, [], []),
  (1, .getfield 12, [0, 8], [324]),
  (4, .iload_n 1, [], []),
  (5, .invokevirtual 138, [0, 1, 6, 34], [446, 447, 448, 49]),
  (8, .ifCond .ne 5, [13], []),
  (11, .iconst (-1), [0, 1], []),
  (12, .ireturn, [0], []),
  (13, .aload_n 0, [], []),
  (14, .getfield 77, [11, 8], [335]),
  (17, .aload_n 0, [], []),
  (18, .getfield 12, [0, 8], [324]),
  (21, .invokevirtual 248, [0, 1, 3, 14], [696, 697, 698, 57]),
  (24, .aload_n 0, [], []),
  (25, .getfield 77, [11, 8], [335]),
  (28, .iload_n 1, [], []),
  (29, .invokevirtual 261, [0, 1, 3, 19], [727, 728, 729, 57]),
  (32, .ireturn, [0], [])]
def tb_X9_year : List (Nat × rI) := [
  (0, .iload_n 3, [], []),
  (1, .iconst (-1), [0, 1], []),
  (2, .if_icmp .eq 16, [18], []),
  (5, .aload_n 0, [], []),
  (6, .getfield 12, [0, 8], [324]),
  (9, .iload_n 3, [], []),
  (10, .invokevirtual 138, [0, 1, 6, 34], [446, 447, 448, 49]),
  (13, .ifCond .ne 5, [18], []),
  (16, .iconst (-1), [0, 1], []),
  (17, .ireturn, [0], []),
  (18, .iload_n 1, [], []),
  (19, .ifCond .lt 21, [40], []),
  (22, .iload_n 1, [], []),
  (23, .sipush 9999, [9999], []),
  (26, .if_icmp .gt 14, [40], []),
  (29, .iload_n 2, [], []),
  (30, .iconst 1, [1], []),
  (31, .if_icmp .lt 9, [40], []),
  (34, .iload_n 2, [], []),
  (35, .bipush 99, [99], []),
  (37, .if_icmp .le 6, [43], []),
  (40, .bipush (-2), [0, 2], []),
  (42, .ireturn, [0], []),
  (43, .iload_n 1, [], []),
  (44, .istore 4, [], []),
  (46, .iconst 0, [0], []),
  (47, .istore 5, [], []),
  (49, .iconst 0, [0], []),
  (50, .istore 6, [], []),
  (52, .iload 6, [], []),
  (54, .iload_n 2, [], []),
  (55, .if_icmp .ge 85, [140], []),
  (58, .aload_n 0, [], []),
  (59, .getfield 35, [5, 8], [329]),
  (62, .aload_n 0, [], []),
  (63, .getfield 12, [0, 8], [324]),
  (66, .iload 4, [], []),
  (68, .invokevirtual 264, [0, 2, 2, 10], [735, 736, 737, 50]),
  (71, .istore 4, [], []),
  (73, .aload_n 0, [], []),
  (74, .getfield 12, [0, 8], [324]),
  (77, .getfield 95, [2, 6], [93]),
  (80, .aload_n 0, [], []),
  (81, .getfield 35, [5, 8], [329]),
  (84, .getfield 118, [1, 2], [141]),
  (87, .aload_n 0, [], []),
  (88, .getfield 12, [0, 8], [324]),
  (91, .getfield 88, [1, 6], [85]),
  (94, .invokestatic 121, [0, 90, 3, 0, 0], [412, 413, 48]),
  (97, .istore 7, [], []),
  (99, .iload_n 3, [], []),
  (100, .iconst (-1), [0, 1], []),
  (101, .if_icmp .ne 11, [112], []),
  (104, .iload 7, [], []),
  (106, .ifCond .ne 28, [134], []),
  (109, .goto 22, [131], []),
  (112, .iload 7, [], []),
  (114, .ifCond .eq 20, [134], []),
  (117, .aload_n 0, [], []),
  (118, .getfield 35, [5, 8], [329]),
  (121, .getfield 234, [0, 2], [139]),
  (124, .iload_n 3, [], []),
  (125, .iaload, [], []),
  (126, .iload 7, [], []),
  (128, .if_icmp .ne 6, [134], []),
  (131, .iinc 5 1, [1], []),
  (134, .iinc 6 1, [1], []),
  (137, .goto (-85), [52], []),
  (140, .iload 5, [], []),
  (142, .ireturn, [0], [])]
def tb_X9_image : List (Nat × rI) := [
  (0, .iload_n 1, [], []),
  (1, .invokestatic 101, [0, 76, 1, 0, 0], [396, 397, 48]),
  (4, .ifCond .ne 6, [10], []),
  (7, .bipush (-2), [0, 2], []),
  (9, .ireturn, [0], []),
  (10, .aload_n 0, [], []),
  (11, .getfield 16, [1, 8], [325]),
  (14, .iload_n 1, [], []),
  (15, .aaload, [], []),
  (16, .aload_n 0, [], []),
  (17, .getfield 12, [0, 8], [324]),
  (20, .invokevirtual 268, [0, 1, 6, 32], [750, 751, 752, 49]),
  (23, .aload_n 0, [], []),
  (24, .getfield 20, [2, 8], [326]),
  (27, .iload_n 1, [], []),
  (28, .iconst 1, [1], []),
  (29, .bastore, [], []),
  (30, .iconst 1, [1], []),
  (31, .ireturn, [0], [])]
def tb_X9_restore : List (Nat × rI) := [
  (0, .iload_n 1, [], []),
  (1, .invokestatic 101, [0, 76, 1, 0, 0], [396, 397, 48]),
  (4, .ifCond .ne 6, [10], []),
  (7, .bipush (-2), [0, 2], []),
  (9, .ireturn, [0], []),
  (10, .aload_n 0, [], []),
  (11, .getfield 20, [2, 8], [326]),
  (14, .iload_n 1, [], []),
  (15, .baload, [], []),
  (16, .ifCond .ne 6, [22], []),
  (19, .bipush (-3), [0, 3], []),
  (21, .ireturn, [0], []),
  (22, .aload_n 0, [], []),
  (23, .getfield 12, [0, 8], [324]),
  (26, .aload_n 0, [], []),
  (27, .getfield 16, [1, 8], [325]),
  (30, .iload_n 1, [], []),
  (31, .aaload, [], []),
  (32, .invokevirtual 268, [0, 1, 6, 32], [750, 751, 752, 49]),
  (35, .iconst 1, [1], []),
  (36, .ireturn, [0], [])]
def tb_X9_told : List (Nat × rI) := [
  (0, .iload_n 1, [], []),
  (1, .tableswitch 72 0 4 #[35, 40, 48, 56, 64], [35, 73, 36, 41, 49, 57, 65], []),
  (36, .aload_n 0, [], []),
  (37, .getfield 28, [4, 8], [328]),
  (40, .ireturn, [0], []),
  (41, .aload_n 0, [], []),
  (42, .getfield 12, [0, 8], [324]),
  (45, .getfield 85, [0, 6], [78]),
  (48, .ireturn, [0], []),
  (49, .aload_n 0, [], []),
  (50, .getfield 12, [0, 8], [324]),
  (53, .getfield 88, [1, 6], [85]),
  (56, .ireturn, [0], []),
  (57, .aload_n 0, [], []),
  (58, .getfield 12, [0, 8], [324]),
  (61, .getfield 95, [2, 6], [93]),
  (64, .ireturn, [0], []),
  (65, .aload_n 0, [], []),
  (66, .getfield 12, [0, 8], [324]),
  (69, .getfield 241, [8, 6], [110]),
  (72, .ireturn, [0], []),
  (73, .aload_n 0, [], []),
  (74, .iload_n 1, [], []),
  (75, .invokevirtual 271, [0, 1, 8, 74], [763, 765, 13, 48]),
  (78, .ireturn, [0], [])]
def tb_X9_toldOfOne : List (Nat × rI) := [
  (0, .iload_n 1, [], []),
  (1, .bipush 10, [10], []),
  (3, .if_icmp .le 30, [33], []),
  (6, .iload_n 1, [], []),
  (7, .bipush 10, [10], []),
  (9, .aload_n 0, [], []),
  (10, .getfield 12, [0, 8], [324]),
  (13, .getfield 88, [1, 6], [85]),
  (16, .iadd, [], []),
  (17, .if_icmp .gt 16, [33], []),
  (20, .aload_n 0, [], []),
  (21, .getfield 12, [0, 8], [324]),
  (24, .getfield 132, [3, 6], [97]),
  (27, .iload_n 1, [], []),
  (28, .bipush 10, [10], []),
  (30, .isub, [], []),
  (31, .iaload, [], []),
  (32, .ireturn, [0], []),
  (33, .iload_n 1, [], []),
  (34, .bipush 20, [20], []),
  (36, .if_icmp .lt 30, [66], []),
  (39, .iload_n 1, [], []),
  (40, .bipush 20, [20], []),
  (42, .aload_n 0, [], []),
  (43, .getfield 12, [0, 8], [324]),
  (46, .getfield 85, [0, 6], [78]),
  (49, .iadd, [], []),
  (50, .if_icmp .ge 16, [66], []),
  (53, .aload_n 0, [], []),
  (54, .getfield 12, [0, 8], [324]),
  (57, .getfield 141, [4, 6], [101]),
  (60, .iload_n 1, [], []),
  (61, .bipush 20, [20], []),
  (63, .isub, [], []),
  (64, .iaload, [], []),
  (65, .ireturn, [0], []),
  (66, .bipush (-2), [0, 2], []),
  (68, .ireturn, [0], [])]
def tb_X9_isSize : List (Nat × rI) := [
  (0, .iload_n 0, [], []),
  (1, .iconst 2, [2], []),
  (2, .if_icmp .lt 13, [15], []),
  (5, .iload_n 0, [], []),
  (6, .bipush 6, [6], []),
  (8, .if_icmp .gt 7, [15], []),
  (11, .iconst 1, [1], []),
  (12, .goto 4, [16], []),
  (15, .iconst 0, [0], []),
  (16, .ireturn, [1], [])]
def tb_X9_isBit : List (Nat × rI) := [
  (0, .iload_n 0, [], []),
  (1, .ifCond .eq 8, [9], []),
  (4, .iload_n 0, [], []),
  (5, .iconst 1, [1], []),
  (6, .if_icmp .ne 7, [13], []),
  (9, .iconst 1, [1], []),
  (10, .goto 4, [14], []),
  (13, .iconst 0, [0], []),
  (14, .ireturn, [1], [])]
def tb_X9_isSum : List (Nat × rI) := [
  (0, .iload_n 0, [], []),
  (1, .iconst 1, [1], []),
  (2, .if_icmp .lt 13, [15], []),
  (5, .iload_n 0, [], []),
  (6, .bipush 8, [8], []),
  (8, .if_icmp .gt 7, [15], []),
  (11, .iconst 1, [1], []),
  (12, .goto 4, [16], []),
  (15, .iconst 0, [0], []),
  (16, .ireturn, [1], [])]
def tb_X9_isSet : List (Nat × rI) := [
  (0, .iload_n 1, [], []),
  (1, .iconst 1, [1], []),
  (2, .if_icmp .lt 20, [22], []),
  (5, .iload_n 1, [], []),
  (6, .iconst 1, [1], []),
  (7, .aload_n 0, [], []),
  (8, .getfield 12, [0, 8], [324]),
  (11, .getfield 85, [0, 6], [78]),
  (14, .ishl, [], []),
  (15, .if_icmp .ge 7, [22], []),
  (18, .iconst 1, [1], []),
  (19, .goto 4, [23], []),
  (22, .iconst 0, [0], []),
  (23, .ireturn, [1], [])]
def tb_X9_isSlip : List (Nat × rI) := [
  (0, .iload_n 1, [], []),
  (1, .bipush 63, [63], []),
  (3, .if_icmp .eq 23, [26], []),
  (6, .iload_n 1, [], []),
  (7, .bipush 48, [48], []),
  (9, .if_icmp .lt 21, [30], []),
  (12, .iload_n 1, [], []),
  (13, .bipush 48, [48], []),
  (15, .aload_n 0, [], []),
  (16, .getfield 12, [0, 8], [324]),
  (19, .getfield 88, [1, 6], [85]),
  (22, .iadd, [], []),
  (23, .if_icmp .gt 7, [30], []),
  (26, .iconst 1, [1], []),
  (27, .goto 4, [31], []),
  (30, .iconst 0, [0], []),
  (31, .ireturn, [1], [])]
def tb_X9_isUntold : List (Nat × rI) := [
  (0, .iconst 0, [0], []),
  (1, .istore_n 1, [], []),
  (2, .iload_n 1, [], []),
  (3, .aload_n 0, [], []),
  (4, .getfield 28, [4, 8], [328]),
  (7, .if_icmp .ge 28, [35], []),
  (10, .iload_n 1, [], []),
  (11, .bipush 48, [48], []),
  (13, .if_icmp .ge 22, [35], []),
  (16, .aload_n 0, [], []),
  (17, .getfield 24, [3, 8], [327]),
  (20, .iload_n 1, [], []),
  (21, .iaload, [], []),
  (22, .bipush 63, [63], []),
  (24, .if_icmp .ne 5, [29], []),
  (27, .iconst 1, [1], []),
  (28, .ireturn, [1], []),
  (29, .iinc 1 1, [1], []),
  (32, .goto (-30), [2], []),
  (35, .iconst 0, [0], []),
  (36, .ireturn, [1], [])]
def tb_X9_lower : List (Nat × rI) := [
  (0, .aload_n 0, [], []),
  (1, .getfield 12, [0, 8], [324]),
  (4, .invokevirtual 135, [0, 0, 6, 36], [438, 439, 440, 49]),
  (7, .i2l, [], []),
  (8, .iload_n 1, [], []),
  (9, .invokestatic 183, [0, 85, 2, 0, 0], [481, 482, 48]),
  (12, .aload_n 0, [], []),
  (13, .getfield 12, [0, 8], [324]),
  (16, .invokevirtual 201, [0, 0, 6, 37], [504, 505, 506, 49]),
  (19, .i2l, [], []),
  (20, .lmul, [], []),
  (21, .lreturn, [2], [])]
def tb_X9_weighOthers : List (Nat × rI) := [
  (0, .aload_n 0, [], []),
  (1, .getfield 42, [6, 8], [330]),
  (4, .aload_n 0, [], []),
  (5, .getfield 12, [0, 8], [324]),
  (8, .getfield 95, [2, 6], [93]),
  (11, .aload_n 0, [], []),
  (12, .getfield 12, [0, 8], [324]),
  (15, .getfield 88, [1, 6], [85]),
  (18, .invokevirtual 221, [2, 2, 4, 39], [460, 461, 462, 463, 464, 51]),
  (21, .iconst 0, [0], []),
  (22, .istore_n 2, [], []),
  (23, .iload_n 2, [], []),
  (24, .aload_n 0, [], []),
  (25, .getfield 12, [0, 8], [324]),
  (28, .getfield 85, [0, 6], [78]),
  (31, .if_icmp .ge 30, [61], []),
  (34, .iload_n 2, [], []),
  (35, .iload_n 1, [], []),
  (36, .if_icmp .eq 19, [55], []),
  (39, .aload_n 0, [], []),
  (40, .getfield 42, [6, 8], [330]),
  (43, .aload_n 0, [], []),
  (44, .getfield 12, [0, 8], [324]),
  (47, .getfield 141, [4, 6], [101]),
  (50, .iload_n 2, [], []),
  (51, .iaload, [], []),
  (52, .invokevirtual 223, [2, 1, 4, 40], [466, 467, 468, 469, 470, 51]),
  (55, .iinc 2 1, [1], []),
  (58, .goto (-35), [23], []),
  (61, .aload_n 0, [], []),
  (62, .getfield 42, [6, 8], [330]),
  (65, .aload_n 0, [], []),
  (66, .getfield 12, [0, 8], [324]),
  (69, .getfield 132, [3, 6], [97]),
  (72, .invokevirtual 226, [2, 1, 4, 41], [472, 473, 474, 475, 476, 51]),
  (75, .return_, [3], [])]
def tb_X9_weighPad : List (Nat × rI) := [
  (0, .aload_n 0, [], []),
  (1, .getfield 42, [6, 8], [330]),
  (4, .aload_n 0, [], []),
  (5, .getfield 12, [0, 8], [324]),
  (8, .getfield 95, [2, 6], [93]),
  (11, .aload_n 0, [], []),
  (12, .getfield 12, [0, 8], [324]),
  (15, .getfield 88, [1, 6], [85]),
  (18, .invokevirtual 221, [2, 2, 4, 39], [460, 461, 462, 463, 464, 51]),
  (21, .iconst 0, [0], []),
  (22, .istore_n 2, [], []),
  (23, .iload_n 2, [], []),
  (24, .aload_n 0, [], []),
  (25, .getfield 12, [0, 8], [324]),
  (28, .getfield 85, [0, 6], [78]),
  (31, .if_icmp .ge 56, [87], []),
  (34, .iload_n 2, [], []),
  (35, .iload_n 1, [], []),
  (36, .if_icmp .eq 45, [81], []),
  (39, .aload_n 0, [], []),
  (40, .getfield 24, [3, 8], [327]),
  (43, .iload_n 2, [], []),
  (44, .iaload, [], []),
  (45, .bipush 48, [48], []),
  (47, .if_icmp .eq 34, [81], []),
  (50, .aload_n 0, [], []),
  (51, .getfield 42, [6, 8], [330]),
  (54, .aload_n 0, [], []),
  (55, .getfield 24, [3, 8], [327]),
  (58, .iload_n 2, [], []),
  (59, .iaload, [], []),
  (60, .bipush 63, [63], []),
  (62, .if_icmp .ne 7, [69], []),
  (65, .iconst 0, [0], []),
  (66, .goto 12, [78], []),
  (69, .aload_n 0, [], []),
  (70, .getfield 24, [3, 8], [327]),
  (73, .iload_n 2, [], []),
  (74, .iaload, [], []),
  (75, .bipush 48, [48], []),
  (77, .isub, [], []),
  (78, .invokevirtual 223, [2, 1, 4, 40], [466, 467, 468, 469, 470, 51]),
  (81, .iinc 2 1, [1], []),
  (84, .goto (-61), [23], []),
  (87, .aload_n 0, [], []),
  (88, .getfield 42, [6, 8], [330]),
  (91, .aload_n 0, [], []),
  (92, .getfield 12, [0, 8], [324]),
  (95, .getfield 132, [3, 6], [97]),
  (98, .invokevirtual 226, [2, 1, 4, 41], [472, 473, 474, 475, 476, 51]),
  (101, .return_, [3], [])]
def tb_X9_weighAll : List (Nat × rI) := [
  (0, .aload_n 0, [], []),
  (1, .getfield 49, [7, 8], [331]),
  (4, .aload_n 0, [], []),
  (5, .getfield 12, [0, 8], [324]),
  (8, .getfield 95, [2, 6], [93]),
  (11, .aload_n 0, [], []),
  (12, .getfield 12, [0, 8], [324]),
  (15, .getfield 88, [1, 6], [85]),
  (18, .invokevirtual 274, [2, 2, 7, 39], [545, 546, 462, 547, 464, 51]),
  (21, .iconst 0, [0], []),
  (22, .istore_n 1, [], []),
  (23, .iload_n 1, [], []),
  (24, .aload_n 0, [], []),
  (25, .getfield 12, [0, 8], [324]),
  (28, .getfield 85, [0, 6], [78]),
  (31, .if_icmp .ge 25, [56], []),
  (34, .aload_n 0, [], []),
  (35, .getfield 49, [7, 8], [331]),
  (38, .aload_n 0, [], []),
  (39, .getfield 12, [0, 8], [324]),
  (42, .getfield 141, [4, 6], [101]),
  (45, .iload_n 1, [], []),
  (46, .iaload, [], []),
  (47, .invokevirtual 275, [2, 1, 7, 40], [548, 549, 468, 550, 470, 51]),
  (50, .iinc 1 1, [1], []),
  (53, .goto (-30), [23], []),
  (56, .aload_n 0, [], []),
  (57, .getfield 49, [7, 8], [331]),
  (60, .aload_n 0, [], []),
  (61, .getfield 12, [0, 8], [324]),
  (64, .getfield 132, [3, 6], [97]),
  (67, .invokevirtual 276, [2, 1, 7, 41], [551, 552, 474, 553, 476, 51]),
  (70, .return_, [3], [])]
def tb_X9_power : List (Nat × rI) := [
  (0, .lconst 1, [1], []),
  (1, .lstore_n 3, [], []),
  (2, .iconst 0, [0], []),
  (3, .istore 5, [], []),
  (5, .iload 5, [], []),
  (7, .iload_n 2, [], []),
  (8, .if_icmp .ge 13, [21], []),
  (11, .lload_n 3, [], []),
  (12, .lload_n 0, [], []),
  (13, .lmul, [], []),
  (14, .lstore_n 3, [], []),
  (15, .iinc 5 1, [1], []),
  (18, .goto (-13), [5], []),
  (21, .lload_n 3, [], []),
  (22, .lreturn, [2], [])]
def tb_X9_lowest : List (Nat × rI) := [
  (0, .lload_n 0, [], []),
  (1, .lload_n 2, [], []),
  (2, .invokestatic 277, [0, 87, 2, 0, 0], [512, 513, 48]),
  (5, .lstore 5, [], []),
  (7, .lload 5, [], []),
  (9, .lconst 0, [0], []),
  (10, .lcmp, [], []),
  (11, .ifCond .ne 5, [16], []),
  (14, .lconst 0, [0], []),
  (15, .lreturn, [2], []),
  (16, .iload 4, [], []),
  (18, .ifCond .ne 7, [25], []),
  (21, .lload_n 0, [], []),
  (22, .goto 4, [26], []),
  (25, .lload_n 2, [], []),
  (26, .lload 5, [], []),
  (28, .ldiv, [], []),
  (29, .lreturn, [2], [])]
def tb_X9_commonDivisor : List (Nat × rI) := [
  (0, .lload_n 0, [], []),
  (1, .lstore 4, [], []),
  (3, .lload_n 2, [], []),
  (4, .lstore 6, [], []),
  (6, .iconst 0, [0], []),
  (7, .istore 8, [], []),
  (9, .iload 8, [], []),
  (11, .sipush 200, [200], []),
  (14, .if_icmp .ge 31, [45], []),
  (17, .lload 6, [], []),
  (19, .lconst 0, [0], []),
  (20, .lcmp, [], []),
  (21, .ifCond .eq 24, [45], []),
  (24, .lload 4, [], []),
  (26, .lload 6, [], []),
  (28, .lrem, [], []),
  (29, .lstore 9, [], []),
  (31, .lload 6, [], []),
  (33, .lstore 4, [], []),
  (35, .lload 9, [], []),
  (37, .lstore 6, [], []),
  (39, .iinc 8 1, [1], []),
  (42, .goto (-33), [9], []),
  (45, .lload 4, [], []),
  (47, .lreturn, [2], [])]
def tb_X9_writersToWin : List (Nat × rI) := [
  (0, .iload_n 0, [], []),
  (1, .iconst 3, [3], []),
  (2, .if_icmp .ne 7, [9], []),
  (5, .iconst 2, [2], []),
  (6, .goto 4, [10], []),
  (9, .iconst 1, [1], []),
  (10, .ireturn, [0], [])]
def tb_X9_numbersWritten : List (Nat × rI) := [
  (0, .iconst 0, [0], []),
  (1, .istore_n 3, [], []),
  (2, .iconst 1, [1], []),
  (3, .istore 4, [], []),
  (5, .iload 4, [], []),
  (7, .iload_n 2, [], []),
  (8, .if_icmp .gt 27, [35], []),
  (11, .iload 4, [], []),
  (13, .aload_n 1, [], []),
  (14, .arraylength, [], []),
  (15, .if_icmp .ge 20, [35], []),
  (18, .aload_n 1, [], []),
  (19, .iload 4, [], []),
  (21, .iaload, [], []),
  (22, .iload_n 0, [], []),
  (23, .if_icmp .ne 6, [29], []),
  (26, .iinc 3 1, [1], []),
  (29, .iinc 4 1, [1], []),
  (32, .goto (-27), [5], []),
  (35, .iload_n 3, [], []),
  (36, .ireturn, [0], [])]
def tb_X9_winner : List (Nat × rI) := [
  (0, .iload_n 0, [], []),
  (1, .invokestatic 281, [0, 88, 1, 0, 0], [415, 416, 48]),
  (4, .istore_n 3, [], []),
  (5, .iload_n 0, [], []),
  (6, .iload_n 3, [], []),
  (7, .aload_n 1, [], []),
  (8, .iload_n 2, [], []),
  (9, .invokestatic 284, [0, 89, 3, 0, 0], [418, 419, 48]),
  (12, .invokestatic 287, [0, 91, 2, 0, 0], [421, 422, 48]),
  (15, .istore 4, [], []),
  (17, .iconst 1, [1], []),
  (18, .istore 5, [], []),
  (20, .iload 5, [], []),
  (22, .iload_n 2, [], []),
  (23, .if_icmp .gt 35, [58], []),
  (26, .iload 5, [], []),
  (28, .aload_n 1, [], []),
  (29, .arraylength, [], []),
  (30, .if_icmp .ge 28, [58], []),
  (33, .aload_n 1, [], []),
  (34, .iload 5, [], []),
  (36, .iaload, [], []),
  (37, .iload_n 3, [], []),
  (38, .if_icmp .ne 14, [52], []),
  (41, .iinc 4 (-1), [0, 1], []),
  (44, .iload 4, [], []),
  (46, .ifCond .ne 6, [52], []),
  (49, .iload 5, [], []),
  (51, .ireturn, [0], []),
  (52, .iinc 5 1, [1], []),
  (55, .goto (-35), [20], []),
  (58, .iconst 0, [0], []),
  (59, .ireturn, [0], [])]
def tb_X9_winning : List (Nat × rI) := [
  (0, .iload_n 0, [], []),
  (1, .ifCond .lt 18, [19], []),
  (4, .iload_n 0, [], []),
  (5, .iconst 3, [3], []),
  (6, .if_icmp .gt 13, [19], []),
  (9, .iload_n 1, [], []),
  (10, .ifCond .lt 9, [19], []),
  (13, .iload_n 1, [], []),
  (14, .bipush 8, [8], []),
  (16, .if_icmp .lt 5, [21], []),
  (19, .iconst 0, [0], []),
  (20, .ireturn, [0], []),
  (21, .getstatic 290, [1000000], [0, 424]),
  (24, .iload_n 0, [], []),
  (25, .bipush 8, [8], []),
  (27, .imul, [], []),
  (28, .iload_n 1, [], []),
  (29, .iadd, [], []),
  (30, .iaload, [], []),
  (31, .ireturn, [0], [])]
def tb_X9_place : List (Nat × rI) := [
  (0, .iload_n 2, [], []),
  (1, .iconst 1, [1], []),
  (2, .if_icmp .lt 25, [27], []),
  (5, .iload_n 2, [], []),
  (6, .bipush 6, [6], []),
  (8, .if_icmp .gt 19, [27], []),
  (11, .iload_n 2, [], []),
  (12, .aload_n 1, [], []),
  (13, .arraylength, [], []),
  (14, .if_icmp .ge 13, [27], []),
  (17, .iload_n 3, [], []),
  (18, .ifCond .lt 9, [27], []),
  (21, .iload_n 3, [], []),
  (22, .bipush 6, [6], []),
  (24, .if_icmp .le 4, [28], []),
  (27, .return_, [3], []),
  (28, .aload_n 0, [], []),
  (29, .getfield 293, [0, 4, 7], [162]),
  (32, .iload_n 2, [], []),
  (33, .iaload, [], []),
  (34, .istore 6, [], []),
  (36, .iload_n 2, [], []),
  (37, .aload_n 0, [], []),
  (38, .getfield 296, [3, 4, 7], [182]),
  (41, .if_icmp .lt 48, [89], []),
  (44, .lload 4, [], []),
  (46, .aload_n 1, [], []),
  (47, .iload_n 2, [], []),
  (48, .iaload, [], []),
  (49, .i2l, [], []),
  (50, .iload_n 3, [], []),
  (51, .invokestatic 183, [0, 85, 2, 0, 0], [481, 482, 48]),
  (54, .lmul, [], []),
  (55, .lstore 7, [], []),
  (57, .lload 7, [], []),
  (59, .lconst 0, [0], []),
  (60, .lcmp, [], []),
  (61, .ifCond .le 27, [88], []),
  (64, .aload_n 0, [], []),
  (65, .getfield 293, [0, 4, 7], [162]),
  (68, .iload_n 2, [], []),
  (69, .iload 6, [], []),
  (71, .iload_n 3, [], []),
  (72, .iadd, [], []),
  (73, .iastore, [], []),
  (74, .aload_n 0, [], []),
  (75, .lload 7, [], []),
  (77, .invokevirtual 297, [2, 1, 4, 21, 7, 43], [484, 486, 485, 487, 488, 52, 493, 494, 53]),
  (80, .aload_n 0, [], []),
  (81, .getfield 293, [0, 4, 7], [162]),
  (84, .iload_n 2, [], []),
  (85, .iload 6, [], []),
  (87, .iastore, [], []),
  (88, .return_, [3], []),
  (89, .lload 4, [], []),
  (91, .lstore 7, [], []),
  (93, .iconst 0, [0], []),
  (94, .istore 9, [], []),
  (96, .iload 9, [], []),
  (98, .iload_n 3, [], []),
  (99, .if_icmp .gt 63, [162], []),
  (102, .lload 7, [], []),
  (104, .lconst 0, [0], []),
  (105, .lcmp, [], []),
  (106, .ifCond .le 56, [162], []),
  (109, .aload_n 0, [], []),
  (110, .getfield 293, [0, 4, 7], [162]),
  (113, .iload_n 2, [], []),
  (114, .iload 6, [], []),
  (116, .iload 9, [], []),
  (118, .iadd, [], []),
  (119, .iastore, [], []),
  (120, .aload_n 0, [], []),
  (121, .aload_n 1, [], []),
  (122, .iload_n 2, [], []),
  (123, .iconst 1, [1], []),
  (124, .iadd, [], []),
  (125, .iload_n 3, [], []),
  (126, .iload 9, [], []),
  (128, .isub, [], []),
  (129, .lload 7, [], []),
  (131, .getstatic 301, [1000001], [0, 497]),
  (134, .iload_n 3, [], []),
  (135, .bipush 7, [7], []),
  (137, .imul, [], []),
  (138, .iload 9, [], []),
  (140, .iadd, [], []),
  (141, .iaload, [], []),
  (142, .i2l, [], []),
  (143, .lmul, [], []),
  (144, .invokestatic 304, [0, 92, 5, 0, 0], [499, 479, 48]),
  (147, .lload 7, [], []),
  (149, .aload_n 1, [], []),
  (150, .iload_n 2, [], []),
  (151, .iaload, [], []),
  (152, .i2l, [], []),
  (153, .lmul, [], []),
  (154, .lstore 7, [], []),
  (156, .iinc 9 1, [1], []),
  (159, .goto (-63), [96], []),
  (162, .aload_n 0, [], []),
  (163, .getfield 293, [0, 4, 7], [162]),
  (166, .iload_n 2, [], []),
  (167, .iload 6, [], []),
  (169, .iastore, [], []),
  (170, .return_, [3], [])]
def tb_X9_spread : List (Nat × rI) := [
  (0, .iload_n 1, [], []),
  (1, .iconst 1, [1], []),
  (2, .if_icmp .lt 23, [25], []),
  (5, .iload_n 1, [], []),
  (6, .bipush 6, [6], []),
  (8, .if_icmp .gt 17, [25], []),
  (11, .aload_n 0, [], []),
  (12, .getfield 198, [3, 1], [227]),
  (15, .aload_n 0, [], []),
  (16, .getfield 308, [5, 1], [231]),
  (19, .laload, [], []),
  (20, .lconst 0, [0], []),
  (21, .lcmp, [], []),
  (22, .ifCond .ne 4, [26], []),
  (25, .return_, [3], []),
  (26, .iload_n 1, [], []),
  (27, .aload_n 0, [], []),
  (28, .getfield 311, [0, 1], [223]),
  (31, .getfield 312, [3, 4], [183, 181]),
  (34, .if_icmp .lt 26, [60], []),
  (37, .aload_n 0, [], []),
  (38, .getfield 313, [4, 1], [229]),
  (41, .iload_n 1, [], []),
  (42, .iload_n 2, [], []),
  (43, .iastore, [], []),
  (44, .aload_n 0, [], []),
  (45, .getfield 311, [0, 1], [223]),
  (48, .aload_n 0, [], []),
  (49, .getfield 313, [4, 1], [229]),
  (52, .invokevirtual 226, [2, 1, 4, 41], [472, 473, 474, 475, 476, 51]),
  (55, .aload_n 0, [], []),
  (56, .invokevirtual 316, [1, 0, 1, 6], [572, 574, 5, 54]),
  (59, .return_, [3], []),
  (60, .iconst 0, [0], []),
  (61, .istore_n 3, [], []),
  (62, .iload_n 3, [], []),
  (63, .iload_n 2, [], []),
  (64, .if_icmp .gt 26, [90], []),
  (67, .aload_n 0, [], []),
  (68, .getfield 313, [4, 1], [229]),
  (71, .iload_n 1, [], []),
  (72, .iload_n 3, [], []),
  (73, .iastore, [], []),
  (74, .aload_n 0, [], []),
  (75, .iload_n 1, [], []),
  (76, .iconst 1, [1], []),
  (77, .iadd, [], []),
  (78, .iload_n 2, [], []),
  (79, .iload_n 3, [], []),
  (80, .isub, [], []),
  (81, .invokestatic 319, [0, 93, 3, 0, 0], [580, 570, 48]),
  (84, .iinc 3 1, [1], []),
  (87, .goto (-25), [62], []),
  (90, .return_, [3], [])]
def tb_X9_agree : List (Nat × rI) := [
  (0, .iload_n 2, [], []),
  (1, .aload_n 0, [], []),
  (2, .getfield 323, [5, 5], [263]),
  (5, .if_icmp .ge 9, [14], []),
  (8, .iload_n 2, [], []),
  (9, .bipush 6, [6], []),
  (11, .if_icmp .lt 24, [35], []),
  (14, .aload_n 0, [], []),
  (15, .aload_n 1, [], []),
  (16, .invokevirtual 326, [1, 1, 5, 28], [610, 612, 7, 55]),
  (19, .aload_n 0, [], []),
  (20, .getfield 215, [0, 5], [255]),
  (23, .aload_n 1, [], []),
  (24, .getfield 132, [3, 6], [97]),
  (27, .invokevirtual 276, [2, 1, 7, 41], [551, 552, 474, 553, 476, 51]),
  (30, .aload_n 0, [], []),
  (31, .invokevirtual 329, [1, 0, 5, 29], [616, 618, 8, 55]),
  (34, .return_, [3], []),
  (35, .iload_n 3, [], []),
  (36, .istore 4, [], []),
  (38, .iload 4, [], []),
  (40, .aload_n 1, [], []),
  (41, .getfield 88, [1, 6], [85]),
  (44, .if_icmp .gt 27, [71], []),
  (47, .aload_n 0, [], []),
  (48, .getfield 330, [1, 5], [257]),
  (51, .iload_n 2, [], []),
  (52, .iload 4, [], []),
  (54, .iastore, [], []),
  (55, .aload_n 0, [], []),
  (56, .aload_n 1, [], []),
  (57, .iload_n 2, [], []),
  (58, .iconst 1, [1], []),
  (59, .iadd, [], []),
  (60, .iload 4, [], []),
  (62, .invokestatic 331, [0, 94, 4, 0, 0], [621, 608, 48]),
  (65, .iinc 4 1, [1], []),
  (68, .goto (-30), [38], []),
  (71, .return_, [3], [])]
def tb_X9_choice : List (Nat × rI) := [
  (0, .iload_n 2, [], []),
  (1, .ifCond .lt 9, [10], []),
  (4, .iload_n 2, [], []),
  (5, .bipush 6, [6], []),
  (7, .if_icmp .lt 5, [12], []),
  (10, .iconst 1, [1], []),
  (11, .ireturn, [0], []),
  (12, .aload_n 1, [], []),
  (13, .getfield 141, [4, 6], [101]),
  (16, .iload_n 2, [], []),
  (17, .iaload, [], []),
  (18, .ifCond .eq 10, [28], []),
  (21, .aload_n 1, [], []),
  (22, .getfield 141, [4, 6], [101]),
  (25, .iload_n 2, [], []),
  (26, .iaload, [], []),
  (27, .ireturn, [0], []),
  (28, .iconst 1, [1], []),
  (29, .istore_n 3, [], []),
  (30, .iload_n 3, [], []),
  (31, .aload_n 1, [], []),
  (32, .getfield 88, [1, 6], [85]),
  (35, .if_icmp .gt 22, [57], []),
  (38, .aload_n 0, [], []),
  (39, .aload_n 1, [], []),
  (40, .iload_n 2, [], []),
  (41, .iload_n 3, [], []),
  (42, .invokestatic 335, [0, 96, 4, 0, 0], [659, 660, 48]),
  (45, .iload_n 3, [], []),
  (46, .if_icmp .ne 5, [51], []),
  (49, .iload_n 3, [], []),
  (50, .ireturn, [0], []),
  (51, .iinc 3 1, [1], []),
  (54, .goto (-24), [30], []),
  (57, .iconst 1, [1], []),
  (58, .ireturn, [0], [])]
def tb_X9_endWith : List (Nat × rI) := [
  (0, .iload_n 3, [], []),
  (1, .iconst 1, [1], []),
  (2, .if_icmp .lt 9, [11], []),
  (5, .iload_n 3, [], []),
  (6, .bipush 7, [7], []),
  (8, .if_icmp .lt 5, [13], []),
  (11, .iconst 0, [0], []),
  (12, .ireturn, [0], []),
  (13, .aload_n 0, [], []),
  (14, .getfield 339, [0, 0], [284]),
  (17, .iload_n 3, [], []),
  (18, .dup2, [], []),
  (19, .iaload, [], []),
  (20, .iconst 1, [1], []),
  (21, .iadd, [], []),
  (22, .iastore, [], []),
  (23, .aload_n 0, [], []),
  (24, .aload_n 1, [], []),
  (25, .iload_n 2, [], []),
  (26, .iconst 1, [1], []),
  (27, .iadd, [], []),
  (28, .invokestatic 340, [0, 97, 3, 0, 0], [662, 663, 48]),
  (31, .istore 4, [], []),
  (33, .aload_n 0, [], []),
  (34, .getfield 339, [0, 0], [284]),
  (37, .iload_n 3, [], []),
  (38, .dup2, [], []),
  (39, .iaload, [], []),
  (40, .iconst 1, [1], []),
  (41, .isub, [], []),
  (42, .iastore, [], []),
  (43, .iload 4, [], []),
  (45, .ireturn, [0], [])]
def tb_X9_end : List (Nat × rI) := [
  (0, .iload_n 2, [], []),
  (1, .aload_n 1, [], []),
  (2, .getfield 85, [0, 6], [78]),
  (5, .if_icmp .lt 19, [24], []),
  (8, .aload_n 1, [], []),
  (9, .getfield 95, [2, 6], [93]),
  (12, .aload_n 0, [], []),
  (13, .getfield 339, [0, 0], [284]),
  (16, .aload_n 1, [], []),
  (17, .getfield 88, [1, 6], [85]),
  (20, .invokestatic 121, [0, 90, 3, 0, 0], [412, 413, 48]),
  (23, .ireturn, [0], []),
  (24, .aload_n 0, [], []),
  (25, .aload_n 1, [], []),
  (26, .getfield 88, [1, 6], [85]),
  (29, .invokevirtual 344, [1, 1, 0, 2], [665, 667, 10, 56]),
  (32, .istore_n 3, [], []),
  (33, .iload_n 3, [], []),
  (34, .ifCond .lt 10, [44], []),
  (37, .iload_n 3, [], []),
  (38, .sipush 924, [924], []),
  (41, .if_icmp .lt 5, [46], []),
  (44, .iconst 0, [0], []),
  (45, .ireturn, [0], []),
  (46, .aload_n 0, [], []),
  (47, .getfield 347, [1, 0], [286]),
  (50, .iload_n 3, [], []),
  (51, .baload, [], []),
  (52, .ifCond .ne 28, [80], []),
  (55, .aload_n 0, [], []),
  (56, .aload_n 1, [], []),
  (57, .iload_n 2, [], []),
  (58, .aload_n 0, [], []),
  (59, .aload_n 1, [], []),
  (60, .iload_n 2, [], []),
  (61, .invokestatic 351, [0, 95, 3, 0, 0], [671, 657, 48]),
  (64, .invokestatic 335, [0, 96, 4, 0, 0], [659, 660, 48]),
  (67, .istore 4, [], []),
  (69, .aload_n 0, [], []),
  (70, .getfield 347, [1, 0], [286]),
  (73, .iload_n 3, [], []),
  (74, .iload 4, [], []),
  (76, .iconst 1, [1], []),
  (77, .iadd, [], []),
  (78, .i2b, [], []),
  (79, .bastore, [], []),
  (80, .aload_n 0, [], []),
  (81, .getfield 347, [1, 0], [286]),
  (84, .iload_n 3, [], []),
  (85, .baload, [], []),
  (86, .iconst 1, [1], []),
  (87, .isub, [], []),
  (88, .ireturn, [0], [])]
def tb_X10_init : List (Nat × rI) := [
  (0, .aload_n 0, [], []),
  (1, .invokespecial 1, [0], [772, 67, 68]),
  (4, .aload_n 0, [], []),
  (5, .iconst 4, [4], []),
  (6, .putfield 7, [0, 0, 0, 9], [781]),
  (9, .aload_n 0, [], []),
  (10, .iconst 5, [5], []),
  (11, .putfield 13, [1, 0, 0, 9], [782]),
  (14, .aload_n 0, [], []),
  (15, .bipush 7, [7], []),
  (17, .newarray .int, [7], [130]),
  (19, .putfield 16, [3, 1, 2, 9], [784]),
  (22, .aload_n 0, [], []),
  (23, .bipush 6, [6], []),
  (25, .newarray .int, [6], [130]),
  (27, .putfield 20, [4, 1, 2, 9], [785]),
  (30, .aload_n 0, [], []),
  (31, .bipush 18, [18], []),
  (33, .newarray .int, [18], [130]),
  (35, .putfield 23, [6, 1, 2, 9], [787]),
  (38, .aload_n 0, [], []),
  (39, .bipush 48, [48], []),
  (41, .newarray .int, [48], [130]),
  (43, .putfield 26, [8, 1, 2, 9], [789]),
  (46, .aload_n 0, [], []),
  (47, .bipush 7, [7], []),
  (49, .newarray .int, [7], [130]),
  (51, .putfield 29, [9, 1, 2, 9], [790]),
  (54, .aload_n 0, [], []),
  (55, .bipush 7, [7], []),
  (57, .newarray .int, [7], [130]),
  (59, .putfield 32, [10, 1, 2, 9], [791]),
  (62, .aload_n 0, [], []),
  (63, .bipush 7, [7], []),
  (65, .newarray .int, [7], [130]),
  (67, .putfield 35, [12, 1, 2, 9], [793]),
  (70, .aload_n 0, [], []),
  (71, .bipush 7, [7], []),
  (73, .newarray .int, [7], [130]),
  (75, .putfield 38, [13, 1, 2, 9], [794]),
  (78, .aload_n 0, [], []),
  (79, .bipush 7, [7], []),
  (81, .newarray .int, [7], [130]),
  (83, .putfield 41, [14, 1, 2, 9], [795]),
  (86, .aload_n 0, [], []),
  (87, .bipush 6, [6], []),
  (89, .newarray .int, [6], [130]),
  (91, .putfield 44, [16, 1, 2, 9], [797]),
  (94, .aload_n 0, [], []),
  (95, .bipush 6, [6], []),
  (97, .newarray .int, [6], [130]),
  (99, .putfield 47, [17, 1, 2, 9], [798]),
  (102, .aload_n 0, [], []),
  (103, .bipush 6, [6], []),
  (105, .newarray .int, [6], [130]),
  (107, .putfield 50, [19, 1, 2, 9], [800]),
  (110, .aload_n 0, [], []),
  (111, .ldc 53, [46656], [773]),
  (113, .newarray .int, [46656], [130]),
  (115, .putfield 54, [20, 1, 2, 9], [801]),
  (118, .aload_n 0, [], []),
  (119, .ldc 53, [46656], [773]),
  (121, .newarray .int, [46656], [130]),
  (123, .putfield 57, [21, 1, 2, 9], [802]),
  (126, .aload_n 0, [], []),
  (127, .bipush 72, [72], []),
  (129, .newarray .int, [72], [130]),
  (131, .putfield 60, [22, 1, 2, 9], [803]),
  (134, .aload_n 0, [], []),
  (135, .iconst 2, [2], []),
  (136, .newarray .boolean, [2], [147]),
  (138, .putfield 63, [23, 1, 2, 9], [804]),
  (141, .aload_n 0, [], []),
  (142, .invokevirtual 67, [0, 0, 9, 99], [774, 776, 14, 58]),
  (145, .return_, [3], [])]
def tb_X10_plain : List (Nat × rI) := [
  (0, .iconst 0, [0], []),
  (1, .istore_n 1, [], []),
  (2, .iload_n 1, [], []),
  (3, .bipush 7, [7], []),
  (5, .if_icmp .ge 32, [37], []),
  (8, .aload_n 0, [], []),
  (9, .getfield 16, [3, 9], [784]),
  (12, .iload_n 1, [], []),
  (13, .iload_n 1, [], []),
  (14, .iconst 1, [1], []),
  (15, .aload_n 0, [], []),
  (16, .getfield 13, [1, 9], [782]),
  (19, .invokestatic 70, [0, 100, 3, 0, 0], [778, 779, 58]),
  (22, .ifCond .eq 7, [29], []),
  (25, .iconst 1, [1], []),
  (26, .goto 4, [30], []),
  (29, .iconst 0, [0], []),
  (30, .iastore, [], []),
  (31, .iinc 1 1, [1], []),
  (34, .goto (-32), [2], []),
  (37, .iconst 0, [0], []),
  (38, .istore_n 1, [], []),
  (39, .iload_n 1, [], []),
  (40, .bipush 6, [6], []),
  (42, .if_icmp .ge 16, [58], []),
  (45, .aload_n 0, [], []),
  (46, .getfield 20, [4, 9], [785]),
  (49, .iload_n 1, [], []),
  (50, .iconst 0, [0], []),
  (51, .iastore, [], []),
  (52, .iinc 1 1, [1], []),
  (55, .goto (-16), [39], []),
  (58, .aload_n 0, [], []),
  (59, .iconst 0, [0], []),
  (60, .putfield 74, [5, 0, 0, 9], [786]),
  (63, .return_, [3], [])]
def tb_X10_in : List (Nat × rI) := [
  (0, .iload_n 0, [], []),
  (1, .iload_n 1, [], []),
  (2, .if_icmp .lt 12, [14], []),
  (5, .iload_n 0, [], []),
  (6, .iload_n 2, [], []),
  (7, .if_icmp .gt 7, [14], []),
  (10, .iconst 1, [1], []),
  (11, .goto 4, [15], []),
  (14, .iconst 0, [0], []),
  (15, .ireturn, [1], [])]
def tb_X10_has : List (Nat × rI) := [
  (0, .iload_n 0, [], []),
  (1, .iload_n 1, [], []),
  (2, .ishr, [], []),
  (3, .iconst 1, [1], []),
  (4, .iand, [], []),
  (5, .iconst 1, [1], []),
  (6, .if_icmp .ne 7, [13], []),
  (9, .iconst 1, [1], []),
  (10, .goto 4, [14], []),
  (13, .iconst 0, [0], []),
  (14, .ireturn, [1], [])]
def tb_X10_isMan : List (Nat × rI) := [
  (0, .iload_n 1, [], []),
  (1, .iconst 0, [0], []),
  (2, .aload_n 0, [], []),
  (3, .getfield 7, [0, 9], [781]),
  (6, .iconst 1, [1], []),
  (7, .isub, [], []),
  (8, .invokestatic 70, [0, 100, 3, 0, 0], [778, 779, 58]),
  (11, .ireturn, [1], [])]
def tb_X10_isNumber : List (Nat × rI) := [
  (0, .iload_n 1, [], []),
  (1, .iconst 1, [1], []),
  (2, .aload_n 0, [], []),
  (3, .getfield 13, [1, 9], [782]),
  (6, .invokestatic 70, [0, 100, 3, 0, 0], [778, 779, 58]),
  (9, .ireturn, [1], [])]
def tb_X10_inn : List (Nat × rI) := [
  (0, .iload_n 1, [], []),
  (1, .iconst 2, [2], []),
  (2, .bipush 6, [6], []),
  (4, .invokestatic 70, [0, 100, 3, 0, 0], [778, 779, 58]),
  (7, .ifCond .eq 13, [20], []),
  (10, .iload_n 2, [], []),
  (11, .iconst 2, [2], []),
  (12, .bipush 6, [6], []),
  (14, .invokestatic 70, [0, 100, 3, 0, 0], [778, 779, 58]),
  (17, .ifCond .ne 6, [23], []),
  (20, .bipush (-2), [0, 2], []),
  (22, .ireturn, [0], []),
  (23, .bipush 10, [10], []),
  (25, .aload_n 0, [], []),
  (26, .getfield 7, [0, 9], [781]),
  (29, .imul, [], []),
  (30, .aload_n 0, [], []),
  (31, .getfield 13, [1, 9], [782]),
  (34, .iadd, [], []),
  (35, .istore_n 3, [], []),
  (36, .aload_n 0, [], []),
  (37, .iload_n 1, [], []),
  (38, .putfield 7, [0, 0, 0, 9], [781]),
  (41, .aload_n 0, [], []),
  (42, .iload_n 2, [], []),
  (43, .putfield 13, [1, 0, 0, 9], [782]),
  (46, .aload_n 0, [], []),
  (47, .invokevirtual 67, [0, 0, 9, 99], [774, 776, 14, 58]),
  (50, .iload_n 3, [], []),
  (51, .ireturn, [0], [])]
def tb_X10_rule : List (Nat × rI) := [
  (0, .iload_n 1, [], []),
  (1, .iconst 0, [0], []),
  (2, .iconst 3, [3], []),
  (3, .invokestatic 70, [0, 100, 3, 0, 0], [778, 779, 58]),
  (6, .ifCond .ne 6, [12], []),
  (9, .bipush (-2), [0, 2], []),
  (11, .ireturn, [0], []),
  (12, .aload_n 0, [], []),
  (13, .getfield 77, [2, 9], [783]),
  (16, .istore_n 2, [], []),
  (17, .aload_n 0, [], []),
  (18, .iload_n 1, [], []),
  (19, .putfield 77, [2, 0, 0, 9], [783]),
  (22, .iload_n 2, [], []),
  (23, .ireturn, [0], [])]
def tb_X10_say : List (Nat × rI) := [
  (0, .iload_n 1, [], []),
  (1, .bipush 33, [33], []),
  (3, .bipush 126, [126], []),
  (5, .invokestatic 70, [0, 100, 3, 0, 0], [778, 779, 58]),
  (8, .ifCond .ne 6, [14], []),
  (11, .bipush (-2), [0, 2], []),
  (13, .ireturn, [0], []),
  (14, .aload_n 0, [], []),
  (15, .getfield 80, [7, 9], [788]),
  (18, .bipush 48, [48], []),
  (20, .if_icmp .ne 6, [26], []),
  (23, .bipush (-4), [0, 4], []),
  (25, .ireturn, [0], []),
  (26, .aload_n 0, [], []),
  (27, .getfield 26, [8, 9], [789]),
  (30, .aload_n 0, [], []),
  (31, .getfield 80, [7, 9], [788]),
  (34, .iload_n 1, [], []),
  (35, .iastore, [], []),
  (36, .aload_n 0, [], []),
  (37, .dup, [], []),
  (38, .getfield 80, [7, 9], [788]),
  (41, .iconst 1, [1], []),
  (42, .iadd, [], []),
  (43, .putfield 80, [7, 0, 0, 9], [788]),
  (46, .aload_n 0, [], []),
  (47, .getfield 80, [7, 9], [788]),
  (50, .ireturn, [0], [])]
def tb_X10_wipe : List (Nat × rI) := [
  (0, .aload_n 0, [], []),
  (1, .getfield 80, [7, 9], [788]),
  (4, .istore_n 1, [], []),
  (5, .aload_n 0, [], []),
  (6, .iconst 0, [0], []),
  (7, .putfield 80, [7, 0, 0, 9], [788]),
  (10, .iload_n 1, [], []),
  (11, .ireturn, [0], [])]
def tb_X10_faultOf : List (Nat × rI) := [
  (0, .iconst 0, [0], []),
  (1, .istore_n 1, [], []),
  (2, .iload_n 1, [], []),
  (3, .aload_n 0, [], []),
  (4, .getfield 80, [7, 9], [788]),
  (7, .if_icmp .ge 51, [58], []),
  (10, .iload_n 1, [], []),
  (11, .aload_n 0, [], []),
  (12, .getfield 7, [0, 9], [781]),
  (15, .if_icmp .eq 35, [50], []),
  (18, .aload_n 0, [], []),
  (19, .getfield 26, [8, 9], [789]),
  (22, .iload_n 1, [], []),
  (23, .iaload, [], []),
  (24, .bipush 63, [63], []),
  (26, .if_icmp .eq 26, [52], []),
  (29, .aload_n 0, [], []),
  (30, .getfield 26, [8, 9], [789]),
  (33, .iload_n 1, [], []),
  (34, .iaload, [], []),
  (35, .bipush 48, [48], []),
  (37, .bipush 48, [48], []),
  (39, .aload_n 0, [], []),
  (40, .getfield 13, [1, 9], [782]),
  (43, .iadd, [], []),
  (44, .invokestatic 70, [0, 100, 3, 0, 0], [778, 779, 58]),
  (47, .ifCond .ne 5, [52], []),
  (50, .iload_n 1, [], []),
  (51, .ireturn, [0], []),
  (52, .iinc 1 1, [1], []),
  (55, .goto (-53), [2], []),
  (58, .aload_n 0, [], []),
  (59, .getfield 80, [7, 9], [788]),
  (62, .aload_n 0, [], []),
  (63, .getfield 7, [0, 9], [781]),
  (66, .if_icmp .ge 10, [76], []),
  (69, .aload_n 0, [], []),
  (70, .getfield 80, [7, 9], [788]),
  (73, .goto 5, [78], []),
  (76, .bipush (-6), [0, 6], []),
  (78, .ireturn, [0], [])]
def tb_X10_fault : List (Nat × rI) := [
  (0, .aload_n 0, [], []),
  (1, .invokevirtual 83, [0, 0, 9, 108], [874, 876, 15, 58]),
  (4, .ireturn, [0], [])]
def tb_X10_winner : List (Nat × rI) := [
  (0, .aload_n 0, [], []),
  (1, .getfield 77, [2, 9], [783]),
  (4, .iconst 3, [3], []),
  (5, .if_icmp .ne 7, [12], []),
  (8, .iconst 2, [2], []),
  (9, .goto 4, [13], []),
  (12, .iconst 1, [1], []),
  (13, .istore_n 2, [], []),
  (14, .iconst 0, [0], []),
  (15, .istore_n 3, [], []),
  (16, .iconst 1, [1], []),
  (17, .istore 4, [], []),
  (19, .iload 4, [], []),
  (21, .aload_n 0, [], []),
  (22, .getfield 13, [1, 9], [782]),
  (25, .if_icmp .gt 25, [50], []),
  (28, .iload_n 3, [], []),
  (29, .aload_n 1, [], []),
  (30, .iload 4, [], []),
  (32, .iaload, [], []),
  (33, .iload_n 2, [], []),
  (34, .if_icmp .ne 7, [41], []),
  (37, .iconst 1, [1], []),
  (38, .goto 4, [42], []),
  (41, .iconst 0, [0], []),
  (42, .iadd, [], []),
  (43, .istore_n 3, [], []),
  (44, .iinc 4 1, [1], []),
  (47, .goto (-28), [19], []),
  (50, .iload_n 3, [], []),
  (51, .ifCond .ne 6, [57], []),
  (54, .bipush (-6), [0, 6], []),
  (56, .ireturn, [0], []),
  (57, .aload_n 0, [], []),
  (58, .getfield 77, [2, 9], [783]),
  (61, .iconst 1, [1], []),
  (62, .if_icmp .ne 9, [71], []),
  (65, .iload_n 3, [], []),
  (66, .iconst 1, [1], []),
  (67, .isub, [], []),
  (68, .goto 20, [88], []),
  (71, .aload_n 0, [], []),
  (72, .getfield 77, [2, 9], [783]),
  (75, .iconst 2, [2], []),
  (76, .if_icmp .ne 11, [87], []),
  (79, .iload_n 3, [], []),
  (80, .iconst 1, [1], []),
  (81, .isub, [], []),
  (82, .iconst 2, [2], []),
  (83, .idiv, [], []),
  (84, .goto 4, [88], []),
  (87, .iconst 0, [0], []),
  (88, .istore 4, [], []),
  (90, .iload 4, [], []),
  (92, .istore 5, [], []),
  (94, .iconst 1, [1], []),
  (95, .istore 6, [], []),
  (97, .iload 6, [], []),
  (99, .aload_n 0, [], []),
  (100, .getfield 13, [1, 9], [782]),
  (103, .if_icmp .gt 28, [131], []),
  (106, .aload_n 1, [], []),
  (107, .iload 6, [], []),
  (109, .iaload, [], []),
  (110, .iload_n 2, [], []),
  (111, .if_icmp .ne 14, [125], []),
  (114, .iload 5, [], []),
  (116, .ifCond .ne 6, [122], []),
  (119, .iload 6, [], []),
  (121, .ireturn, [0], []),
  (122, .iinc 5 (-1), [0, 1], []),
  (125, .iinc 6 1, [1], []),
  (128, .goto (-31), [97], []),
  (131, .bipush (-6), [0, 6], []),
  (133, .ireturn, [0], [])]
def tb_X10_nobodyWrote : List (Nat × rI) := [
  (0, .iconst 0, [0], []),
  (1, .istore_n 1, [], []),
  (2, .iload_n 1, [], []),
  (3, .bipush 7, [7], []),
  (5, .if_icmp .ge 16, [21], []),
  (8, .aload_n 0, [], []),
  (9, .getfield 29, [9, 9], [790]),
  (12, .iload_n 1, [], []),
  (13, .iconst 0, [0], []),
  (14, .iastore, [], []),
  (15, .iinc 1 1, [1], []),
  (18, .goto (-16), [2], []),
  (21, .return_, [3], [])]
def tb_X10_wins : List (Nat × rI) := [
  (0, .iload_n 1, [], []),
  (1, .iconst 0, [0], []),
  (2, .iconst 1, [1], []),
  (3, .invokestatic 70, [0, 100, 3, 0, 0], [778, 779, 58]),
  (6, .ifCond .ne 6, [12], []),
  (9, .bipush (-2), [0, 2], []),
  (11, .ireturn, [0], []),
  (12, .aload_n 0, [], []),
  (13, .invokevirtual 83, [0, 0, 9, 108], [874, 876, 15, 58]),
  (16, .ifCond .lt 6, [22], []),
  (19, .bipush (-5), [0, 5], []),
  (21, .ireturn, [0], []),
  (22, .aload_n 0, [], []),
  (23, .invokevirtual 87, [0, 0, 9, 111], [882, 884, 16, 58]),
  (26, .iconst 0, [0], []),
  (27, .istore_n 2, [], []),
  (28, .iload_n 2, [], []),
  (29, .aload_n 0, [], []),
  (30, .getfield 7, [0, 9], [781]),
  (33, .if_icmp .ge 41, [74], []),
  (36, .aload_n 0, [], []),
  (37, .getfield 26, [8, 9], [789]),
  (40, .iload_n 2, [], []),
  (41, .iaload, [], []),
  (42, .bipush 63, [63], []),
  (44, .if_icmp .ne 6, [50], []),
  (47, .bipush (-3), [0, 3], []),
  (49, .ireturn, [0], []),
  (50, .aload_n 0, [], []),
  (51, .getfield 29, [9, 9], [790]),
  (54, .aload_n 0, [], []),
  (55, .getfield 26, [8, 9], [789]),
  (58, .iload_n 2, [], []),
  (59, .iaload, [], []),
  (60, .bipush 48, [48], []),
  (62, .isub, [], []),
  (63, .dup2, [], []),
  (64, .iaload, [], []),
  (65, .iconst 1, [1], []),
  (66, .iadd, [], []),
  (67, .iastore, [], []),
  (68, .iinc 2 1, [1], []),
  (71, .goto (-43), [28], []),
  (74, .aload_n 0, [], []),
  (75, .aload_n 0, [], []),
  (76, .getfield 29, [9, 9], [790]),
  (79, .invokevirtual 90, [0, 1, 9, 110], [886, 888, 17, 58]),
  (82, .istore_n 2, [], []),
  (83, .iconst 0, [0], []),
  (84, .istore_n 3, [], []),
  (85, .iconst 0, [0], []),
  (86, .istore 4, [], []),
  (88, .iload 4, [], []),
  (90, .aload_n 0, [], []),
  (91, .getfield 7, [0, 9], [781]),
  (94, .if_icmp .ge 38, [132], []),
  (97, .iload_n 3, [], []),
  (98, .iload_n 2, [], []),
  (99, .ifCond .le 24, [123], []),
  (102, .aload_n 0, [], []),
  (103, .getfield 26, [8, 9], [789]),
  (106, .iload 4, [], []),
  (108, .iaload, [], []),
  (109, .bipush 48, [48], []),
  (111, .isub, [], []),
  (112, .iload_n 2, [], []),
  (113, .if_icmp .ne 10, [123], []),
  (116, .iconst 1, [1], []),
  (117, .iload 4, [], []),
  (119, .ishl, [], []),
  (120, .goto 4, [124], []),
  (123, .iconst 0, [0], []),
  (124, .ior, [], []),
  (125, .istore_n 3, [], []),
  (126, .iinc 4 1, [1], []),
  (129, .goto (-41), [88], []),
  (132, .iload_n 2, [], []),
  (133, .ifCond .lt 7, [140], []),
  (136, .iload_n 1, [], []),
  (137, .ifCond .ne 7, [144], []),
  (140, .iload_n 2, [], []),
  (141, .goto 4, [145], []),
  (144, .iload_n 3, [], []),
  (145, .ireturn, [0], [])]
def tb_X10_weight : List (Nat × rI) := [
  (0, .aload_n 0, [], []),
  (1, .iload_n 1, [], []),
  (2, .invokevirtual 94, [0, 1, 9, 103], [894, 896, 18, 58]),
  (5, .ifCond .ne 5, [10], []),
  (8, .iconst (-1), [0, 1], []),
  (9, .ireturn, [0], []),
  (10, .iload_n 2, [], []),
  (11, .iconst 0, [0], []),
  (12, .bipush 9, [9], []),
  (14, .invokestatic 70, [0, 100, 3, 0, 0], [778, 779, 58]),
  (17, .ifCond .eq 25, [42], []),
  (20, .aload_n 0, [], []),
  (21, .invokevirtual 98, [0, 0, 9, 114], [898, 900, 19, 58]),
  (24, .aload_n 0, [], []),
  (25, .getfield 16, [3, 9], [784]),
  (28, .iload_n 1, [], []),
  (29, .iaload, [], []),
  (30, .isub, [], []),
  (31, .iload_n 2, [], []),
  (32, .iadd, [], []),
  (33, .iconst 1, [1], []),
  (34, .bipush 12, [12], []),
  (36, .invokestatic 70, [0, 100, 3, 0, 0], [778, 779, 58]),
  (39, .ifCond .ne 6, [45], []),
  (42, .bipush (-2), [0, 2], []),
  (44, .ireturn, [0], []),
  (45, .aload_n 0, [], []),
  (46, .getfield 16, [3, 9], [784]),
  (49, .iload_n 1, [], []),
  (50, .iaload, [], []),
  (51, .istore_n 3, [], []),
  (52, .aload_n 0, [], []),
  (53, .getfield 16, [3, 9], [784]),
  (56, .iload_n 1, [], []),
  (57, .iload_n 2, [], []),
  (58, .iastore, [], []),
  (59, .iload_n 3, [], []),
  (60, .ireturn, [0], [])]
def tb_X10_allWeights : List (Nat × rI) := [
  (0, .iconst 0, [0], []),
  (1, .istore_n 1, [], []),
  (2, .iconst 1, [1], []),
  (3, .istore_n 2, [], []),
  (4, .iload_n 2, [], []),
  (5, .bipush 7, [7], []),
  (7, .if_icmp .ge 18, [25], []),
  (10, .iload_n 1, [], []),
  (11, .aload_n 0, [], []),
  (12, .getfield 16, [3, 9], [784]),
  (15, .iload_n 2, [], []),
  (16, .iaload, [], []),
  (17, .iadd, [], []),
  (18, .istore_n 1, [], []),
  (19, .iinc 2 1, [1], []),
  (22, .goto (-18), [4], []),
  (25, .iload_n 1, [], []),
  (26, .ireturn, [0], [])]
def tb_X10_fool : List (Nat × rI) := [
  (0, .aload_n 0, [], []),
  (1, .iload_n 1, [], []),
  (2, .invokevirtual 101, [0, 1, 9, 102], [906, 908, 20, 58]),
  (5, .ifCond .eq 15, [20], []),
  (8, .iload_n 2, [], []),
  (9, .ifCond .eq 13, [22], []),
  (12, .aload_n 0, [], []),
  (13, .iload_n 2, [], []),
  (14, .invokevirtual 94, [0, 1, 9, 103], [894, 896, 18, 58]),
  (17, .ifCond .ne 5, [22], []),
  (20, .iconst (-1), [0, 1], []),
  (21, .ireturn, [0], []),
  (22, .aload_n 0, [], []),
  (23, .getfield 20, [4, 9], [785]),
  (26, .iload_n 1, [], []),
  (27, .iaload, [], []),
  (28, .istore_n 3, [], []),
  (29, .aload_n 0, [], []),
  (30, .getfield 20, [4, 9], [785]),
  (33, .iload_n 1, [], []),
  (34, .iload_n 2, [], []),
  (35, .iastore, [], []),
  (36, .iload_n 3, [], []),
  (37, .ireturn, [0], [])]
def tb_X10_asWeights : List (Nat × rI) := [
  (0, .iconst 0, [0], []),
  (1, .istore_n 1, [], []),
  (2, .iload_n 1, [], []),
  (3, .bipush 7, [7], []),
  (5, .if_icmp .ge 21, [26], []),
  (8, .aload_n 0, [], []),
  (9, .getfield 38, [13, 9], [794]),
  (12, .iload_n 1, [], []),
  (13, .aload_n 0, [], []),
  (14, .getfield 16, [3, 9], [784]),
  (17, .iload_n 1, [], []),
  (18, .iaload, [], []),
  (19, .iastore, [], []),
  (20, .iinc 1 1, [1], []),
  (23, .goto (-21), [2], []),
  (26, .return_, [3], [])]
def tb_X10_power : List (Nat × rI) := [
  (0, .lconst 1, [1], []),
  (1, .lstore_n 3, [], []),
  (2, .iconst 0, [0], []),
  (3, .istore 5, [], []),
  (5, .iload 5, [], []),
  (7, .iload_n 2, [], []),
  (8, .if_icmp .ge 13, [21], []),
  (11, .lload_n 3, [], []),
  (12, .lload_n 0, [], []),
  (13, .lmul, [], []),
  (14, .lstore_n 3, [], []),
  (15, .iinc 5 1, [1], []),
  (18, .goto (-13), [5], []),
  (21, .lload_n 3, [], []),
  (22, .lreturn, [2], [])]
def tb_X10_choose : List (Nat × rI) := [
  (0, .iconst 1, [1], []),
  (1, .istore_n 2, [], []),
  (2, .iconst 0, [0], []),
  (3, .istore_n 3, [], []),
  (4, .iload_n 3, [], []),
  (5, .iload_n 1, [], []),
  (6, .if_icmp .ge 19, [25], []),
  (9, .iload_n 2, [], []),
  (10, .iload_n 0, [], []),
  (11, .iload_n 3, [], []),
  (12, .isub, [], []),
  (13, .imul, [], []),
  (14, .iload_n 3, [], []),
  (15, .iconst 1, [1], []),
  (16, .iadd, [], []),
  (17, .idiv, [], []),
  (18, .istore_n 2, [], []),
  (19, .iinc 3 1, [1], []),
  (22, .goto (-18), [4], []),
  (25, .iload_n 2, [], []),
  (26, .ireturn, [0], [])]
def tb_X10_beginFill : List (Nat × rI) := [
  (0, .iconst 0, [0], []),
  (1, .istore_n 1, [], []),
  (2, .iload_n 1, [], []),
  (3, .bipush 7, [7], []),
  (5, .if_icmp .ge 28, [33], []),
  (8, .aload_n 0, [], []),
  (9, .getfield 35, [12, 9], [793]),
  (12, .iload_n 1, [], []),
  (13, .iload_n 1, [], []),
  (14, .iconst 1, [1], []),
  (15, .if_icmp .ne 10, [25], []),
  (18, .aload_n 0, [], []),
  (19, .getfield 104, [11, 9], [792]),
  (22, .goto 4, [26], []),
  (25, .iconst 0, [0], []),
  (26, .iastore, [], []),
  (27, .iinc 1 1, [1], []),
  (30, .goto (-28), [2], []),
  (33, .return_, [3], [])]
def tb_X10_nextFill : List (Nat × rI) := [
  (0, .aload_n 0, [], []),
  (1, .getfield 13, [1, 9], [782]),
  (4, .iconst 1, [1], []),
  (5, .isub, [], []),
  (6, .istore_n 1, [], []),
  (7, .iload_n 1, [], []),
  (8, .ifCond .le 18, [26], []),
  (11, .aload_n 0, [], []),
  (12, .getfield 35, [12, 9], [793]),
  (15, .iload_n 1, [], []),
  (16, .iaload, [], []),
  (17, .ifCond .ne 9, [26], []),
  (20, .iinc 1 (-1), [0, 1], []),
  (23, .goto (-16), [7], []),
  (26, .iload_n 1, [], []),
  (27, .ifCond .ne 5, [32], []),
  (30, .iconst 0, [0], []),
  (31, .ireturn, [1], []),
  (32, .aload_n 0, [], []),
  (33, .getfield 35, [12, 9], [793]),
  (36, .aload_n 0, [], []),
  (37, .getfield 13, [1, 9], [782]),
  (40, .iaload, [], []),
  (41, .istore_n 2, [], []),
  (42, .aload_n 0, [], []),
  (43, .getfield 35, [12, 9], [793]),
  (46, .aload_n 0, [], []),
  (47, .getfield 13, [1, 9], [782]),
  (50, .iconst 0, [0], []),
  (51, .iastore, [], []),
  (52, .aload_n 0, [], []),
  (53, .getfield 35, [12, 9], [793]),
  (56, .iload_n 1, [], []),
  (57, .dup2, [], []),
  (58, .iaload, [], []),
  (59, .iconst 1, [1], []),
  (60, .isub, [], []),
  (61, .iastore, [], []),
  (62, .aload_n 0, [], []),
  (63, .getfield 35, [12, 9], [793]),
  (66, .iload_n 1, [], []),
  (67, .iconst 1, [1], []),
  (68, .iadd, [], []),
  (69, .iload_n 2, [], []),
  (70, .iconst 1, [1], []),
  (71, .iadd, [], []),
  (72, .iastore, [], []),
  (73, .iconst 1, [1], []),
  (74, .ireturn, [1], [])]
def tb_X10_waysOfFill : List (Nat × rI) := [
  (0, .lconst 1, [1], []),
  (1, .lstore_n 1, [], []),
  (2, .aload_n 0, [], []),
  (3, .getfield 104, [11, 9], [792]),
  (6, .istore_n 3, [], []),
  (7, .iconst 1, [1], []),
  (8, .istore 4, [], []),
  (10, .iload 4, [], []),
  (12, .aload_n 0, [], []),
  (13, .getfield 13, [1, 9], [782]),
  (16, .if_icmp .gt 53, [69], []),
  (19, .lload_n 1, [], []),
  (20, .iload_n 3, [], []),
  (21, .aload_n 0, [], []),
  (22, .getfield 35, [12, 9], [793]),
  (25, .iload 4, [], []),
  (27, .iaload, [], []),
  (28, .invokestatic 107, [0, 118, 2, 0, 0], [945, 946, 58]),
  (31, .i2l, [], []),
  (32, .aload_n 0, [], []),
  (33, .getfield 38, [13, 9], [794]),
  (36, .iload 4, [], []),
  (38, .iaload, [], []),
  (39, .i2l, [], []),
  (40, .aload_n 0, [], []),
  (41, .getfield 35, [12, 9], [793]),
  (44, .iload 4, [], []),
  (46, .iaload, [], []),
  (47, .invokestatic 111, [0, 117, 2, 0, 0], [948, 949, 58]),
  (50, .lmul, [], []),
  (51, .lmul, [], []),
  (52, .lstore_n 1, [], []),
  (53, .iload_n 3, [], []),
  (54, .aload_n 0, [], []),
  (55, .getfield 35, [12, 9], [793]),
  (58, .iload 4, [], []),
  (60, .iaload, [], []),
  (61, .isub, [], []),
  (62, .istore_n 3, [], []),
  (63, .iinc 4 1, [1], []),
  (66, .goto (-56), [10], []),
  (69, .lload_n 1, [], []),
  (70, .lreturn, [2], [])]
def tb_X10_both : List (Nat × rI) := [
  (0, .iconst 0, [0], []),
  (1, .istore_n 1, [], []),
  (2, .iload_n 1, [], []),
  (3, .bipush 7, [7], []),
  (5, .if_icmp .ge 28, [33], []),
  (8, .aload_n 0, [], []),
  (9, .getfield 29, [9, 9], [790]),
  (12, .iload_n 1, [], []),
  (13, .aload_n 0, [], []),
  (14, .getfield 32, [10, 9], [791]),
  (17, .iload_n 1, [], []),
  (18, .iaload, [], []),
  (19, .aload_n 0, [], []),
  (20, .getfield 35, [12, 9], [793]),
  (23, .iload_n 1, [], []),
  (24, .iaload, [], []),
  (25, .iadd, [], []),
  (26, .iastore, [], []),
  (27, .iinc 1 1, [1], []),
  (30, .goto (-28), [2], []),
  (33, .return_, [3], [])]
def tb_X10_waysToWin : List (Nat × rI) := [
  (0, .lconst 0, [0], []),
  (1, .lstore_n 2, [], []),
  (2, .aload_n 0, [], []),
  (3, .invokevirtual 115, [0, 0, 9, 119], [932, 934, 25, 58]),
  (6, .iconst 1, [1], []),
  (7, .istore 4, [], []),
  (9, .iload 4, [], []),
  (11, .ifCond .eq 51, [62], []),
  (14, .aload_n 0, [], []),
  (15, .invokevirtual 118, [0, 0, 9, 122], [936, 938, 26, 58]),
  (18, .aload_n 0, [], []),
  (19, .aload_n 0, [], []),
  (20, .getfield 29, [9, 9], [790]),
  (23, .invokevirtual 90, [0, 1, 9, 110], [886, 888, 17, 58]),
  (26, .iload_n 1, [], []),
  (27, .if_icmp .ne 26, [53], []),
  (30, .lload_n 2, [], []),
  (31, .aload_n 0, [], []),
  (32, .getfield 77, [2, 9], [783]),
  (35, .iconst 3, [3], []),
  (36, .if_icmp .ne 7, [43], []),
  (39, .lconst 1, [1], []),
  (40, .goto 6, [46], []),
  (43, .ldc2_w 121, [2], [940]),
  (46, .aload_n 0, [], []),
  (47, .invokevirtual 123, [0, 0, 9, 121], [941, 943, 27, 58]),
  (50, .lmul, [], []),
  (51, .ladd, [], []),
  (52, .lstore_n 2, [], []),
  (53, .aload_n 0, [], []),
  (54, .invokevirtual 127, [0, 0, 9, 120], [951, 953, 28, 58]),
  (57, .istore 4, [], []),
  (59, .goto (-50), [9], []),
  (62, .lload_n 2, [], []),
  (63, .lreturn, [2], [])]
def tb_X10_sumOfWeights : List (Nat × rI) := [
  (0, .iconst 0, [0], []),
  (1, .istore_n 1, [], []),
  (2, .iconst 1, [1], []),
  (3, .istore_n 2, [], []),
  (4, .iload_n 2, [], []),
  (5, .aload_n 0, [], []),
  (6, .getfield 13, [1, 9], [782]),
  (9, .if_icmp .gt 18, [27], []),
  (12, .iload_n 1, [], []),
  (13, .aload_n 0, [], []),
  (14, .getfield 38, [13, 9], [794]),
  (17, .iload_n 2, [], []),
  (18, .iaload, [], []),
  (19, .iadd, [], []),
  (20, .istore_n 1, [], []),
  (21, .iinc 2 1, [1], []),
  (24, .goto (-20), [4], []),
  (27, .iload_n 1, [], []),
  (28, .ireturn, [0], [])]
def tb_X10_lowOf : List (Nat × rI) := [
  (0, .ldc2_w 121, [2], [940]),
  (3, .aload_n 0, [], []),
  (4, .invokevirtual 131, [0, 0, 9, 124], [959, 961, 30, 58]),
  (7, .i2l, [], []),
  (8, .aload_n 0, [], []),
  (9, .getfield 104, [11, 9], [792]),
  (12, .invokestatic 111, [0, 117, 2, 0, 0], [948, 949, 58]),
  (15, .lmul, [], []),
  (16, .lreturn, [2], [])]
def tb_X10_layOthers : List (Nat × rI) := [
  (0, .aload_n 0, [], []),
  (1, .iconst 0, [0], []),
  (2, .putfield 104, [11, 0, 0, 9], [792]),
  (5, .iconst 0, [0], []),
  (6, .istore_n 2, [], []),
  (7, .iload_n 2, [], []),
  (8, .bipush 7, [7], []),
  (10, .if_icmp .ge 16, [26], []),
  (13, .aload_n 0, [], []),
  (14, .getfield 32, [10, 9], [791]),
  (17, .iload_n 2, [], []),
  (18, .iconst 0, [0], []),
  (19, .iastore, [], []),
  (20, .iinc 2 1, [1], []),
  (23, .goto (-16), [7], []),
  (26, .iconst 0, [0], []),
  (27, .istore_n 2, [], []),
  (28, .iload_n 2, [], []),
  (29, .aload_n 0, [], []),
  (30, .getfield 7, [0, 9], [781]),
  (33, .if_icmp .ge 65, [98], []),
  (36, .iload_n 2, [], []),
  (37, .iload_n 1, [], []),
  (38, .if_icmp .eq 54, [92], []),
  (41, .aload_n 0, [], []),
  (42, .getfield 32, [10, 9], [791]),
  (45, .aload_n 0, [], []),
  (46, .getfield 20, [4, 9], [785]),
  (49, .iload_n 2, [], []),
  (50, .iaload, [], []),
  (51, .dup2, [], []),
  (52, .iaload, [], []),
  (53, .aload_n 0, [], []),
  (54, .getfield 20, [4, 9], [785]),
  (57, .iload_n 2, [], []),
  (58, .iaload, [], []),
  (59, .ifCond .le 7, [66], []),
  (62, .iconst 1, [1], []),
  (63, .goto 4, [67], []),
  (66, .iconst 0, [0], []),
  (67, .iadd, [], []),
  (68, .iastore, [], []),
  (69, .aload_n 0, [], []),
  (70, .dup, [], []),
  (71, .getfield 104, [11, 9], [792]),
  (74, .aload_n 0, [], []),
  (75, .getfield 20, [4, 9], [785]),
  (78, .iload_n 2, [], []),
  (79, .iaload, [], []),
  (80, .ifCond .le 7, [87], []),
  (83, .iconst 0, [0], []),
  (84, .goto 4, [88], []),
  (87, .iconst 1, [1], []),
  (88, .iadd, [], []),
  (89, .putfield 104, [11, 0, 0, 9], [792]),
  (92, .iinc 2 1, [1], []),
  (95, .goto (-67), [28], []),
  (98, .aload_n 0, [], []),
  (99, .invokevirtual 134, [0, 0, 9, 116], [920, 922, 22, 58]),
  (102, .return_, [3], [])]
def tb_X10_worthOf : List (Nat × rI) := [
  (0, .aload_n 0, [], []),
  (1, .getfield 32, [10, 9], [791]),
  (4, .iload_n 1, [], []),
  (5, .dup2, [], []),
  (6, .iaload, [], []),
  (7, .iconst 1, [1], []),
  (8, .iadd, [], []),
  (9, .iastore, [], []),
  (10, .aload_n 0, [], []),
  (11, .iload_n 1, [], []),
  (12, .invokevirtual 137, [0, 1, 9, 123], [928, 930, 24, 58]),
  (15, .lstore_n 2, [], []),
  (16, .aload_n 0, [], []),
  (17, .getfield 32, [10, 9], [791]),
  (20, .iload_n 1, [], []),
  (21, .dup2, [], []),
  (22, .iaload, [], []),
  (23, .iconst 1, [1], []),
  (24, .isub, [], []),
  (25, .iastore, [], []),
  (26, .lload_n 2, [], []),
  (27, .lreturn, [2], [])]
def tb_X10_term : List (Nat × rI) := [
  (0, .lload_n 0, [], []),
  (1, .lstore 5, [], []),
  (3, .lload_n 2, [], []),
  (4, .lstore 7, [], []),
  (6, .lload 7, [], []),
  (8, .lconst 0, [0], []),
  (9, .lcmp, [], []),
  (10, .ifCond .eq 21, [31], []),
  (13, .lload 5, [], []),
  (15, .lload 7, [], []),
  (17, .lrem, [], []),
  (18, .lstore 9, [], []),
  (20, .lload 7, [], []),
  (22, .lstore 5, [], []),
  (24, .lload 9, [], []),
  (26, .lstore 7, [], []),
  (28, .goto (-22), [6], []),
  (31, .iload 4, [], []),
  (33, .ifCond .ne 10, [43], []),
  (36, .lload_n 0, [], []),
  (37, .lload 5, [], []),
  (39, .ldiv, [], []),
  (40, .goto 7, [47], []),
  (43, .lload_n 2, [], []),
  (44, .lload 5, [], []),
  (46, .ldiv, [], []),
  (47, .lreturn, [2], [])]
def tb_X10_worth : List (Nat × rI) := [
  (0, .aload_n 0, [], []),
  (1, .iload_n 1, [], []),
  (2, .invokevirtual 101, [0, 1, 9, 102], [906, 908, 20, 58]),
  (5, .ifCond .eq 11, [16], []),
  (8, .aload_n 0, [], []),
  (9, .iload_n 2, [], []),
  (10, .invokevirtual 94, [0, 1, 9, 103], [894, 896, 18, 58]),
  (13, .ifCond .ne 7, [20], []),
  (16, .ldc2_w 141, [0, 1000000000000000001], [914]),
  (19, .lreturn, [2], []),
  (20, .iload_n 3, [], []),
  (21, .iconst 0, [0], []),
  (22, .iconst 1, [1], []),
  (23, .invokestatic 70, [0, 100, 3, 0, 0], [778, 779, 58]),
  (26, .ifCond .ne 7, [33], []),
  (29, .ldc2_w 143, [0, 1000000000000000002], [915]),
  (32, .lreturn, [2], []),
  (33, .aload_n 0, [], []),
  (34, .iload_n 1, [], []),
  (35, .invokevirtual 145, [0, 1, 9, 126], [916, 918, 21, 58]),
  (38, .aload_n 0, [], []),
  (39, .iload_n 2, [], []),
  (40, .invokevirtual 149, [0, 1, 9, 127], [924, 926, 23, 58]),
  (43, .aload_n 0, [], []),
  (44, .invokevirtual 152, [0, 0, 9, 125], [955, 957, 29, 58]),
  (47, .iload_n 3, [], []),
  (48, .invokestatic 155, [0, 128, 3, 0, 0], [963, 964, 58]),
  (51, .lreturn, [2], [])]
def tb_X10_bestOf : List (Nat × rI) := [
  (0, .iconst 1, [1], []),
  (1, .istore_n 1, [], []),
  (2, .aload_n 0, [], []),
  (3, .iconst 1, [1], []),
  (4, .invokevirtual 149, [0, 1, 9, 127], [924, 926, 23, 58]),
  (7, .lstore_n 2, [], []),
  (8, .iconst 2, [2], []),
  (9, .istore 4, [], []),
  (11, .iload 4, [], []),
  (13, .aload_n 0, [], []),
  (14, .getfield 13, [1, 9], [782]),
  (17, .if_icmp .gt 30, [47], []),
  (20, .aload_n 0, [], []),
  (21, .iload 4, [], []),
  (23, .invokevirtual 149, [0, 1, 9, 127], [924, 926, 23, 58]),
  (26, .lstore 5, [], []),
  (28, .lload 5, [], []),
  (30, .lload_n 2, [], []),
  (31, .lcmp, [], []),
  (32, .ifCond .le 9, [41], []),
  (35, .lload 5, [], []),
  (37, .lstore_n 2, [], []),
  (38, .iload 4, [], []),
  (40, .istore_n 1, [], []),
  (41, .iinc 4 1, [1], []),
  (44, .goto (-33), [11], []),
  (47, .iload_n 1, [], []),
  (48, .ireturn, [0], [])]
def tb_X10_best : List (Nat × rI) := [
  (0, .aload_n 0, [], []),
  (1, .iload_n 1, [], []),
  (2, .invokevirtual 101, [0, 1, 9, 102], [906, 908, 20, 58]),
  (5, .ifCond .ne 5, [10], []),
  (8, .iconst (-1), [0, 1], []),
  (9, .ireturn, [0], []),
  (10, .aload_n 0, [], []),
  (11, .iload_n 1, [], []),
  (12, .invokevirtual 145, [0, 1, 9, 126], [916, 918, 21, 58]),
  (15, .aload_n 0, [], []),
  (16, .invokevirtual 159, [0, 0, 9, 130], [970, 972, 31, 58]),
  (19, .ireturn, [0], [])]
def tb_X10_meanOf : List (Nat × rI) := [
  (0, .lconst 0, [0], []),
  (1, .lstore_n 1, [], []),
  (2, .iconst 1, [1], []),
  (3, .istore_n 3, [], []),
  (4, .iload_n 3, [], []),
  (5, .aload_n 0, [], []),
  (6, .getfield 13, [1, 9], [782]),
  (9, .if_icmp .gt 25, [34], []),
  (12, .lload_n 1, [], []),
  (13, .aload_n 0, [], []),
  (14, .getfield 38, [13, 9], [794]),
  (17, .iload_n 3, [], []),
  (18, .iaload, [], []),
  (19, .i2l, [], []),
  (20, .aload_n 0, [], []),
  (21, .iload_n 3, [], []),
  (22, .invokevirtual 149, [0, 1, 9, 127], [924, 926, 23, 58]),
  (25, .lmul, [], []),
  (26, .ladd, [], []),
  (27, .lstore_n 1, [], []),
  (28, .iinc 3 1, [1], []),
  (31, .goto (-27), [4], []),
  (34, .lload_n 1, [], []),
  (35, .lreturn, [2], [])]
def tb_X10_gapOf : List (Nat × rI) := [
  (0, .aload_n 0, [], []),
  (1, .invokevirtual 131, [0, 0, 9, 124], [959, 961, 30, 58]),
  (4, .i2l, [], []),
  (5, .aload_n 0, [], []),
  (6, .aload_n 0, [], []),
  (7, .invokevirtual 159, [0, 0, 9, 130], [970, 972, 31, 58]),
  (10, .invokevirtual 149, [0, 1, 9, 127], [924, 926, 23, 58]),
  (13, .lmul, [], []),
  (14, .aload_n 0, [], []),
  (15, .invokevirtual 162, [0, 0, 9, 132], [978, 980, 32, 58]),
  (18, .lsub, [], []),
  (19, .lreturn, [2], [])]
def tb_X10_mean : List (Nat × rI) := [
  (0, .aload_n 0, [], []),
  (1, .iload_n 1, [], []),
  (2, .invokevirtual 101, [0, 1, 9, 102], [906, 908, 20, 58]),
  (5, .ifCond .ne 7, [12], []),
  (8, .ldc2_w 141, [0, 1000000000000000001], [914]),
  (11, .lreturn, [2], []),
  (12, .iload_n 2, [], []),
  (13, .iconst 0, [0], []),
  (14, .iconst 1, [1], []),
  (15, .invokestatic 70, [0, 100, 3, 0, 0], [778, 779, 58]),
  (18, .ifCond .eq 12, [30], []),
  (21, .iload_n 3, [], []),
  (22, .iconst 0, [0], []),
  (23, .iconst 1, [1], []),
  (24, .invokestatic 70, [0, 100, 3, 0, 0], [778, 779, 58]),
  (27, .ifCond .ne 7, [34], []),
  (30, .ldc2_w 143, [0, 1000000000000000002], [915]),
  (33, .lreturn, [2], []),
  (34, .aload_n 0, [], []),
  (35, .iload_n 1, [], []),
  (36, .invokevirtual 145, [0, 1, 9, 126], [916, 918, 21, 58]),
  (39, .iload_n 2, [], []),
  (40, .ifCond .ne 10, [50], []),
  (43, .aload_n 0, [], []),
  (44, .invokevirtual 162, [0, 0, 9, 132], [978, 980, 32, 58]),
  (47, .goto 7, [54], []),
  (50, .aload_n 0, [], []),
  (51, .invokevirtual 165, [0, 0, 9, 133], [982, 984, 33, 58]),
  (54, .aload_n 0, [], []),
  (55, .invokevirtual 152, [0, 0, 9, 125], [955, 957, 29, 58]),
  (58, .aload_n 0, [], []),
  (59, .invokevirtual 131, [0, 0, 9, 124], [959, 961, 30, 58]),
  (62, .i2l, [], []),
  (63, .lmul, [], []),
  (64, .iload_n 3, [], []),
  (65, .invokestatic 155, [0, 128, 3, 0, 0], [963, 964, 58]),
  (68, .lreturn, [2], [])]
def tb_X10_waysOfNobody : List (Nat × rI) := [
  (0, .lconst 0, [0], []),
  (1, .lstore_n 1, [], []),
  (2, .aload_n 0, [], []),
  (3, .bipush (-6), [0, 6], []),
  (5, .invokevirtual 145, [0, 1, 9, 126], [916, 918, 21, 58]),
  (8, .aload_n 0, [], []),
  (9, .invokevirtual 115, [0, 0, 9, 119], [932, 934, 25, 58]),
  (12, .iconst 1, [1], []),
  (13, .istore_n 3, [], []),
  (14, .iload_n 3, [], []),
  (15, .ifCond .eq 37, [52], []),
  (18, .aload_n 0, [], []),
  (19, .invokevirtual 118, [0, 0, 9, 122], [936, 938, 26, 58]),
  (22, .lload_n 1, [], []),
  (23, .aload_n 0, [], []),
  (24, .aload_n 0, [], []),
  (25, .getfield 29, [9, 9], [790]),
  (28, .invokevirtual 90, [0, 1, 9, 110], [886, 888, 17, 58]),
  (31, .ifCond .ge 10, [41], []),
  (34, .aload_n 0, [], []),
  (35, .invokevirtual 123, [0, 0, 9, 121], [941, 943, 27, 58]),
  (38, .goto 4, [42], []),
  (41, .lconst 0, [0], []),
  (42, .ladd, [], []),
  (43, .lstore_n 1, [], []),
  (44, .aload_n 0, [], []),
  (45, .invokevirtual 127, [0, 0, 9, 120], [951, 953, 28, 58]),
  (48, .istore_n 3, [], []),
  (49, .goto (-35), [14], []),
  (52, .lload_n 1, [], []),
  (53, .lreturn, [2], [])]
def tb_X10_nobody : List (Nat × rI) := [
  (0, .iload_n 1, [], []),
  (1, .iconst 0, [0], []),
  (2, .iconst 1, [1], []),
  (3, .invokestatic 70, [0, 100, 3, 0, 0], [778, 779, 58]),
  (6, .ifCond .ne 7, [13], []),
  (9, .ldc2_w 143, [0, 1000000000000000002], [915]),
  (12, .lreturn, [2], []),
  (13, .aload_n 0, [], []),
  (14, .invokevirtual 168, [0, 0, 9, 135], [990, 992, 34, 58]),
  (17, .lstore_n 2, [], []),
  (18, .lload_n 2, [], []),
  (19, .aload_n 0, [], []),
  (20, .invokevirtual 152, [0, 0, 9, 125], [955, 957, 29, 58]),
  (23, .ldc2_w 121, [2], [940]),
  (26, .ldiv, [], []),
  (27, .iload_n 1, [], []),
  (28, .invokestatic 155, [0, 128, 3, 0, 0], [963, 964, 58]),
  (31, .lreturn, [2], [])]
def tb_X10_layRest : List (Nat × rI) := [
  (0, .iconst 0, [0], []),
  (1, .istore_n 2, [], []),
  (2, .iload_n 2, [], []),
  (3, .bipush 7, [7], []),
  (5, .if_icmp .ge 35, [40], []),
  (8, .aload_n 0, [], []),
  (9, .getfield 32, [10, 9], [791]),
  (12, .iload_n 2, [], []),
  (13, .iconst 0, [0], []),
  (14, .iastore, [], []),
  (15, .aload_n 0, [], []),
  (16, .getfield 38, [13, 9], [794]),
  (19, .iload_n 2, [], []),
  (20, .iload_n 2, [], []),
  (21, .aload_n 0, [], []),
  (22, .getfield 13, [1, 9], [782]),
  (25, .if_icmp .ne 7, [32], []),
  (28, .iload_n 1, [], []),
  (29, .goto 4, [33], []),
  (32, .iconst 0, [0], []),
  (33, .iastore, [], []),
  (34, .iinc 2 1, [1], []),
  (37, .goto (-35), [2], []),
  (40, .aload_n 0, [], []),
  (41, .aload_n 0, [], []),
  (42, .getfield 7, [0, 9], [781]),
  (45, .iconst 1, [1], []),
  (46, .isub, [], []),
  (47, .putfield 104, [11, 0, 0, 9], [792]),
  (50, .aload_n 0, [], []),
  (51, .ldc2_w 171, [0, 1], [1002]),
  (54, .putfield 173, [15, 0, 1, 9], [796]),
  (57, .iconst 1, [1], []),
  (58, .istore_n 2, [], []),
  (59, .iload_n 2, [], []),
  (60, .ifCond .eq 69, [129], []),
  (63, .aload_n 0, [], []),
  (64, .invokevirtual 165, [0, 0, 9, 133], [982, 984, 33, 58]),
  (67, .lstore_n 3, [], []),
  (68, .aload_n 0, [], []),
  (69, .getfield 173, [15, 9], [796]),
  (72, .lconst 0, [0], []),
  (73, .lcmp, [], []),
  (74, .ifCond .lt 12, [86], []),
  (77, .lload_n 3, [], []),
  (78, .aload_n 0, [], []),
  (79, .getfield 173, [15, 9], [796]),
  (82, .lcmp, [], []),
  (83, .ifCond .ge 38, [121], []),
  (86, .aload_n 0, [], []),
  (87, .lload_n 3, [], []),
  (88, .putfield 173, [15, 0, 1, 9], [796]),
  (91, .iconst 0, [0], []),
  (92, .istore 5, [], []),
  (94, .iload 5, [], []),
  (96, .bipush 7, [7], []),
  (98, .if_icmp .ge 23, [121], []),
  (101, .aload_n 0, [], []),
  (102, .getfield 41, [14, 9], [795]),
  (105, .iload 5, [], []),
  (107, .aload_n 0, [], []),
  (108, .getfield 38, [13, 9], [794]),
  (111, .iload 5, [], []),
  (113, .iaload, [], []),
  (114, .iastore, [], []),
  (115, .iinc 5 1, [1], []),
  (118, .goto (-24), [94], []),
  (121, .aload_n 0, [], []),
  (122, .invokevirtual 177, [0, 0, 9, 138], [1003, 1005, 36, 58]),
  (125, .istore_n 2, [], []),
  (126, .goto (-67), [59], []),
  (129, .return_, [3], [])]
def tb_X10_nextWeights : List (Nat × rI) := [
  (0, .aload_n 0, [], []),
  (1, .getfield 13, [1, 9], [782]),
  (4, .istore_n 1, [], []),
  (5, .iload_n 1, [], []),
  (6, .ifCond .le 18, [24], []),
  (9, .aload_n 0, [], []),
  (10, .getfield 38, [13, 9], [794]),
  (13, .iload_n 1, [], []),
  (14, .iaload, [], []),
  (15, .ifCond .ne 9, [24], []),
  (18, .iinc 1 (-1), [0, 1], []),
  (21, .goto (-16), [5], []),
  (24, .iload_n 1, [], []),
  (25, .iconst 2, [2], []),
  (26, .if_icmp .ge 5, [31], []),
  (29, .iconst 0, [0], []),
  (30, .ireturn, [1], []),
  (31, .aload_n 0, [], []),
  (32, .getfield 38, [13, 9], [794]),
  (35, .iload_n 1, [], []),
  (36, .iaload, [], []),
  (37, .istore_n 2, [], []),
  (38, .aload_n 0, [], []),
  (39, .getfield 38, [13, 9], [794]),
  (42, .iload_n 1, [], []),
  (43, .iconst 0, [0], []),
  (44, .iastore, [], []),
  (45, .aload_n 0, [], []),
  (46, .getfield 38, [13, 9], [794]),
  (49, .iload_n 1, [], []),
  (50, .iconst 1, [1], []),
  (51, .isub, [], []),
  (52, .dup2, [], []),
  (53, .iaload, [], []),
  (54, .iconst 1, [1], []),
  (55, .iadd, [], []),
  (56, .iastore, [], []),
  (57, .aload_n 0, [], []),
  (58, .getfield 38, [13, 9], [794]),
  (61, .aload_n 0, [], []),
  (62, .getfield 13, [1, 9], [782]),
  (65, .iload_n 2, [], []),
  (66, .iconst 1, [1], []),
  (67, .isub, [], []),
  (68, .iastore, [], []),
  (69, .iconst 1, [1], []),
  (70, .ireturn, [1], [])]
def tb_X10_rest : List (Nat × rI) := [
  (0, .aload_n 0, [], []),
  (1, .iload_n 2, [], []),
  (2, .invokevirtual 94, [0, 1, 9, 103], [894, 896, 18, 58]),
  (5, .ifCond .ne 5, [10], []),
  (8, .iconst (-1), [0, 1], []),
  (9, .ireturn, [0], []),
  (10, .iload_n 1, [], []),
  (11, .iconst 1, [1], []),
  (12, .bipush 8, [8], []),
  (14, .invokestatic 70, [0, 100, 3, 0, 0], [778, 779, 58]),
  (17, .ifCond .ne 6, [23], []),
  (20, .bipush (-2), [0, 2], []),
  (22, .ireturn, [0], []),
  (23, .aload_n 0, [], []),
  (24, .iload_n 1, [], []),
  (25, .invokevirtual 180, [0, 1, 9, 137], [998, 1000, 35, 58]),
  (28, .aload_n 0, [], []),
  (29, .getfield 41, [14, 9], [795]),
  (32, .iload_n 2, [], []),
  (33, .iaload, [], []),
  (34, .ireturn, [0], [])]
def tb_X10_gap : List (Nat × rI) := [
  (0, .iload_n 1, [], []),
  (1, .iconst 1, [1], []),
  (2, .bipush 8, [8], []),
  (4, .invokestatic 70, [0, 100, 3, 0, 0], [778, 779, 58]),
  (7, .ifCond .eq 12, [19], []),
  (10, .iload_n 2, [], []),
  (11, .iconst 0, [0], []),
  (12, .iconst 1, [1], []),
  (13, .invokestatic 70, [0, 100, 3, 0, 0], [778, 779, 58]),
  (16, .ifCond .ne 7, [23], []),
  (19, .ldc2_w 143, [0, 1000000000000000002], [915]),
  (22, .lreturn, [2], []),
  (23, .aload_n 0, [], []),
  (24, .iload_n 1, [], []),
  (25, .invokevirtual 180, [0, 1, 9, 137], [998, 1000, 35, 58]),
  (28, .aload_n 0, [], []),
  (29, .getfield 173, [15, 9], [796]),
  (32, .ldc2_w 121, [2], [940]),
  (35, .iload_n 1, [], []),
  (36, .i2l, [], []),
  (37, .aload_n 0, [], []),
  (38, .getfield 7, [0, 9], [781]),
  (41, .invokestatic 111, [0, 117, 2, 0, 0], [948, 949, 58]),
  (44, .lmul, [], []),
  (45, .iload_n 2, [], []),
  (46, .invokestatic 155, [0, 128, 3, 0, 0], [963, 964, 58]),
  (49, .lreturn, [2], [])]
def tb_X10_waysOfSet : List (Nat × rI) := [
  (0, .lconst 0, [0], []),
  (1, .lstore_n 2, [], []),
  (2, .aload_n 0, [], []),
  (3, .invokevirtual 115, [0, 0, 9, 119], [932, 934, 25, 58]),
  (6, .iconst 1, [1], []),
  (7, .istore 4, [], []),
  (9, .iload 4, [], []),
  (11, .ifCond .eq 109, [120], []),
  (14, .aload_n 0, [], []),
  (15, .invokevirtual 118, [0, 0, 9, 122], [936, 938, 26, 58]),
  (18, .aload_n 0, [], []),
  (19, .aload_n 0, [], []),
  (20, .getfield 29, [9, 9], [790]),
  (23, .invokevirtual 90, [0, 1, 9, 110], [886, 888, 17, 58]),
  (26, .istore 5, [], []),
  (28, .iconst 0, [0], []),
  (29, .istore 6, [], []),
  (31, .iconst 0, [0], []),
  (32, .istore 7, [], []),
  (34, .iload 7, [], []),
  (36, .aload_n 0, [], []),
  (37, .getfield 7, [0, 9], [781]),
  (40, .if_icmp .ge 45, [85], []),
  (43, .iload 6, [], []),
  (45, .iload 5, [], []),
  (47, .ifCond .le 28, [75], []),
  (50, .iload_n 1, [], []),
  (51, .iload 7, [], []),
  (53, .invokestatic 183, [0, 101, 2, 0, 0], [1019, 1020, 58]),
  (56, .ifCond .eq 19, [75], []),
  (59, .aload_n 0, [], []),
  (60, .getfield 44, [16, 9], [797]),
  (63, .iload 7, [], []),
  (65, .iaload, [], []),
  (66, .iload 5, [], []),
  (68, .if_icmp .ne 7, [75], []),
  (71, .iconst 1, [1], []),
  (72, .goto 4, [76], []),
  (75, .iconst 0, [0], []),
  (76, .iadd, [], []),
  (77, .istore 6, [], []),
  (79, .iinc 7 1, [1], []),
  (82, .goto (-48), [34], []),
  (85, .lload_n 2, [], []),
  (86, .aload_n 0, [], []),
  (87, .getfield 77, [2, 9], [783]),
  (90, .iconst 3, [3], []),
  (91, .if_icmp .ne 8, [99], []),
  (94, .iload 6, [], []),
  (96, .goto 7, [103], []),
  (99, .iconst 2, [2], []),
  (100, .iload 6, [], []),
  (102, .imul, [], []),
  (103, .i2l, [], []),
  (104, .aload_n 0, [], []),
  (105, .invokevirtual 123, [0, 0, 9, 121], [941, 943, 27, 58]),
  (108, .lmul, [], []),
  (109, .ladd, [], []),
  (110, .lstore_n 2, [], []),
  (111, .aload_n 0, [], []),
  (112, .invokevirtual 127, [0, 0, 9, 120], [951, 953, 28, 58]),
  (115, .istore 4, [], []),
  (117, .goto (-108), [9], []),
  (120, .lload_n 2, [], []),
  (121, .lreturn, [2], [])]
def tb_X10_layAgreed : List (Nat × rI) := [
  (0, .iload_n 2, [], []),
  (1, .istore_n 3, [], []),
  (2, .iconst 0, [0], []),
  (3, .istore 4, [], []),
  (5, .iload 4, [], []),
  (7, .bipush 7, [7], []),
  (9, .if_icmp .ge 17, [26], []),
  (12, .aload_n 0, [], []),
  (13, .getfield 32, [10, 9], [791]),
  (16, .iload 4, [], []),
  (18, .iconst 0, [0], []),
  (19, .iastore, [], []),
  (20, .iinc 4 1, [1], []),
  (23, .goto (-18), [5], []),
  (26, .aload_n 0, [], []),
  (27, .getfield 7, [0, 9], [781]),
  (30, .iconst 1, [1], []),
  (31, .isub, [], []),
  (32, .istore 4, [], []),
  (34, .iload 4, [], []),
  (36, .ifCond .lt 89, [125], []),
  (39, .iload_n 1, [], []),
  (40, .iload 4, [], []),
  (42, .invokestatic 183, [0, 101, 2, 0, 0], [1019, 1020, 58]),
  (45, .ifCond .eq 44, [89], []),
  (48, .aload_n 0, [], []),
  (49, .getfield 44, [16, 9], [797]),
  (52, .iload 4, [], []),
  (54, .iload_n 3, [], []),
  (55, .aload_n 0, [], []),
  (56, .getfield 13, [1, 9], [782]),
  (59, .irem, [], []),
  (60, .iconst 1, [1], []),
  (61, .iadd, [], []),
  (62, .iastore, [], []),
  (63, .iload_n 3, [], []),
  (64, .aload_n 0, [], []),
  (65, .getfield 13, [1, 9], [782]),
  (68, .idiv, [], []),
  (69, .istore_n 3, [], []),
  (70, .aload_n 0, [], []),
  (71, .getfield 32, [10, 9], [791]),
  (74, .aload_n 0, [], []),
  (75, .getfield 44, [16, 9], [797]),
  (78, .iload 4, [], []),
  (80, .iaload, [], []),
  (81, .dup2, [], []),
  (82, .iaload, [], []),
  (83, .iconst 1, [1], []),
  (84, .iadd, [], []),
  (85, .iastore, [], []),
  (86, .goto 33, [119], []),
  (89, .aload_n 0, [], []),
  (90, .getfield 32, [10, 9], [791]),
  (93, .aload_n 0, [], []),
  (94, .getfield 20, [4, 9], [785]),
  (97, .iload 4, [], []),
  (99, .iaload, [], []),
  (100, .dup2, [], []),
  (101, .iaload, [], []),
  (102, .aload_n 0, [], []),
  (103, .getfield 20, [4, 9], [785]),
  (106, .iload 4, [], []),
  (108, .iaload, [], []),
  (109, .ifCond .le 7, [116], []),
  (112, .iconst 1, [1], []),
  (113, .goto 4, [117], []),
  (116, .iconst 0, [0], []),
  (117, .iadd, [], []),
  (118, .iastore, [], []),
  (119, .iinc 4 (-1), [0, 1], []),
  (122, .goto (-88), [34], []),
  (125, .iload_n 3, [], []),
  (126, .ifCond .ne 7, [133], []),
  (129, .iconst 1, [1], []),
  (130, .goto 4, [134], []),
  (133, .iconst 0, [0], []),
  (134, .ireturn, [1], [])]
def tb_X10_layLeague : List (Nat × rI) := [
  (0, .aload_n 0, [], []),
  (1, .invokevirtual 134, [0, 0, 9, 116], [920, 922, 22, 58]),
  (4, .aload_n 0, [], []),
  (5, .iconst 0, [0], []),
  (6, .putfield 104, [11, 0, 0, 9], [792]),
  (9, .iconst 1, [1], []),
  (10, .istore_n 2, [], []),
  (11, .iconst 0, [0], []),
  (12, .istore_n 3, [], []),
  (13, .iload_n 3, [], []),
  (14, .aload_n 0, [], []),
  (15, .getfield 7, [0, 9], [781]),
  (18, .if_icmp .ge 59, [77], []),
  (21, .aload_n 0, [], []),
  (22, .dup, [], []),
  (23, .getfield 104, [11, 9], [792]),
  (26, .iload_n 1, [], []),
  (27, .iload_n 3, [], []),
  (28, .invokestatic 183, [0, 101, 2, 0, 0], [1019, 1020, 58]),
  (31, .ifCond .ne 16, [47], []),
  (34, .aload_n 0, [], []),
  (35, .getfield 20, [4, 9], [785]),
  (38, .iload_n 3, [], []),
  (39, .iaload, [], []),
  (40, .ifCond .ne 7, [47], []),
  (43, .iconst 1, [1], []),
  (44, .goto 4, [48], []),
  (47, .iconst 0, [0], []),
  (48, .iadd, [], []),
  (49, .putfield 104, [11, 0, 0, 9], [792]),
  (52, .iload_n 2, [], []),
  (53, .iload_n 1, [], []),
  (54, .iload_n 3, [], []),
  (55, .invokestatic 183, [0, 101, 2, 0, 0], [1019, 1020, 58]),
  (58, .ifCond .eq 10, [68], []),
  (61, .aload_n 0, [], []),
  (62, .getfield 13, [1, 9], [782]),
  (65, .goto 4, [69], []),
  (68, .iconst 1, [1], []),
  (69, .imul, [], []),
  (70, .istore_n 2, [], []),
  (71, .iinc 3 1, [1], []),
  (74, .goto (-61), [13], []),
  (77, .aload_n 0, [], []),
  (78, .ldc2_w 171, [0, 1], [1002]),
  (81, .putfield 187, [18, 0, 1, 9], [799]),
  (84, .iconst 0, [0], []),
  (85, .istore_n 3, [], []),
  (86, .iload_n 3, [], []),
  (87, .iload_n 2, [], []),
  (88, .if_icmp .ge 73, [161], []),
  (91, .aload_n 0, [], []),
  (92, .iload_n 1, [], []),
  (93, .iload_n 3, [], []),
  (94, .invokevirtual 190, [0, 2, 9, 142], [1026, 1028, 39, 58]),
  (97, .ifCond .eq 58, [155], []),
  (100, .aload_n 0, [], []),
  (101, .iload_n 1, [], []),
  (102, .invokevirtual 193, [0, 1, 9, 141], [1030, 1032, 40, 58]),
  (105, .lstore 4, [], []),
  (107, .lload 4, [], []),
  (109, .aload_n 0, [], []),
  (110, .getfield 187, [18, 9], [799]),
  (113, .lcmp, [], []),
  (114, .ifCond .le 41, [155], []),
  (117, .aload_n 0, [], []),
  (118, .lload 4, [], []),
  (120, .putfield 187, [18, 0, 1, 9], [799]),
  (123, .iconst 0, [0], []),
  (124, .istore 6, [], []),
  (126, .iload 6, [], []),
  (128, .aload_n 0, [], []),
  (129, .getfield 7, [0, 9], [781]),
  (132, .if_icmp .ge 23, [155], []),
  (135, .aload_n 0, [], []),
  (136, .getfield 47, [17, 9], [798]),
  (139, .iload 6, [], []),
  (141, .aload_n 0, [], []),
  (142, .getfield 44, [16, 9], [797]),
  (145, .iload 6, [], []),
  (147, .iaload, [], []),
  (148, .iastore, [], []),
  (149, .iinc 6 1, [1], []),
  (152, .goto (-26), [126], []),
  (155, .iinc 3 1, [1], []),
  (158, .goto (-72), [86], []),
  (161, .return_, [3], [])]
def tb_X10_isSet : List (Nat × rI) := [
  (0, .iload_n 1, [], []),
  (1, .iconst 1, [1], []),
  (2, .iconst 1, [1], []),
  (3, .aload_n 0, [], []),
  (4, .getfield 7, [0, 9], [781]),
  (7, .ishl, [], []),
  (8, .iconst 1, [1], []),
  (9, .isub, [], []),
  (10, .invokestatic 70, [0, 100, 3, 0, 0], [778, 779, 58]),
  (13, .ireturn, [1], [])]
def tb_X10_friends : List (Nat × rI) := [
  (0, .aload_n 0, [], []),
  (1, .iload_n 2, [], []),
  (2, .invokevirtual 101, [0, 1, 9, 102], [906, 908, 20, 58]),
  (5, .ifCond .eq 19, [24], []),
  (8, .aload_n 0, [], []),
  (9, .iload_n 1, [], []),
  (10, .invokevirtual 196, [0, 1, 9, 144], [1015, 1017, 37, 58]),
  (13, .ifCond .eq 13, [26], []),
  (16, .iload_n 1, [], []),
  (17, .iload_n 2, [], []),
  (18, .invokestatic 183, [0, 101, 2, 0, 0], [1019, 1020, 58]),
  (21, .ifCond .ne 5, [26], []),
  (24, .iconst (-1), [0, 1], []),
  (25, .ireturn, [0], []),
  (26, .aload_n 0, [], []),
  (27, .iload_n 1, [], []),
  (28, .invokevirtual 196, [0, 1, 9, 144], [1015, 1017, 37, 58]),
  (31, .ifCond .ne 6, [37], []),
  (34, .bipush (-2), [0, 2], []),
  (36, .ireturn, [0], []),
  (37, .aload_n 0, [], []),
  (38, .iload_n 1, [], []),
  (39, .invokevirtual 199, [0, 1, 9, 143], [1022, 1024, 38, 58]),
  (42, .aload_n 0, [], []),
  (43, .getfield 47, [17, 9], [798]),
  (46, .iload_n 2, [], []),
  (47, .iaload, [], []),
  (48, .ireturn, [0], [])]
def tb_X10_league : List (Nat × rI) := [
  (0, .aload_n 0, [], []),
  (1, .iload_n 1, [], []),
  (2, .invokevirtual 196, [0, 1, 9, 144], [1015, 1017, 37, 58]),
  (5, .ifCond .eq 12, [17], []),
  (8, .iload_n 2, [], []),
  (9, .iconst 0, [0], []),
  (10, .iconst 1, [1], []),
  (11, .invokestatic 70, [0, 100, 3, 0, 0], [778, 779, 58]),
  (14, .ifCond .ne 7, [21], []),
  (17, .ldc2_w 143, [0, 1000000000000000002], [915]),
  (20, .lreturn, [2], []),
  (21, .aload_n 0, [], []),
  (22, .iload_n 1, [], []),
  (23, .invokevirtual 199, [0, 1, 9, 143], [1022, 1024, 38, 58]),
  (26, .aload_n 0, [], []),
  (27, .getfield 187, [18, 9], [799]),
  (30, .aload_n 0, [], []),
  (31, .invokevirtual 152, [0, 0, 9, 125], [955, 957, 29, 58]),
  (34, .iload_n 2, [], []),
  (35, .invokestatic 155, [0, 128, 3, 0, 0], [963, 964, 58]),
  (38, .lreturn, [2], [])]
def tb_X10_layTold : List (Nat × rI) := [
  (0, .aload_n 0, [], []),
  (1, .invokevirtual 134, [0, 0, 9, 116], [920, 922, 22, 58]),
  (4, .aload_n 0, [], []),
  (5, .iconst 0, [0], []),
  (6, .putfield 104, [11, 0, 0, 9], [792]),
  (9, .iconst 0, [0], []),
  (10, .istore_n 2, [], []),
  (11, .iload_n 2, [], []),
  (12, .bipush 7, [7], []),
  (14, .if_icmp .ge 16, [30], []),
  (17, .aload_n 0, [], []),
  (18, .getfield 32, [10, 9], [791]),
  (21, .iload_n 2, [], []),
  (22, .iconst 0, [0], []),
  (23, .iastore, [], []),
  (24, .iinc 2 1, [1], []),
  (27, .goto (-16), [11], []),
  (30, .iconst 0, [0], []),
  (31, .istore_n 2, [], []),
  (32, .iload_n 2, [], []),
  (33, .aload_n 0, [], []),
  (34, .getfield 7, [0, 9], [781]),
  (37, .if_icmp .ge 93, [130], []),
  (40, .iload_n 2, [], []),
  (41, .iload_n 1, [], []),
  (42, .if_icmp .eq 82, [124], []),
  (45, .aload_n 0, [], []),
  (46, .getfield 26, [8, 9], [789]),
  (49, .iload_n 2, [], []),
  (50, .iaload, [], []),
  (51, .bipush 48, [48], []),
  (53, .isub, [], []),
  (54, .istore_n 3, [], []),
  (55, .aload_n 0, [], []),
  (56, .dup, [], []),
  (57, .getfield 104, [11, 9], [792]),
  (60, .aload_n 0, [], []),
  (61, .getfield 26, [8, 9], [789]),
  (64, .iload_n 2, [], []),
  (65, .iaload, [], []),
  (66, .bipush 63, [63], []),
  (68, .if_icmp .ne 7, [75], []),
  (71, .iconst 1, [1], []),
  (72, .goto 4, [76], []),
  (75, .iconst 0, [0], []),
  (76, .iadd, [], []),
  (77, .putfield 104, [11, 0, 0, 9], [792]),
  (80, .aload_n 0, [], []),
  (81, .getfield 32, [10, 9], [791]),
  (84, .aload_n 0, [], []),
  (85, .getfield 26, [8, 9], [789]),
  (88, .iload_n 2, [], []),
  (89, .iaload, [], []),
  (90, .bipush 63, [63], []),
  (92, .if_icmp .ne 7, [99], []),
  (95, .iconst 0, [0], []),
  (96, .goto 4, [100], []),
  (99, .iload_n 3, [], []),
  (100, .dup2, [], []),
  (101, .iaload, [], []),
  (102, .aload_n 0, [], []),
  (103, .getfield 26, [8, 9], [789]),
  (106, .iload_n 2, [], []),
  (107, .iaload, [], []),
  (108, .bipush 63, [63], []),
  (110, .if_icmp .eq 11, [121], []),
  (113, .iload_n 3, [], []),
  (114, .ifCond .le 7, [121], []),
  (117, .iconst 1, [1], []),
  (118, .goto 4, [122], []),
  (121, .iconst 0, [0], []),
  (122, .iadd, [], []),
  (123, .iastore, [], []),
  (124, .iinc 2 1, [1], []),
  (127, .goto (-95), [32], []),
  (130, .return_, [3], [])]
def tb_X10_spy : List (Nat × rI) := [
  (0, .aload_n 0, [], []),
  (1, .iload_n 1, [], []),
  (2, .invokevirtual 101, [0, 1, 9, 102], [906, 908, 20, 58]),
  (5, .ifCond .ne 5, [10], []),
  (8, .iconst (-1), [0, 1], []),
  (9, .ireturn, [0], []),
  (10, .aload_n 0, [], []),
  (11, .invokevirtual 83, [0, 0, 9, 108], [874, 876, 15, 58]),
  (14, .ifCond .lt 6, [20], []),
  (17, .bipush (-5), [0, 5], []),
  (19, .ireturn, [0], []),
  (20, .aload_n 0, [], []),
  (21, .iload_n 1, [], []),
  (22, .invokevirtual 202, [0, 1, 9, 147], [1042, 1044, 41, 58]),
  (25, .aload_n 0, [], []),
  (26, .invokevirtual 159, [0, 0, 9, 130], [970, 972, 31, 58]),
  (29, .ireturn, [0], [])]
def tb_X10_spied : List (Nat × rI) := [
  (0, .aload_n 0, [], []),
  (1, .iload_n 1, [], []),
  (2, .invokevirtual 101, [0, 1, 9, 102], [906, 908, 20, 58]),
  (5, .ifCond .ne 7, [12], []),
  (8, .ldc2_w 141, [0, 1000000000000000001], [914]),
  (11, .lreturn, [2], []),
  (12, .iload_n 2, [], []),
  (13, .iconst 0, [0], []),
  (14, .iconst 1, [1], []),
  (15, .invokestatic 70, [0, 100, 3, 0, 0], [778, 779, 58]),
  (18, .ifCond .ne 7, [25], []),
  (21, .ldc2_w 143, [0, 1000000000000000002], [915]),
  (24, .lreturn, [2], []),
  (25, .aload_n 0, [], []),
  (26, .invokevirtual 83, [0, 0, 9, 108], [874, 876, 15, 58]),
  (29, .ifCond .lt 7, [36], []),
  (32, .ldc2_w 205, [0, 1000000000000000005], [1050]),
  (35, .lreturn, [2], []),
  (36, .aload_n 0, [], []),
  (37, .iload_n 1, [], []),
  (38, .invokevirtual 202, [0, 1, 9, 147], [1042, 1044, 41, 58]),
  (41, .aload_n 0, [], []),
  (42, .aload_n 0, [], []),
  (43, .invokevirtual 159, [0, 0, 9, 130], [970, 972, 31, 58]),
  (46, .invokevirtual 149, [0, 1, 9, 127], [924, 926, 23, 58]),
  (49, .aload_n 0, [], []),
  (50, .invokevirtual 152, [0, 0, 9, 125], [955, 957, 29, 58]),
  (53, .iload_n 2, [], []),
  (54, .invokestatic 155, [0, 128, 3, 0, 0], [963, 964, 58]),
  (57, .lreturn, [2], [])]
def tb_X10_steps : List (Nat × rI) := [
  (0, .iload_n 1, [], []),
  (1, .iconst 1, [1], []),
  (2, .bipush 20, [20], []),
  (4, .invokestatic 70, [0, 100, 3, 0, 0], [778, 779, 58]),
  (7, .ifCond .ne 6, [13], []),
  (10, .bipush (-2), [0, 2], []),
  (12, .ireturn, [0], []),
  (13, .iconst 0, [0], []),
  (14, .istore_n 2, [], []),
  (15, .iconst 0, [0], []),
  (16, .istore_n 3, [], []),
  (17, .iload_n 3, [], []),
  (18, .iload_n 1, [], []),
  (19, .if_icmp .ge 79, [98], []),
  (22, .aload_n 0, [], []),
  (23, .invokevirtual 134, [0, 0, 9, 116], [920, 922, 22, 58]),
  (26, .iconst 0, [0], []),
  (27, .istore 4, [], []),
  (29, .iload 4, [], []),
  (31, .bipush 7, [7], []),
  (33, .if_icmp .ge 36, [69], []),
  (36, .aload_n 0, [], []),
  (37, .getfield 32, [10, 9], [791]),
  (40, .iload 4, [], []),
  (42, .iload_n 3, [], []),
  (43, .ifCond .le 18, [61], []),
  (46, .iload 4, [], []),
  (48, .iload_n 2, [], []),
  (49, .if_icmp .ne 12, [61], []),
  (52, .aload_n 0, [], []),
  (53, .getfield 7, [0, 9], [781]),
  (56, .iconst 1, [1], []),
  (57, .isub, [], []),
  (58, .goto 4, [62], []),
  (61, .iconst 0, [0], []),
  (62, .iastore, [], []),
  (63, .iinc 4 1, [1], []),
  (66, .goto (-37), [29], []),
  (69, .aload_n 0, [], []),
  (70, .iload_n 3, [], []),
  (71, .ifCond .le 7, [78], []),
  (74, .iconst 0, [0], []),
  (75, .goto 9, [84], []),
  (78, .aload_n 0, [], []),
  (79, .getfield 7, [0, 9], [781]),
  (82, .iconst 1, [1], []),
  (83, .isub, [], []),
  (84, .putfield 104, [11, 0, 0, 9], [792]),
  (87, .aload_n 0, [], []),
  (88, .invokevirtual 159, [0, 0, 9, 130], [970, 972, 31, 58]),
  (91, .istore_n 2, [], []),
  (92, .iinc 3 1, [1], []),
  (95, .goto (-78), [17], []),
  (98, .iload_n 2, [], []),
  (99, .ireturn, [0], [])]
def tb_X10_hasOf : List (Nat × rI) := [
  (0, .aload_n 0, [], []),
  (1, .invokevirtual 87, [0, 0, 9, 111], [882, 884, 16, 58]),
  (4, .iconst 0, [0], []),
  (5, .istore_n 2, [], []),
  (6, .iload_n 2, [], []),
  (7, .aload_n 0, [], []),
  (8, .getfield 7, [0, 9], [781]),
  (11, .if_icmp .ge 24, [35], []),
  (14, .aload_n 0, [], []),
  (15, .getfield 29, [9, 9], [790]),
  (18, .aload_n 0, [], []),
  (19, .getfield 50, [19, 9], [800]),
  (22, .iload_n 2, [], []),
  (23, .iaload, [], []),
  (24, .dup2, [], []),
  (25, .iaload, [], []),
  (26, .iconst 1, [1], []),
  (27, .iadd, [], []),
  (28, .iastore, [], []),
  (29, .iinc 2 1, [1], []),
  (32, .goto (-26), [6], []),
  (35, .aload_n 0, [], []),
  (36, .aload_n 0, [], []),
  (37, .getfield 29, [9, 9], [790]),
  (40, .invokevirtual 90, [0, 1, 9, 110], [886, 888, 17, 58]),
  (43, .aload_n 0, [], []),
  (44, .getfield 50, [19, 9], [800]),
  (47, .iload_n 1, [], []),
  (48, .iaload, [], []),
  (49, .if_icmp .ne 19, [68], []),
  (52, .aload_n 0, [], []),
  (53, .getfield 77, [2, 9], [783]),
  (56, .iconst 3, [3], []),
  (57, .if_icmp .ne 7, [64], []),
  (60, .iconst 1, [1], []),
  (61, .goto 8, [69], []),
  (64, .iconst 2, [2], []),
  (65, .goto 4, [69], []),
  (68, .iconst 0, [0], []),
  (69, .ireturn, [0], [])]
def tb_X10_lateEvening : List (Nat × rI) := [
  (0, .iconst 1, [1], []),
  (1, .istore_n 1, [], []),
  (2, .iconst 0, [0], []),
  (3, .istore_n 2, [], []),
  (4, .iload_n 2, [], []),
  (5, .aload_n 0, [], []),
  (6, .getfield 7, [0, 9], [781]),
  (9, .if_icmp .ge 16, [25], []),
  (12, .iload_n 1, [], []),
  (13, .aload_n 0, [], []),
  (14, .getfield 13, [1, 9], [782]),
  (17, .imul, [], []),
  (18, .istore_n 1, [], []),
  (19, .iinc 2 1, [1], []),
  (22, .goto (-18), [4], []),
  (25, .iconst 0, [0], []),
  (26, .istore_n 2, [], []),
  (27, .iload_n 2, [], []),
  (28, .iload_n 1, [], []),
  (29, .if_icmp .ge 16, [45], []),
  (32, .aload_n 0, [], []),
  (33, .getfield 57, [21, 9], [802]),
  (36, .iload_n 2, [], []),
  (37, .iload_n 2, [], []),
  (38, .iastore, [], []),
  (39, .iinc 2 1, [1], []),
  (42, .goto (-15), [27], []),
  (45, .aload_n 0, [], []),
  (46, .getfield 7, [0, 9], [781]),
  (49, .iconst 1, [1], []),
  (50, .isub, [], []),
  (51, .istore_n 2, [], []),
  (52, .iload_n 2, [], []),
  (53, .ifCond .lt 167, [220], []),
  (56, .iload_n 1, [], []),
  (57, .aload_n 0, [], []),
  (58, .getfield 13, [1, 9], [782]),
  (61, .idiv, [], []),
  (62, .istore_n 1, [], []),
  (63, .iconst 0, [0], []),
  (64, .istore_n 3, [], []),
  (65, .iload_n 3, [], []),
  (66, .iload_n 1, [], []),
  (67, .if_icmp .ge 122, [189], []),
  (70, .bipush (-6), [0, 6], []),
  (72, .istore 4, [], []),
  (74, .bipush (-6), [0, 6], []),
  (76, .istore 5, [], []),
  (78, .iconst 1, [1], []),
  (79, .istore 6, [], []),
  (81, .iload 6, [], []),
  (83, .aload_n 0, [], []),
  (84, .getfield 13, [1, 9], [782]),
  (87, .if_icmp .gt 88, [175], []),
  (90, .aload_n 0, [], []),
  (91, .getfield 57, [21, 9], [802]),
  (94, .iload_n 3, [], []),
  (95, .aload_n 0, [], []),
  (96, .getfield 13, [1, 9], [782]),
  (99, .imul, [], []),
  (100, .iload 6, [], []),
  (102, .iadd, [], []),
  (103, .iconst 1, [1], []),
  (104, .isub, [], []),
  (105, .iaload, [], []),
  (106, .istore 7, [], []),
  (108, .aload_n 0, [], []),
  (109, .iload 7, [], []),
  (111, .invokevirtual 207, [0, 1, 9, 153], [1063, 1065, 43, 58]),
  (114, .aload_n 0, [], []),
  (115, .getfield 20, [4, 9], [785]),
  (118, .iload_n 2, [], []),
  (119, .iaload, [], []),
  (120, .ifCond .le 22, [142], []),
  (123, .aload_n 0, [], []),
  (124, .getfield 20, [4, 9], [785]),
  (127, .iload_n 2, [], []),
  (128, .iaload, [], []),
  (129, .iload 6, [], []),
  (131, .if_icmp .ne 7, [138], []),
  (134, .iconst 1, [1], []),
  (135, .goto 12, [147], []),
  (138, .iconst (-1), [0, 1], []),
  (139, .goto 8, [147], []),
  (142, .aload_n 0, [], []),
  (143, .iload_n 2, [], []),
  (144, .invokevirtual 210, [0, 1, 9, 151], [1067, 1069, 44, 58]),
  (147, .istore 8, [], []),
  (149, .iload 8, [], []),
  (151, .iload 5, [], []),
  (153, .if_icmp .le 16, [169], []),
  (156, .iload 8, [], []),
  (158, .ifCond .lt 11, [169], []),
  (161, .iload 8, [], []),
  (163, .istore 5, [], []),
  (165, .iload 7, [], []),
  (167, .istore 4, [], []),
  (169, .iinc 6 1, [1], []),
  (172, .goto (-91), [81], []),
  (175, .aload_n 0, [], []),
  (176, .getfield 54, [20, 9], [801]),
  (179, .iload_n 3, [], []),
  (180, .iload 4, [], []),
  (182, .iastore, [], []),
  (183, .iinc 3 1, [1], []),
  (186, .goto (-121), [65], []),
  (189, .iconst 0, [0], []),
  (190, .istore_n 3, [], []),
  (191, .iload_n 3, [], []),
  (192, .iload_n 1, [], []),
  (193, .if_icmp .ge 21, [214], []),
  (196, .aload_n 0, [], []),
  (197, .getfield 57, [21, 9], [802]),
  (200, .iload_n 3, [], []),
  (201, .aload_n 0, [], []),
  (202, .getfield 54, [20, 9], [801]),
  (205, .iload_n 3, [], []),
  (206, .iaload, [], []),
  (207, .iastore, [], []),
  (208, .iinc 3 1, [1], []),
  (211, .goto (-20), [191], []),
  (214, .iinc 2 (-1), [0, 1], []),
  (217, .goto (-165), [52], []),
  (220, .aload_n 0, [], []),
  (221, .getfield 57, [21, 9], [802]),
  (224, .iconst 0, [0], []),
  (225, .iaload, [], []),
  (226, .ireturn, [0], [])]
def tb_X10_layWrote : List (Nat × rI) := [
  (0, .iload_n 1, [], []),
  (1, .istore_n 2, [], []),
  (2, .aload_n 0, [], []),
  (3, .getfield 7, [0, 9], [781]),
  (6, .iconst 1, [1], []),
  (7, .isub, [], []),
  (8, .istore_n 3, [], []),
  (9, .iload_n 3, [], []),
  (10, .ifCond .lt 30, [40], []),
  (13, .aload_n 0, [], []),
  (14, .getfield 50, [19, 9], [800]),
  (17, .iload_n 3, [], []),
  (18, .iload_n 2, [], []),
  (19, .aload_n 0, [], []),
  (20, .getfield 13, [1, 9], [782]),
  (23, .irem, [], []),
  (24, .iconst 1, [1], []),
  (25, .iadd, [], []),
  (26, .iastore, [], []),
  (27, .iload_n 2, [], []),
  (28, .aload_n 0, [], []),
  (29, .getfield 13, [1, 9], [782]),
  (32, .idiv, [], []),
  (33, .istore_n 2, [], []),
  (34, .iinc 3 (-1), [0, 1], []),
  (37, .goto (-28), [9], []),
  (40, .return_, [3], [])]
def tb_X10_late : List (Nat × rI) := [
  (0, .aload_n 0, [], []),
  (1, .iload_n 1, [], []),
  (2, .invokevirtual 101, [0, 1, 9, 102], [906, 908, 20, 58]),
  (5, .ifCond .ne 5, [10], []),
  (8, .iconst (-1), [0, 1], []),
  (9, .ireturn, [0], []),
  (10, .iload_n 2, [], []),
  (11, .iconst 0, [0], []),
  (12, .iconst 1, [1], []),
  (13, .invokestatic 70, [0, 100, 3, 0, 0], [778, 779, 58]),
  (16, .ifCond .ne 6, [22], []),
  (19, .bipush (-2), [0, 2], []),
  (21, .ireturn, [0], []),
  (22, .aload_n 0, [], []),
  (23, .aload_n 0, [], []),
  (24, .invokevirtual 214, [0, 0, 9, 152], [1059, 1061, 42, 58]),
  (27, .invokevirtual 207, [0, 1, 9, 153], [1063, 1065, 43, 58]),
  (30, .iconst 0, [0], []),
  (31, .istore_n 3, [], []),
  (32, .iconst 0, [0], []),
  (33, .istore 4, [], []),
  (35, .iload 4, [], []),
  (37, .aload_n 0, [], []),
  (38, .getfield 7, [0, 9], [781]),
  (41, .if_icmp .ge 29, [70], []),
  (44, .iload_n 3, [], []),
  (45, .aload_n 0, [], []),
  (46, .iload 4, [], []),
  (48, .invokevirtual 210, [0, 1, 9, 151], [1067, 1069, 44, 58]),
  (51, .ifCond .le 10, [61], []),
  (54, .iconst 1, [1], []),
  (55, .iload 4, [], []),
  (57, .ishl, [], []),
  (58, .goto 4, [62], []),
  (61, .iconst 0, [0], []),
  (62, .ior, [], []),
  (63, .istore_n 3, [], []),
  (64, .iinc 4 1, [1], []),
  (67, .goto (-32), [35], []),
  (70, .iload_n 2, [], []),
  (71, .ifCond .ne 12, [83], []),
  (74, .aload_n 0, [], []),
  (75, .getfield 50, [19, 9], [800]),
  (78, .iload_n 1, [], []),
  (79, .iaload, [], []),
  (80, .goto 13, [93], []),
  (83, .iload_n 3, [], []),
  (84, .ifCond .ne 8, [92], []),
  (87, .bipush (-6), [0, 6], []),
  (89, .goto 4, [93], []),
  (92, .iload_n 3, [], []),
  (93, .ireturn, [0], [])]
def tb_X10_prize : List (Nat × rI) := [
  (0, .iload_n 1, [], []),
  (1, .iconst 1, [1], []),
  (2, .sipush 999, [999], []),
  (5, .invokestatic 70, [0, 100, 3, 0, 0], [778, 779, 58]),
  (8, .ifCond .eq 22, [30], []),
  (11, .iload_n 2, [], []),
  (12, .iconst 0, [0], []),
  (13, .bipush 99, [99], []),
  (15, .invokestatic 70, [0, 100, 3, 0, 0], [778, 779, 58]),
  (18, .ifCond .eq 12, [30], []),
  (21, .iload_n 3, [], []),
  (22, .iconst 0, [0], []),
  (23, .iconst 1, [1], []),
  (24, .invokestatic 70, [0, 100, 3, 0, 0], [778, 779, 58]),
  (27, .ifCond .ne 7, [34], []),
  (30, .ldc2_w 143, [0, 1000000000000000002], [915]),
  (33, .lreturn, [2], []),
  (34, .aload_n 0, [], []),
  (35, .invokevirtual 168, [0, 0, 9, 135], [990, 992, 34, 58]),
  (38, .lstore 4, [], []),
  (40, .aload_n 0, [], []),
  (41, .invokevirtual 152, [0, 0, 9, 125], [955, 957, 29, 58]),
  (44, .ldc2_w 121, [2], [940]),
  (47, .ldiv, [], []),
  (48, .lstore 6, [], []),
  (50, .lload 4, [], []),
  (52, .lload 6, [], []),
  (54, .lcmp, [], []),
  (55, .ifCond .ne 7, [62], []),
  (58, .ldc2_w 217, [0, 1000000000000000003], [1075]),
  (61, .lreturn, [2], []),
  (62, .iload_n 2, [], []),
  (63, .ifCond .ne 20, [83], []),
  (66, .iload_n 1, [], []),
  (67, .i2l, [], []),
  (68, .lload 6, [], []),
  (70, .lmul, [], []),
  (71, .lload 6, [], []),
  (73, .lload 4, [], []),
  (75, .lsub, [], []),
  (76, .iload_n 3, [], []),
  (77, .invokestatic 155, [0, 128, 3, 0, 0], [963, 964, 58]),
  (80, .goto 24, [104], []),
  (83, .iload_n 1, [], []),
  (84, .i2l, [], []),
  (85, .lload 6, [], []),
  (87, .lmul, [], []),
  (88, .iload_n 2, [], []),
  (89, .i2l, [], []),
  (90, .lmul, [], []),
  (91, .lload 6, [], []),
  (93, .lload 4, [], []),
  (95, .lsub, [], []),
  (96, .ldc2_w 219, [100], [1076]),
  (99, .lmul, [], []),
  (100, .iload_n 3, [], []),
  (101, .invokestatic 155, [0, 128, 3, 0, 0], [963, 964, 58]),
  (104, .lreturn, [2], [])]
def tb_X10_seen : List (Nat × rI) := [
  (0, .iload_n 1, [], []),
  (1, .iconst 2, [2], []),
  (2, .if_icmp .eq 19, [21], []),
  (5, .aload_n 0, [], []),
  (6, .iload_n 2, [], []),
  (7, .invokevirtual 101, [0, 1, 9, 102], [906, 908, 20, 58]),
  (10, .ifCond .eq 15, [25], []),
  (13, .aload_n 0, [], []),
  (14, .iload_n 3, [], []),
  (15, .invokevirtual 94, [0, 1, 9, 103], [894, 896, 18, 58]),
  (18, .ifCond .eq 7, [25], []),
  (21, .iconst 1, [1], []),
  (22, .goto 4, [26], []),
  (25, .iconst 0, [0], []),
  (26, .istore 4, [], []),
  (28, .iload 4, [], []),
  (30, .ifCond .ne 5, [35], []),
  (33, .iconst (-1), [0, 1], []),
  (34, .ireturn, [0], []),
  (35, .iload_n 1, [], []),
  (36, .iconst 0, [0], []),
  (37, .iconst 2, [2], []),
  (38, .invokestatic 70, [0, 100, 3, 0, 0], [778, 779, 58]),
  (41, .ifCond .ne 6, [47], []),
  (44, .bipush (-2), [0, 2], []),
  (46, .ireturn, [0], []),
  (47, .aload_n 0, [], []),
  (48, .getfield 74, [5, 9], [786]),
  (51, .bipush 6, [6], []),
  (53, .if_icmp .ne 6, [59], []),
  (56, .bipush (-4), [0, 4], []),
  (58, .ireturn, [0], []),
  (59, .aload_n 0, [], []),
  (60, .getfield 23, [6, 9], [787]),
  (63, .iconst 3, [3], []),
  (64, .aload_n 0, [], []),
  (65, .getfield 74, [5, 9], [786]),
  (68, .imul, [], []),
  (69, .iload_n 1, [], []),
  (70, .iastore, [], []),
  (71, .aload_n 0, [], []),
  (72, .getfield 23, [6, 9], [787]),
  (75, .iconst 3, [3], []),
  (76, .aload_n 0, [], []),
  (77, .getfield 74, [5, 9], [786]),
  (80, .imul, [], []),
  (81, .iconst 1, [1], []),
  (82, .iadd, [], []),
  (83, .iload_n 2, [], []),
  (84, .iastore, [], []),
  (85, .aload_n 0, [], []),
  (86, .getfield 23, [6, 9], [787]),
  (89, .iconst 3, [3], []),
  (90, .aload_n 0, [], []),
  (91, .getfield 74, [5, 9], [786]),
  (94, .imul, [], []),
  (95, .iconst 2, [2], []),
  (96, .iadd, [], []),
  (97, .iload_n 3, [], []),
  (98, .iastore, [], []),
  (99, .aload_n 0, [], []),
  (100, .dup, [], []),
  (101, .getfield 74, [5, 9], [786]),
  (104, .iconst 1, [1], []),
  (105, .iadd, [], []),
  (106, .putfield 74, [5, 0, 0, 9], [786]),
  (109, .aload_n 0, [], []),
  (110, .getfield 74, [5, 9], [786]),
  (113, .ireturn, [0], [])]
def tb_X10_forget : List (Nat × rI) := [
  (0, .aload_n 0, [], []),
  (1, .getfield 74, [5, 9], [786]),
  (4, .istore_n 1, [], []),
  (5, .aload_n 0, [], []),
  (6, .iconst 0, [0], []),
  (7, .putfield 74, [5, 0, 0, 9], [786]),
  (10, .iload_n 1, [], []),
  (11, .ireturn, [0], [])]
def tb_X10_isSeen : List (Nat × rI) := [
  (0, .aload_n 0, [], []),
  (1, .iload_n 1, [], []),
  (2, .invokevirtual 207, [0, 1, 9, 153], [1063, 1065, 43, 58]),
  (5, .aload_n 0, [], []),
  (6, .invokevirtual 87, [0, 0, 9, 111], [882, 884, 16, 58]),
  (9, .iconst 0, [0], []),
  (10, .istore_n 2, [], []),
  (11, .iload_n 2, [], []),
  (12, .aload_n 0, [], []),
  (13, .getfield 7, [0, 9], [781]),
  (16, .if_icmp .ge 24, [40], []),
  (19, .aload_n 0, [], []),
  (20, .getfield 29, [9, 9], [790]),
  (23, .aload_n 0, [], []),
  (24, .getfield 50, [19, 9], [800]),
  (27, .iload_n 2, [], []),
  (28, .iaload, [], []),
  (29, .dup2, [], []),
  (30, .iaload, [], []),
  (31, .iconst 1, [1], []),
  (32, .iadd, [], []),
  (33, .iastore, [], []),
  (34, .iinc 2 1, [1], []),
  (37, .goto (-26), [11], []),
  (40, .aload_n 0, [], []),
  (41, .aload_n 0, [], []),
  (42, .getfield 29, [9, 9], [790]),
  (45, .invokevirtual 90, [0, 1, 9, 110], [886, 888, 17, 58]),
  (48, .istore_n 2, [], []),
  (49, .iconst 1, [1], []),
  (50, .istore_n 3, [], []),
  (51, .iconst 0, [0], []),
  (52, .istore 4, [], []),
  (54, .iload 4, [], []),
  (56, .aload_n 0, [], []),
  (57, .getfield 74, [5, 9], [786]),
  (60, .if_icmp .ge 96, [156], []),
  (63, .aload_n 0, [], []),
  (64, .getfield 23, [6, 9], [787]),
  (67, .iconst 3, [3], []),
  (68, .iload 4, [], []),
  (70, .imul, [], []),
  (71, .iconst 1, [1], []),
  (72, .iadd, [], []),
  (73, .iaload, [], []),
  (74, .istore 5, [], []),
  (76, .aload_n 0, [], []),
  (77, .getfield 23, [6, 9], [787]),
  (80, .iconst 3, [3], []),
  (81, .iload 4, [], []),
  (83, .imul, [], []),
  (84, .iconst 2, [2], []),
  (85, .iadd, [], []),
  (86, .iaload, [], []),
  (87, .istore 6, [], []),
  (89, .iload_n 3, [], []),
  (90, .ifCond .eq 58, [148], []),
  (93, .aload_n 0, [], []),
  (94, .getfield 23, [6, 9], [787]),
  (97, .iconst 3, [3], []),
  (98, .iload 4, [], []),
  (100, .imul, [], []),
  (101, .iaload, [], []),
  (102, .iconst 2, [2], []),
  (103, .if_icmp .ne 10, [113], []),
  (106, .iload_n 2, [], []),
  (107, .ifCond .ge 41, [148], []),
  (110, .goto 34, [144], []),
  (113, .aload_n 0, [], []),
  (114, .getfield 50, [19, 9], [800]),
  (117, .iload 5, [], []),
  (119, .iaload, [], []),
  (120, .iload 6, [], []),
  (122, .if_icmp .ne 26, [148], []),
  (125, .aload_n 0, [], []),
  (126, .getfield 23, [6, 9], [787]),
  (129, .iconst 3, [3], []),
  (130, .iload 4, [], []),
  (132, .imul, [], []),
  (133, .iaload, [], []),
  (134, .iconst 1, [1], []),
  (135, .if_icmp .eq 9, [144], []),
  (138, .iload_n 2, [], []),
  (139, .iload 6, [], []),
  (141, .if_icmp .ne 7, [148], []),
  (144, .iconst 1, [1], []),
  (145, .goto 4, [149], []),
  (148, .iconst 0, [0], []),
  (149, .istore_n 3, [], []),
  (150, .iinc 4 1, [1], []),
  (153, .goto (-99), [54], []),
  (156, .iload_n 3, [], []),
  (157, .ireturn, [1], [])]
def tb_X10_codes : List (Nat × rI) := [
  (0, .iconst 1, [1], []),
  (1, .istore_n 1, [], []),
  (2, .iconst 0, [0], []),
  (3, .istore_n 2, [], []),
  (4, .iload_n 2, [], []),
  (5, .aload_n 0, [], []),
  (6, .getfield 7, [0, 9], [781]),
  (9, .if_icmp .ge 16, [25], []),
  (12, .iload_n 1, [], []),
  (13, .aload_n 0, [], []),
  (14, .getfield 13, [1, 9], [782]),
  (17, .imul, [], []),
  (18, .istore_n 1, [], []),
  (19, .iinc 2 1, [1], []),
  (22, .goto (-18), [4], []),
  (25, .iload_n 1, [], []),
  (26, .ireturn, [0], [])]
def tb_X10_fits : List (Nat × rI) := [
  (0, .iconst 0, [0], []),
  (1, .istore_n 2, [], []),
  (2, .bipush (-6), [0, 6], []),
  (4, .istore_n 3, [], []),
  (5, .iconst 0, [0], []),
  (6, .istore 4, [], []),
  (8, .iload 4, [], []),
  (10, .aload_n 0, [], []),
  (11, .invokevirtual 221, [0, 0, 9, 159], [1089, 1091, 45, 58]),
  (14, .if_icmp .ge 32, [46], []),
  (17, .aload_n 0, [], []),
  (18, .iload 4, [], []),
  (20, .invokevirtual 224, [0, 1, 9, 158], [1093, 1095, 46, 58]),
  (23, .ifCond .eq 17, [40], []),
  (26, .iload_n 3, [], []),
  (27, .ifCond .ge 8, [35], []),
  (30, .iload 4, [], []),
  (32, .goto 4, [36], []),
  (35, .iload_n 3, [], []),
  (36, .istore_n 3, [], []),
  (37, .iinc 2 1, [1], []),
  (40, .iinc 4 1, [1], []),
  (43, .goto (-35), [8], []),
  (46, .iload_n 1, [], []),
  (47, .iconst (-1), [0, 1], []),
  (48, .if_icmp .ne 5, [53], []),
  (51, .iload_n 2, [], []),
  (52, .ireturn, [0], []),
  (53, .iload_n 3, [], []),
  (54, .ifCond .lt 11, [65], []),
  (57, .aload_n 0, [], []),
  (58, .iload_n 1, [], []),
  (59, .invokevirtual 101, [0, 1, 9, 102], [906, 908, 20, 58]),
  (62, .ifCond .ne 6, [68], []),
  (65, .bipush (-6), [0, 6], []),
  (67, .ireturn, [0], []),
  (68, .aload_n 0, [], []),
  (69, .iload_n 3, [], []),
  (70, .invokevirtual 207, [0, 1, 9, 153], [1063, 1065, 43, 58]),
  (73, .aload_n 0, [], []),
  (74, .getfield 50, [19, 9], [800]),
  (77, .iload_n 1, [], []),
  (78, .iaload, [], []),
  (79, .ireturn, [0], [])]
def tb_X10_could : List (Nat × rI) := [
  (0, .aload_n 0, [], []),
  (1, .iload_n 1, [], []),
  (2, .invokevirtual 101, [0, 1, 9, 102], [906, 908, 20, 58]),
  (5, .ifCond .ne 5, [10], []),
  (8, .iconst (-1), [0, 1], []),
  (9, .ireturn, [0], []),
  (10, .iconst 0, [0], []),
  (11, .istore_n 2, [], []),
  (12, .iconst 0, [0], []),
  (13, .istore_n 3, [], []),
  (14, .iload_n 3, [], []),
  (15, .aload_n 0, [], []),
  (16, .invokevirtual 221, [0, 0, 9, 159], [1089, 1091, 45, 58]),
  (19, .if_icmp .ge 28, [47], []),
  (22, .aload_n 0, [], []),
  (23, .iload_n 3, [], []),
  (24, .invokevirtual 224, [0, 1, 9, 158], [1093, 1095, 46, 58]),
  (27, .ifCond .eq 14, [41], []),
  (30, .iload_n 2, [], []),
  (31, .iconst 1, [1], []),
  (32, .aload_n 0, [], []),
  (33, .getfield 50, [19, 9], [800]),
  (36, .iload_n 1, [], []),
  (37, .iaload, [], []),
  (38, .ishl, [], []),
  (39, .ior, [], []),
  (40, .istore_n 2, [], []),
  (41, .iinc 3 1, [1], []),
  (44, .goto (-30), [14], []),
  (47, .iload_n 2, [], []),
  (48, .ireturn, [0], [])]
def tb_X10_year : List (Nat × rI) := [
  (0, .iload_n 3, [], []),
  (1, .iconst (-1), [0, 1], []),
  (2, .if_icmp .eq 13, [15], []),
  (5, .aload_n 0, [], []),
  (6, .iload_n 3, [], []),
  (7, .invokevirtual 101, [0, 1, 9, 102], [906, 908, 20, 58]),
  (10, .ifCond .ne 5, [15], []),
  (13, .iconst (-1), [0, 1], []),
  (14, .ireturn, [0], []),
  (15, .iload_n 1, [], []),
  (16, .iconst 0, [0], []),
  (17, .sipush 9999, [9999], []),
  (20, .invokestatic 70, [0, 100, 3, 0, 0], [778, 779, 58]),
  (23, .ifCond .eq 13, [36], []),
  (26, .iload_n 2, [], []),
  (27, .iconst 1, [1], []),
  (28, .bipush 99, [99], []),
  (30, .invokestatic 70, [0, 100, 3, 0, 0], [778, 779, 58]),
  (33, .ifCond .ne 6, [39], []),
  (36, .bipush (-2), [0, 2], []),
  (38, .ireturn, [0], []),
  (39, .iload_n 1, [], []),
  (40, .istore 4, [], []),
  (42, .iconst 0, [0], []),
  (43, .istore 5, [], []),
  (45, .iconst 0, [0], []),
  (46, .istore 6, [], []),
  (48, .iload 6, [], []),
  (50, .iload_n 2, [], []),
  (51, .if_icmp .ge 177, [228], []),
  (54, .aload_n 0, [], []),
  (55, .invokevirtual 87, [0, 0, 9, 111], [882, 884, 16, 58]),
  (58, .iconst 0, [0], []),
  (59, .istore 7, [], []),
  (61, .iload 7, [], []),
  (63, .aload_n 0, [], []),
  (64, .getfield 7, [0, 9], [781]),
  (67, .if_icmp .ge 102, [169], []),
  (70, .bipush 75, [75], []),
  (72, .iload 4, [], []),
  (74, .imul, [], []),
  (75, .bipush 74, [74], []),
  (77, .iadd, [], []),
  (78, .ldc 227, [65537], [1105]),
  (80, .irem, [], []),
  (81, .istore 4, [], []),
  (83, .iload 4, [], []),
  (85, .aload_n 0, [], []),
  (86, .invokevirtual 98, [0, 0, 9, 114], [898, 900, 19, 58]),
  (89, .irem, [], []),
  (90, .istore 8, [], []),
  (92, .iconst 0, [0], []),
  (93, .istore 9, [], []),
  (95, .iload 8, [], []),
  (97, .ifCond .lt 21, [118], []),
  (100, .iinc 9 1, [1], []),
  (103, .iload 8, [], []),
  (105, .aload_n 0, [], []),
  (106, .getfield 16, [3, 9], [784]),
  (109, .iload 9, [], []),
  (111, .iaload, [], []),
  (112, .isub, [], []),
  (113, .istore 8, [], []),
  (115, .goto (-20), [95], []),
  (118, .aload_n 0, [], []),
  (119, .getfield 50, [19, 9], [800]),
  (122, .iload 7, [], []),
  (124, .aload_n 0, [], []),
  (125, .getfield 20, [4, 9], [785]),
  (128, .iload 7, [], []),
  (130, .iaload, [], []),
  (131, .ifCond .le 13, [144], []),
  (134, .aload_n 0, [], []),
  (135, .getfield 20, [4, 9], [785]),
  (138, .iload 7, [], []),
  (140, .iaload, [], []),
  (141, .goto 5, [146], []),
  (144, .iload 9, [], []),
  (146, .iastore, [], []),
  (147, .aload_n 0, [], []),
  (148, .getfield 29, [9, 9], [790]),
  (151, .aload_n 0, [], []),
  (152, .getfield 50, [19, 9], [800]),
  (155, .iload 7, [], []),
  (157, .iaload, [], []),
  (158, .dup2, [], []),
  (159, .iaload, [], []),
  (160, .iconst 1, [1], []),
  (161, .iadd, [], []),
  (162, .iastore, [], []),
  (163, .iinc 7 1, [1], []),
  (166, .goto (-105), [61], []),
  (169, .aload_n 0, [], []),
  (170, .aload_n 0, [], []),
  (171, .getfield 29, [9, 9], [790]),
  (174, .invokevirtual 90, [0, 1, 9, 110], [886, 888, 17, 58]),
  (177, .istore 7, [], []),
  (179, .iload 5, [], []),
  (181, .iload_n 3, [], []),
  (182, .ifCond .ge 16, [198], []),
  (185, .iload 7, [], []),
  (187, .ifCond .ge 7, [194], []),
  (190, .iconst 1, [1], []),
  (191, .goto 28, [219], []),
  (194, .iconst 0, [0], []),
  (195, .goto 24, [219], []),
  (198, .iload 7, [], []),
  (200, .ifCond .le 18, [218], []),
  (203, .aload_n 0, [], []),
  (204, .getfield 50, [19, 9], [800]),
  (207, .iload_n 3, [], []),
  (208, .iaload, [], []),
  (209, .iload 7, [], []),
  (211, .if_icmp .ne 7, [218], []),
  (214, .iconst 1, [1], []),
  (215, .goto 4, [219], []),
  (218, .iconst 0, [0], []),
  (219, .iadd, [], []),
  (220, .istore 5, [], []),
  (222, .iinc 6 1, [1], []),
  (225, .goto (-177), [48], []),
  (228, .iload 5, [], []),
  (230, .ireturn, [0], [])]
def tb_X10_image : List (Nat × rI) := [
  (0, .iload_n 1, [], []),
  (1, .iconst 0, [0], []),
  (2, .iconst 1, [1], []),
  (3, .invokestatic 70, [0, 100, 3, 0, 0], [778, 779, 58]),
  (6, .ifCond .ne 6, [12], []),
  (9, .bipush (-2), [0, 2], []),
  (11, .ireturn, [0], []),
  (12, .bipush 36, [36], []),
  (14, .iload_n 1, [], []),
  (15, .imul, [], []),
  (16, .istore_n 2, [], []),
  (17, .iconst 0, [0], []),
  (18, .istore_n 3, [], []),
  (19, .iload_n 3, [], []),
  (20, .bipush 7, [7], []),
  (22, .if_icmp .ge 23, [45], []),
  (25, .aload_n 0, [], []),
  (26, .getfield 60, [22, 9], [803]),
  (29, .iload_n 2, [], []),
  (30, .iload_n 3, [], []),
  (31, .iadd, [], []),
  (32, .aload_n 0, [], []),
  (33, .getfield 16, [3, 9], [784]),
  (36, .iload_n 3, [], []),
  (37, .iaload, [], []),
  (38, .iastore, [], []),
  (39, .iinc 3 1, [1], []),
  (42, .goto (-23), [19], []),
  (45, .iconst 0, [0], []),
  (46, .istore_n 3, [], []),
  (47, .iload_n 3, [], []),
  (48, .bipush 6, [6], []),
  (50, .if_icmp .ge 26, [76], []),
  (53, .aload_n 0, [], []),
  (54, .getfield 60, [22, 9], [803]),
  (57, .iload_n 2, [], []),
  (58, .bipush 7, [7], []),
  (60, .iadd, [], []),
  (61, .iload_n 3, [], []),
  (62, .iadd, [], []),
  (63, .aload_n 0, [], []),
  (64, .getfield 20, [4, 9], [785]),
  (67, .iload_n 3, [], []),
  (68, .iaload, [], []),
  (69, .iastore, [], []),
  (70, .iinc 3 1, [1], []),
  (73, .goto (-26), [47], []),
  (76, .iconst 0, [0], []),
  (77, .istore_n 3, [], []),
  (78, .iload_n 3, [], []),
  (79, .bipush 18, [18], []),
  (81, .if_icmp .ge 26, [107], []),
  (84, .aload_n 0, [], []),
  (85, .getfield 60, [22, 9], [803]),
  (88, .iload_n 2, [], []),
  (89, .bipush 13, [13], []),
  (91, .iadd, [], []),
  (92, .iload_n 3, [], []),
  (93, .iadd, [], []),
  (94, .aload_n 0, [], []),
  (95, .getfield 23, [6, 9], [787]),
  (98, .iload_n 3, [], []),
  (99, .iaload, [], []),
  (100, .iastore, [], []),
  (101, .iinc 3 1, [1], []),
  (104, .goto (-26), [78], []),
  (107, .aload_n 0, [], []),
  (108, .getfield 60, [22, 9], [803]),
  (111, .iload_n 2, [], []),
  (112, .bipush 31, [31], []),
  (114, .iadd, [], []),
  (115, .aload_n 0, [], []),
  (116, .getfield 7, [0, 9], [781]),
  (119, .iastore, [], []),
  (120, .aload_n 0, [], []),
  (121, .getfield 60, [22, 9], [803]),
  (124, .iload_n 2, [], []),
  (125, .bipush 32, [32], []),
  (127, .iadd, [], []),
  (128, .aload_n 0, [], []),
  (129, .getfield 13, [1, 9], [782]),
  (132, .iastore, [], []),
  (133, .aload_n 0, [], []),
  (134, .getfield 60, [22, 9], [803]),
  (137, .iload_n 2, [], []),
  (138, .bipush 33, [33], []),
  (140, .iadd, [], []),
  (141, .aload_n 0, [], []),
  (142, .getfield 77, [2, 9], [783]),
  (145, .iastore, [], []),
  (146, .aload_n 0, [], []),
  (147, .getfield 60, [22, 9], [803]),
  (150, .iload_n 2, [], []),
  (151, .bipush 34, [34], []),
  (153, .iadd, [], []),
  (154, .aload_n 0, [], []),
  (155, .getfield 74, [5, 9], [786]),
  (158, .iastore, [], []),
  (159, .aload_n 0, [], []),
  (160, .getfield 63, [23, 9], [804]),
  (163, .iload_n 1, [], []),
  (164, .iconst 1, [1], []),
  (165, .bastore, [], []),
  (166, .iconst 1, [1], []),
  (167, .ireturn, [0], [])]
def tb_X10_restore : List (Nat × rI) := [
  (0, .iload_n 1, [], []),
  (1, .iconst 0, [0], []),
  (2, .iconst 1, [1], []),
  (3, .invokestatic 70, [0, 100, 3, 0, 0], [778, 779, 58]),
  (6, .ifCond .ne 6, [12], []),
  (9, .bipush (-2), [0, 2], []),
  (11, .ireturn, [0], []),
  (12, .aload_n 0, [], []),
  (13, .getfield 63, [23, 9], [804]),
  (16, .iload_n 1, [], []),
  (17, .baload, [], []),
  (18, .ifCond .ne 6, [24], []),
  (21, .bipush (-3), [0, 3], []),
  (23, .ireturn, [0], []),
  (24, .bipush 36, [36], []),
  (26, .iload_n 1, [], []),
  (27, .imul, [], []),
  (28, .istore_n 2, [], []),
  (29, .iconst 0, [0], []),
  (30, .istore_n 3, [], []),
  (31, .iload_n 3, [], []),
  (32, .bipush 7, [7], []),
  (34, .if_icmp .ge 23, [57], []),
  (37, .aload_n 0, [], []),
  (38, .getfield 16, [3, 9], [784]),
  (41, .iload_n 3, [], []),
  (42, .aload_n 0, [], []),
  (43, .getfield 60, [22, 9], [803]),
  (46, .iload_n 2, [], []),
  (47, .iload_n 3, [], []),
  (48, .iadd, [], []),
  (49, .iaload, [], []),
  (50, .iastore, [], []),
  (51, .iinc 3 1, [1], []),
  (54, .goto (-23), [31], []),
  (57, .iconst 0, [0], []),
  (58, .istore_n 3, [], []),
  (59, .iload_n 3, [], []),
  (60, .bipush 6, [6], []),
  (62, .if_icmp .ge 26, [88], []),
  (65, .aload_n 0, [], []),
  (66, .getfield 20, [4, 9], [785]),
  (69, .iload_n 3, [], []),
  (70, .aload_n 0, [], []),
  (71, .getfield 60, [22, 9], [803]),
  (74, .iload_n 2, [], []),
  (75, .bipush 7, [7], []),
  (77, .iadd, [], []),
  (78, .iload_n 3, [], []),
  (79, .iadd, [], []),
  (80, .iaload, [], []),
  (81, .iastore, [], []),
  (82, .iinc 3 1, [1], []),
  (85, .goto (-26), [59], []),
  (88, .iconst 0, [0], []),
  (89, .istore_n 3, [], []),
  (90, .iload_n 3, [], []),
  (91, .bipush 18, [18], []),
  (93, .if_icmp .ge 26, [119], []),
  (96, .aload_n 0, [], []),
  (97, .getfield 23, [6, 9], [787]),
  (100, .iload_n 3, [], []),
  (101, .aload_n 0, [], []),
  (102, .getfield 60, [22, 9], [803]),
  (105, .iload_n 2, [], []),
  (106, .bipush 13, [13], []),
  (108, .iadd, [], []),
  (109, .iload_n 3, [], []),
  (110, .iadd, [], []),
  (111, .iaload, [], []),
  (112, .iastore, [], []),
  (113, .iinc 3 1, [1], []),
  (116, .goto (-26), [90], []),
  (119, .aload_n 0, [], []),
  (120, .aload_n 0, [], []),
  (121, .getfield 60, [22, 9], [803]),
  (124, .iload_n 2, [], []),
  (125, .bipush 31, [31], []),
  (127, .iadd, [], []),
  (128, .iaload, [], []),
  (129, .putfield 7, [0, 0, 0, 9], [781]),
  (132, .aload_n 0, [], []),
  (133, .aload_n 0, [], []),
  (134, .getfield 60, [22, 9], [803]),
  (137, .iload_n 2, [], []),
  (138, .bipush 32, [32], []),
  (140, .iadd, [], []),
  (141, .iaload, [], []),
  (142, .putfield 13, [1, 0, 0, 9], [782]),
  (145, .aload_n 0, [], []),
  (146, .aload_n 0, [], []),
  (147, .getfield 60, [22, 9], [803]),
  (150, .iload_n 2, [], []),
  (151, .bipush 33, [33], []),
  (153, .iadd, [], []),
  (154, .iaload, [], []),
  (155, .putfield 77, [2, 0, 0, 9], [783]),
  (158, .aload_n 0, [], []),
  (159, .aload_n 0, [], []),
  (160, .getfield 60, [22, 9], [803]),
  (163, .iload_n 2, [], []),
  (164, .bipush 34, [34], []),
  (166, .iadd, [], []),
  (167, .iaload, [], []),
  (168, .putfield 74, [5, 0, 0, 9], [786]),
  (171, .iconst 1, [1], []),
  (172, .ireturn, [0], [])]
def tb_X10_told : List (Nat × rI) := [
  (0, .iload_n 1, [], []),
  (1, .bipush 11, [11], []),
  (3, .bipush 16, [16], []),
  (5, .invokestatic 70, [0, 100, 3, 0, 0], [778, 779, 58]),
  (8, .ifCond .eq 29, [37], []),
  (11, .aload_n 0, [], []),
  (12, .iload_n 1, [], []),
  (13, .bipush 10, [10], []),
  (15, .isub, [], []),
  (16, .invokevirtual 94, [0, 1, 9, 103], [894, 896, 18, 58]),
  (19, .ifCond .eq 15, [34], []),
  (22, .aload_n 0, [], []),
  (23, .getfield 16, [3, 9], [784]),
  (26, .iload_n 1, [], []),
  (27, .bipush 10, [10], []),
  (29, .isub, [], []),
  (30, .iaload, [], []),
  (31, .goto 5, [36], []),
  (34, .bipush (-2), [0, 2], []),
  (36, .ireturn, [0], []),
  (37, .iload_n 1, [], []),
  (38, .bipush 20, [20], []),
  (40, .bipush 25, [25], []),
  (42, .invokestatic 70, [0, 100, 3, 0, 0], [778, 779, 58]),
  (45, .ifCond .eq 29, [74], []),
  (48, .aload_n 0, [], []),
  (49, .iload_n 1, [], []),
  (50, .bipush 20, [20], []),
  (52, .isub, [], []),
  (53, .invokevirtual 101, [0, 1, 9, 102], [906, 908, 20, 58]),
  (56, .ifCond .eq 15, [71], []),
  (59, .aload_n 0, [], []),
  (60, .getfield 20, [4, 9], [785]),
  (63, .iload_n 1, [], []),
  (64, .bipush 20, [20], []),
  (66, .isub, [], []),
  (67, .iaload, [], []),
  (68, .goto 5, [73], []),
  (71, .bipush (-2), [0, 2], []),
  (73, .ireturn, [0], []),
  (74, .iload_n 1, [], []),
  (75, .tableswitch 49 0 3 #[29, 34, 39, 44], [29, 124, 104, 109, 114, 119], []),
  (104, .aload_n 0, [], []),
  (105, .getfield 80, [7, 9], [788]),
  (108, .ireturn, [0], []),
  (109, .aload_n 0, [], []),
  (110, .getfield 7, [0, 9], [781]),
  (113, .ireturn, [0], []),
  (114, .aload_n 0, [], []),
  (115, .getfield 13, [1, 9], [782]),
  (118, .ireturn, [0], []),
  (119, .aload_n 0, [], []),
  (120, .getfield 77, [2, 9], [783]),
  (123, .ireturn, [0], []),
  (124, .iload_n 1, [], []),
  (125, .iconst 4, [4], []),
  (126, .if_icmp .ne 10, [136], []),
  (129, .aload_n 0, [], []),
  (130, .getfield 74, [5, 9], [786]),
  (133, .goto 5, [138], []),
  (136, .bipush (-2), [0, 2], []),
  (138, .ireturn, [0], [])]
def tb_J6_bitCount_0f7a4 : List (Nat × rI) := [
  (0, .iload_n 0, [], []),
  (1, .iload_n 0, [], []),
  (2, .iconst 1, [1], []),
  (3, .iushr, [], []),
  (4, .ldc_w 265, [1431655765], [604]),
  (7, .iand, [], []),
  (8, .isub, [], []),
  (9, .istore_n 0, [], []),
  (10, .iload_n 0, [], []),
  (11, .ldc_w 266, [858993459], [605]),
  (14, .iand, [], []),
  (15, .iload_n 0, [], []),
  (16, .iconst 2, [2], []),
  (17, .iushr, [], []),
  (18, .ldc_w 266, [858993459], [605]),
  (21, .iand, [], []),
  (22, .iadd, [], []),
  (23, .istore_n 0, [], []),
  (24, .iload_n 0, [], []),
  (25, .iload_n 0, [], []),
  (26, .iconst 4, [4], []),
  (27, .iushr, [], []),
  (28, .iadd, [], []),
  (29, .ldc_w 267, [252645135], [606]),
  (32, .iand, [], []),
  (33, .istore_n 0, [], []),
  (34, .iload_n 0, [], []),
  (35, .iload_n 0, [], []),
  (36, .bipush 8, [8], []),
  (38, .iushr, [], []),
  (39, .iadd, [], []),
  (40, .istore_n 0, [], []),
  (41, .iload_n 0, [], []),
  (42, .iload_n 0, [], []),
  (43, .bipush 16, [16], []),
  (45, .iushr, [], []),
  (46, .iadd, [], []),
  (47, .istore_n 0, [], []),
  (48, .iload_n 0, [], []),
  (49, .bipush 63, [63], []),
  (51, .iand, [], []),
  (52, .ireturn, [0], [])]
def tbL_0 : List (Nat × rI) := [
  (0, .new 7, [8], [61, 62, 48]),
  (3, .dup, [], []),
  (4, .invokespecial 9, [1, 44, 0, 52, 1340], [63, 64, 48]),
  (7, .astore_n 1, [], []),
  (8, .new 10, [9], [767, 768, 58]),
  (11, .dup, [], []),
  (12, .invokespecial 12, [1, 98, 0, 16, 93518], [769, 770, 58]),
  (15, .astore_n 2, [], []),
  (16, .iconst 0, [0], []),
  (17, .istore_n 3, [], []),
  (18, .iload_n 3, [], []),
  (19, .aload_n 0, [], []),
  (20, .arraylength, [], []),
  (21, .iconst 4, [4], []),
  (22, .isub, [], []),
  (23, .if_icmp .gt 981, [1004], []),
  (26, .aload_n 0, [], []),
  (27, .iload_n 3, [], []),
  (28, .iaload, [], []),
  (29, .bipush 31, [31], []),
  (31, .iand, [], []),
  (32, .tableswitch 966 0 28 #[132, 165, 188, 211, 224, 237, 260, 293, 326, 370, 393, 437, 461, 494, 528, 561, 595, 618, 652, 675, 708, 752, 795, 808, 831, 854, 897, 920, 943], [132, 998, 164, 197, 220, 243, 256, 269, 292, 325, 358, 402, 425, 469, 493, 526, 560, 593, 627, 650, 684, 707, 740, 784, 827, 840, 863, 886, 929, 952, 975], []),
  (164, .aload_n 1, [], []),
  (165, .aload_n 0, [], []),
  (166, .iload_n 3, [], []),
  (167, .iconst 1, [1], []),
  (168, .iadd, [], []),
  (169, .iaload, [], []),
  (170, .aload_n 0, [], []),
  (171, .iload_n 3, [], []),
  (172, .iconst 2, [2], []),
  (173, .iadd, [], []),
  (174, .iaload, [], []),
  (175, .invokevirtual 13, [0, 2, 8, 45], [361, 362, 363, 48]),
  (178, .aload_n 2, [], []),
  (179, .aload_n 0, [], []),
  (180, .iload_n 3, [], []),
  (181, .iconst 1, [1], []),
  (182, .iadd, [], []),
  (183, .iaload, [], [])]
def tbL_1 : List (Nat × rI) := [
  (184, .aload_n 0, [], []),
  (185, .iload_n 3, [], []),
  (186, .iconst 2, [2], []),
  (187, .iadd, [], []),
  (188, .iaload, [], []),
  (189, .invokevirtual 17, [0, 2, 9, 104], [854, 855, 856, 58]),
  (192, .if_icmp .eq 806, [998], []),
  (195, .iconst 0, [0], []),
  (196, .ireturn, [1], []),
  (197, .aload_n 1, [], []),
  (198, .aload_n 0, [], []),
  (199, .iload_n 3, [], []),
  (200, .iconst 1, [1], []),
  (201, .iadd, [], []),
  (202, .iaload, [], []),
  (203, .invokevirtual 18, [0, 1, 8, 46], [372, 373, 374, 48]),
  (206, .aload_n 2, [], []),
  (207, .aload_n 0, [], []),
  (208, .iload_n 3, [], []),
  (209, .iconst 1, [1], []),
  (210, .iadd, [], []),
  (211, .iaload, [], []),
  (212, .invokevirtual 22, [0, 1, 9, 105], [858, 859, 860, 58]),
  (215, .if_icmp .eq 783, [998], []),
  (218, .iconst 0, [0], []),
  (219, .ireturn, [1], []),
  (220, .aload_n 1, [], []),
  (221, .aload_n 0, [], []),
  (222, .iload_n 3, [], []),
  (223, .iconst 1, [1], []),
  (224, .iadd, [], []),
  (225, .iaload, [], []),
  (226, .invokevirtual 23, [0, 1, 8, 47], [376, 377, 378, 48]),
  (229, .aload_n 2, [], []),
  (230, .aload_n 0, [], []),
  (231, .iload_n 3, [], []),
  (232, .iconst 1, [1], []),
  (233, .iadd, [], []),
  (234, .iaload, [], []),
  (235, .invokevirtual 26, [0, 1, 9, 106], [862, 863, 864, 58])]
def tbL_2 : List (Nat × rI) := [
  (238, .if_icmp .eq 760, [998], []),
  (241, .iconst 0, [0], []),
  (242, .ireturn, [1], []),
  (243, .aload_n 1, [], []),
  (244, .invokevirtual 27, [0, 0, 8, 48], [380, 381, 382, 48]),
  (247, .aload_n 2, [], []),
  (248, .invokevirtual 31, [0, 0, 9, 107], [866, 867, 868, 58]),
  (251, .if_icmp .eq 747, [998], []),
  (254, .iconst 0, [0], []),
  (255, .ireturn, [1], []),
  (256, .aload_n 1, [], []),
  (257, .invokevirtual 32, [0, 0, 8, 49], [384, 385, 386, 48]),
  (260, .aload_n 2, [], []),
  (261, .invokevirtual 35, [0, 0, 9, 109], [870, 871, 872, 58]),
  (264, .if_icmp .eq 734, [998], []),
  (267, .iconst 0, [0], []),
  (268, .ireturn, [1], []),
  (269, .aload_n 1, [], []),
  (270, .aload_n 0, [], []),
  (271, .iload_n 3, [], []),
  (272, .iconst 1, [1], []),
  (273, .iadd, [], []),
  (274, .iaload, [], []),
  (275, .invokevirtual 36, [0, 1, 8, 50], [392, 393, 394, 48]),
  (278, .aload_n 2, [], []),
  (279, .aload_n 0, [], []),
  (280, .iload_n 3, [], []),
  (281, .iconst 1, [1], []),
  (282, .iadd, [], []),
  (283, .iaload, [], []),
  (284, .invokevirtual 39, [0, 1, 9, 112], [878, 879, 880, 58]),
  (287, .if_icmp .eq 711, [998], []),
  (290, .iconst 0, [0], []),
  (291, .ireturn, [1], []),
  (292, .aload_n 1, [], []),
  (293, .aload_n 0, [], []),
  (294, .iload_n 3, [], []),
  (295, .iconst 1, [1], []),
  (296, .iadd, [], []),
  (297, .iaload, [], [])]
def tbL_3 : List (Nat × rI) := [
  (298, .aload_n 0, [], []),
  (299, .iload_n 3, [], []),
  (300, .iconst 2, [2], []),
  (301, .iadd, [], []),
  (302, .iaload, [], []),
  (303, .invokevirtual 40, [0, 2, 8, 51], [430, 431, 432, 48]),
  (306, .aload_n 2, [], []),
  (307, .aload_n 0, [], []),
  (308, .iload_n 3, [], []),
  (309, .iconst 1, [1], []),
  (310, .iadd, [], []),
  (311, .iaload, [], []),
  (312, .aload_n 0, [], []),
  (313, .iload_n 3, [], []),
  (314, .iconst 2, [2], []),
  (315, .iadd, [], []),
  (316, .iaload, [], []),
  (317, .invokevirtual 43, [0, 2, 9, 113], [890, 891, 892, 58]),
  (320, .if_icmp .eq 678, [998], []),
  (323, .iconst 0, [0], []),
  (324, .ireturn, [1], []),
  (325, .aload_n 1, [], []),
  (326, .aload_n 0, [], []),
  (327, .iload_n 3, [], []),
  (328, .iconst 1, [1], []),
  (329, .iadd, [], []),
  (330, .iaload, [], []),
  (331, .aload_n 0, [], []),
  (332, .iload_n 3, [], []),
  (333, .iconst 2, [2], []),
  (334, .iadd, [], []),
  (335, .iaload, [], []),
  (336, .invokevirtual 44, [0, 2, 8, 52], [442, 443, 444, 48]),
  (339, .aload_n 2, [], []),
  (340, .aload_n 0, [], []),
  (341, .iload_n 3, [], []),
  (342, .iconst 1, [1], []),
  (343, .iadd, [], []),
  (344, .iaload, [], []),
  (345, .aload_n 0, [], [])]
def tbL_4 : List (Nat × rI) := [
  (346, .iload_n 3, [], []),
  (347, .iconst 2, [2], []),
  (348, .iadd, [], []),
  (349, .iaload, [], []),
  (350, .invokevirtual 47, [0, 2, 9, 115], [902, 903, 904, 58]),
  (353, .if_icmp .eq 645, [998], []),
  (356, .iconst 0, [0], []),
  (357, .ireturn, [1], []),
  (358, .aload_n 1, [], []),
  (359, .aload_n 0, [], []),
  (360, .iload_n 3, [], []),
  (361, .iconst 1, [1], []),
  (362, .iadd, [], []),
  (363, .iaload, [], []),
  (364, .aload_n 0, [], []),
  (365, .iload_n 3, [], []),
  (366, .iconst 2, [2], []),
  (367, .iadd, [], []),
  (368, .iaload, [], []),
  (369, .aload_n 0, [], []),
  (370, .iload_n 3, [], []),
  (371, .iconst 3, [3], []),
  (372, .iadd, [], []),
  (373, .iaload, [], []),
  (374, .invokevirtual 48, [0, 3, 8, 53], [450, 451, 452, 48]),
  (377, .aload_n 2, [], []),
  (378, .aload_n 0, [], []),
  (379, .iload_n 3, [], []),
  (380, .iconst 1, [1], []),
  (381, .iadd, [], []),
  (382, .iaload, [], []),
  (383, .aload_n 0, [], []),
  (384, .iload_n 3, [], []),
  (385, .iconst 2, [2], []),
  (386, .iadd, [], []),
  (387, .iaload, [], []),
  (388, .aload_n 0, [], []),
  (389, .iload_n 3, [], []),
  (390, .iconst 3, [3], []),
  (391, .iadd, [], [])]
def tbL_5 : List (Nat × rI) := [
  (392, .iaload, [], []),
  (393, .invokevirtual 52, [0, 3, 9, 129], [910, 911, 912, 58]),
  (396, .lcmp, [], []),
  (397, .ifCond .eq 601, [998], []),
  (400, .iconst 0, [0], []),
  (401, .ireturn, [1], []),
  (402, .aload_n 1, [], []),
  (403, .aload_n 0, [], []),
  (404, .iload_n 3, [], []),
  (405, .iconst 1, [1], []),
  (406, .iadd, [], []),
  (407, .iaload, [], []),
  (408, .invokevirtual 53, [0, 1, 8, 54], [515, 516, 517, 48]),
  (411, .aload_n 2, [], []),
  (412, .aload_n 0, [], []),
  (413, .iload_n 3, [], []),
  (414, .iconst 1, [1], []),
  (415, .iadd, [], []),
  (416, .iaload, [], []),
  (417, .invokevirtual 56, [0, 1, 9, 131], [966, 967, 968, 58]),
  (420, .if_icmp .eq 578, [998], []),
  (423, .iconst 0, [0], []),
  (424, .ireturn, [1], []),
  (425, .aload_n 1, [], []),
  (426, .aload_n 0, [], []),
  (427, .iload_n 3, [], []),
  (428, .iconst 1, [1], []),
  (429, .iadd, [], []),
  (430, .iaload, [], []),
  (431, .aload_n 0, [], []),
  (432, .iload_n 3, [], []),
  (433, .iconst 2, [2], []),
  (434, .iadd, [], []),
  (435, .iaload, [], []),
  (436, .aload_n 0, [], []),
  (437, .iload_n 3, [], []),
  (438, .iconst 3, [3], []),
  (439, .iadd, [], []),
  (440, .iaload, [], []),
  (441, .invokevirtual 57, [0, 3, 8, 55], [523, 524, 525, 48])]
def tbL_6 : List (Nat × rI) := [
  (444, .aload_n 2, [], []),
  (445, .aload_n 0, [], []),
  (446, .iload_n 3, [], []),
  (447, .iconst 1, [1], []),
  (448, .iadd, [], []),
  (449, .iaload, [], []),
  (450, .aload_n 0, [], []),
  (451, .iload_n 3, [], []),
  (452, .iconst 2, [2], []),
  (453, .iadd, [], []),
  (454, .iaload, [], []),
  (455, .aload_n 0, [], []),
  (456, .iload_n 3, [], []),
  (457, .iconst 3, [3], []),
  (458, .iadd, [], []),
  (459, .iaload, [], []),
  (460, .invokevirtual 60, [0, 3, 9, 134], [974, 975, 976, 58]),
  (463, .lcmp, [], []),
  (464, .ifCond .eq 534, [998], []),
  (467, .iconst 0, [0], []),
  (468, .ireturn, [1], []),
  (469, .aload_n 1, [], []),
  (470, .aload_n 0, [], []),
  (471, .iload_n 3, [], []),
  (472, .iconst 1, [1], []),
  (473, .iadd, [], []),
  (474, .iaload, [], []),
  (475, .invokevirtual 61, [0, 1, 8, 56], [537, 538, 539, 48]),
  (478, .aload_n 2, [], []),
  (479, .aload_n 0, [], []),
  (480, .iload_n 3, [], []),
  (481, .iconst 1, [1], []),
  (482, .iadd, [], []),
  (483, .iaload, [], []),
  (484, .invokevirtual 65, [0, 1, 9, 136], [986, 987, 988, 58]),
  (487, .lcmp, [], []),
  (488, .ifCond .eq 510, [998], []),
  (491, .iconst 0, [0], []),
  (492, .ireturn, [1], []),
  (493, .aload_n 1, [], [])]
def tbL_7 : List (Nat × rI) := [
  (494, .aload_n 0, [], []),
  (495, .iload_n 3, [], []),
  (496, .iconst 1, [1], []),
  (497, .iadd, [], []),
  (498, .iaload, [], []),
  (499, .aload_n 0, [], []),
  (500, .iload_n 3, [], []),
  (501, .iconst 2, [2], []),
  (502, .iadd, [], []),
  (503, .iaload, [], []),
  (504, .invokevirtual 66, [0, 2, 8, 57], [554, 555, 556, 48]),
  (507, .aload_n 2, [], []),
  (508, .aload_n 0, [], []),
  (509, .iload_n 3, [], []),
  (510, .iconst 1, [1], []),
  (511, .iadd, [], []),
  (512, .iaload, [], []),
  (513, .aload_n 0, [], []),
  (514, .iload_n 3, [], []),
  (515, .iconst 2, [2], []),
  (516, .iadd, [], []),
  (517, .iaload, [], []),
  (518, .invokevirtual 69, [0, 2, 9, 139], [994, 995, 996, 58]),
  (521, .if_icmp .eq 477, [998], []),
  (524, .iconst 0, [0], []),
  (525, .ireturn, [1], []),
  (526, .aload_n 1, [], []),
  (527, .aload_n 0, [], []),
  (528, .iload_n 3, [], []),
  (529, .iconst 1, [1], []),
  (530, .iadd, [], []),
  (531, .iaload, [], []),
  (532, .aload_n 0, [], []),
  (533, .iload_n 3, [], []),
  (534, .iconst 2, [2], []),
  (535, .iadd, [], []),
  (536, .iaload, [], []),
  (537, .invokevirtual 70, [0, 2, 8, 58], [585, 586, 587, 48]),
  (540, .aload_n 2, [], []),
  (541, .aload_n 0, [], [])]
def tbL_8 : List (Nat × rI) := [
  (542, .iload_n 3, [], []),
  (543, .iconst 1, [1], []),
  (544, .iadd, [], []),
  (545, .iaload, [], []),
  (546, .aload_n 0, [], []),
  (547, .iload_n 3, [], []),
  (548, .iconst 2, [2], []),
  (549, .iadd, [], []),
  (550, .iaload, [], []),
  (551, .invokevirtual 74, [0, 2, 9, 140], [1007, 1008, 1009, 58]),
  (554, .lcmp, [], []),
  (555, .ifCond .eq 443, [998], []),
  (558, .iconst 0, [0], []),
  (559, .ireturn, [1], []),
  (560, .aload_n 1, [], []),
  (561, .aload_n 0, [], []),
  (562, .iload_n 3, [], []),
  (563, .iconst 1, [1], []),
  (564, .iadd, [], []),
  (565, .iaload, [], []),
  (566, .aload_n 0, [], []),
  (567, .iload_n 3, [], []),
  (568, .iconst 2, [2], []),
  (569, .iadd, [], []),
  (570, .iaload, [], []),
  (571, .invokevirtual 75, [0, 2, 8, 59], [589, 590, 591, 48]),
  (574, .aload_n 2, [], []),
  (575, .aload_n 0, [], []),
  (576, .iload_n 3, [], []),
  (577, .iconst 1, [1], []),
  (578, .iadd, [], []),
  (579, .iaload, [], []),
  (580, .aload_n 0, [], []),
  (581, .iload_n 3, [], []),
  (582, .iconst 2, [2], []),
  (583, .iadd, [], []),
  (584, .iaload, [], []),
  (585, .invokevirtual 78, [0, 2, 9, 145], [1011, 1012, 1013, 58]),
  (588, .if_icmp .eq 410, [998], []),
  (591, .iconst 0, [0], [])]
def tbL_9 : List (Nat × rI) := [
  (592, .ireturn, [1], []),
  (593, .aload_n 1, [], []),
  (594, .aload_n 0, [], []),
  (595, .iload_n 3, [], []),
  (596, .iconst 1, [1], []),
  (597, .iadd, [], []),
  (598, .iaload, [], []),
  (599, .aload_n 0, [], []),
  (600, .iload_n 3, [], []),
  (601, .iconst 2, [2], []),
  (602, .iadd, [], []),
  (603, .iaload, [], []),
  (604, .invokevirtual 79, [0, 2, 8, 60], [626, 627, 628, 48]),
  (607, .aload_n 2, [], []),
  (608, .aload_n 0, [], []),
  (609, .iload_n 3, [], []),
  (610, .iconst 1, [1], []),
  (611, .iadd, [], []),
  (612, .iaload, [], []),
  (613, .aload_n 0, [], []),
  (614, .iload_n 3, [], []),
  (615, .iconst 2, [2], []),
  (616, .iadd, [], []),
  (617, .iaload, [], []),
  (618, .invokevirtual 82, [0, 2, 9, 146], [1034, 1035, 1036, 58]),
  (621, .lcmp, [], []),
  (622, .ifCond .eq 376, [998], []),
  (625, .iconst 0, [0], []),
  (626, .ireturn, [1], []),
  (627, .aload_n 1, [], []),
  (628, .aload_n 0, [], []),
  (629, .iload_n 3, [], []),
  (630, .iconst 1, [1], []),
  (631, .iadd, [], []),
  (632, .iaload, [], []),
  (633, .invokevirtual 83, [0, 1, 8, 61], [630, 631, 632, 48]),
  (636, .aload_n 2, [], []),
  (637, .aload_n 0, [], []),
  (638, .iload_n 3, [], []),
  (639, .iconst 1, [1], [])]
def tbL_10 : List (Nat × rI) := [
  (640, .iadd, [], []),
  (641, .iaload, [], []),
  (642, .invokevirtual 86, [0, 1, 9, 148], [1038, 1039, 1040, 58]),
  (645, .if_icmp .eq 353, [998], []),
  (648, .iconst 0, [0], []),
  (649, .ireturn, [1], []),
  (650, .aload_n 1, [], []),
  (651, .aload_n 0, [], []),
  (652, .iload_n 3, [], []),
  (653, .iconst 1, [1], []),
  (654, .iadd, [], []),
  (655, .iaload, [], []),
  (656, .aload_n 0, [], []),
  (657, .iload_n 3, [], []),
  (658, .iconst 2, [2], []),
  (659, .iadd, [], []),
  (660, .iaload, [], []),
  (661, .invokevirtual 87, [0, 2, 8, 62], [638, 639, 640, 48]),
  (664, .aload_n 2, [], []),
  (665, .aload_n 0, [], []),
  (666, .iload_n 3, [], []),
  (667, .iconst 1, [1], []),
  (668, .iadd, [], []),
  (669, .iaload, [], []),
  (670, .aload_n 0, [], []),
  (671, .iload_n 3, [], []),
  (672, .iconst 2, [2], []),
  (673, .iadd, [], []),
  (674, .iaload, [], []),
  (675, .invokevirtual 90, [0, 2, 9, 149], [1046, 1047, 1048, 58]),
  (678, .lcmp, [], []),
  (679, .ifCond .eq 319, [998], []),
  (682, .iconst 0, [0], []),
  (683, .ireturn, [1], []),
  (684, .aload_n 1, [], []),
  (685, .aload_n 0, [], []),
  (686, .iload_n 3, [], []),
  (687, .iconst 1, [1], []),
  (688, .iadd, [], []),
  (689, .iaload, [], [])]
def tbL_11 : List (Nat × rI) := [
  (690, .invokevirtual 91, [0, 1, 8, 63], [643, 644, 645, 48]),
  (693, .aload_n 2, [], []),
  (694, .aload_n 0, [], []),
  (695, .iload_n 3, [], []),
  (696, .iconst 1, [1], []),
  (697, .iadd, [], []),
  (698, .iaload, [], []),
  (699, .invokevirtual 94, [0, 1, 9, 150], [1051, 1052, 1053, 58]),
  (702, .if_icmp .eq 296, [998], []),
  (705, .iconst 0, [0], []),
  (706, .ireturn, [1], []),
  (707, .aload_n 1, [], []),
  (708, .aload_n 0, [], []),
  (709, .iload_n 3, [], []),
  (710, .iconst 1, [1], []),
  (711, .iadd, [], []),
  (712, .iaload, [], []),
  (713, .aload_n 0, [], []),
  (714, .iload_n 3, [], []),
  (715, .iconst 2, [2], []),
  (716, .iadd, [], []),
  (717, .iaload, [], []),
  (718, .invokevirtual 95, [0, 2, 8, 64], [647, 648, 649, 48]),
  (721, .aload_n 2, [], []),
  (722, .aload_n 0, [], []),
  (723, .iload_n 3, [], []),
  (724, .iconst 1, [1], []),
  (725, .iadd, [], []),
  (726, .iaload, [], []),
  (727, .aload_n 0, [], []),
  (728, .iload_n 3, [], []),
  (729, .iconst 2, [2], []),
  (730, .iadd, [], []),
  (731, .iaload, [], []),
  (732, .invokevirtual 98, [0, 2, 9, 154], [1055, 1056, 1057, 58]),
  (735, .if_icmp .eq 263, [998], []),
  (738, .iconst 0, [0], []),
  (739, .ireturn, [1], []),
  (740, .aload_n 1, [], []),
  (741, .aload_n 0, [], [])]
def tbL_12 : List (Nat × rI) := [
  (742, .iload_n 3, [], []),
  (743, .iconst 1, [1], []),
  (744, .iadd, [], []),
  (745, .iaload, [], []),
  (746, .aload_n 0, [], []),
  (747, .iload_n 3, [], []),
  (748, .iconst 2, [2], []),
  (749, .iadd, [], []),
  (750, .iaload, [], []),
  (751, .aload_n 0, [], []),
  (752, .iload_n 3, [], []),
  (753, .iconst 3, [3], []),
  (754, .iadd, [], []),
  (755, .iaload, [], []),
  (756, .invokevirtual 99, [0, 3, 8, 65], [674, 675, 676, 48]),
  (759, .aload_n 2, [], []),
  (760, .aload_n 0, [], []),
  (761, .iload_n 3, [], []),
  (762, .iconst 1, [1], []),
  (763, .iadd, [], []),
  (764, .iaload, [], []),
  (765, .aload_n 0, [], []),
  (766, .iload_n 3, [], []),
  (767, .iconst 2, [2], []),
  (768, .iadd, [], []),
  (769, .iaload, [], []),
  (770, .aload_n 0, [], []),
  (771, .iload_n 3, [], []),
  (772, .iconst 3, [3], []),
  (773, .iadd, [], []),
  (774, .iaload, [], []),
  (775, .invokevirtual 102, [0, 3, 9, 155], [1071, 1072, 1073, 58]),
  (778, .lcmp, [], []),
  (779, .ifCond .eq 219, [998], []),
  (782, .iconst 0, [0], []),
  (783, .ireturn, [1], []),
  (784, .aload_n 1, [], []),
  (785, .aload_n 0, [], []),
  (786, .iload_n 3, [], []),
  (787, .iconst 1, [1], [])]
def tbL_13 : List (Nat × rI) := [
  (788, .iadd, [], []),
  (789, .iaload, [], []),
  (790, .aload_n 0, [], []),
  (791, .iload_n 3, [], []),
  (792, .iconst 2, [2], []),
  (793, .iadd, [], []),
  (794, .iaload, [], []),
  (795, .aload_n 0, [], []),
  (796, .iload_n 3, [], []),
  (797, .iconst 3, [3], []),
  (798, .iadd, [], []),
  (799, .iaload, [], []),
  (800, .invokevirtual 103, [0, 3, 8, 66], [680, 681, 682, 48]),
  (803, .aload_n 2, [], []),
  (804, .aload_n 0, [], []),
  (805, .iload_n 3, [], []),
  (806, .iconst 1, [1], []),
  (807, .iadd, [], []),
  (808, .iaload, [], []),
  (809, .aload_n 0, [], []),
  (810, .iload_n 3, [], []),
  (811, .iconst 2, [2], []),
  (812, .iadd, [], []),
  (813, .iaload, [], []),
  (814, .aload_n 0, [], []),
  (815, .iload_n 3, [], []),
  (816, .iconst 3, [3], []),
  (817, .iadd, [], []),
  (818, .iaload, [], []),
  (819, .invokevirtual 107, [0, 3, 9, 156], [1077, 1078, 1079, 58]),
  (822, .if_icmp .eq 176, [998], []),
  (825, .iconst 0, [0], []),
  (826, .ireturn, [1], []),
  (827, .aload_n 1, [], []),
  (828, .invokevirtual 108, [0, 0, 8, 67], [688, 689, 690, 48]),
  (831, .aload_n 2, [], []),
  (832, .invokevirtual 111, [0, 0, 9, 157], [1081, 1082, 1083, 58]),
  (835, .if_icmp .eq 163, [998], []),
  (838, .iconst 0, [0], []),
  (839, .ireturn, [1], [])]
def tbL_14 : List (Nat × rI) := [
  (840, .aload_n 1, [], []),
  (841, .aload_n 0, [], []),
  (842, .iload_n 3, [], []),
  (843, .iconst 1, [1], []),
  (844, .iadd, [], []),
  (845, .iaload, [], []),
  (846, .invokevirtual 112, [0, 1, 8, 68], [692, 693, 694, 48]),
  (849, .aload_n 2, [], []),
  (850, .aload_n 0, [], []),
  (851, .iload_n 3, [], []),
  (852, .iconst 1, [1], []),
  (853, .iadd, [], []),
  (854, .iaload, [], []),
  (855, .invokevirtual 115, [0, 1, 9, 160], [1085, 1086, 1087, 58]),
  (858, .if_icmp .eq 140, [998], []),
  (861, .iconst 0, [0], []),
  (862, .ireturn, [1], []),
  (863, .aload_n 1, [], []),
  (864, .aload_n 0, [], []),
  (865, .iload_n 3, [], []),
  (866, .iconst 1, [1], []),
  (867, .iadd, [], []),
  (868, .iaload, [], []),
  (869, .invokevirtual 116, [0, 1, 8, 69], [723, 724, 725, 48]),
  (872, .aload_n 2, [], []),
  (873, .aload_n 0, [], []),
  (874, .iload_n 3, [], []),
  (875, .iconst 1, [1], []),
  (876, .iadd, [], []),
  (877, .iaload, [], []),
  (878, .invokevirtual 119, [0, 1, 9, 161], [1097, 1098, 1099, 58]),
  (881, .if_icmp .eq 117, [998], []),
  (884, .iconst 0, [0], []),
  (885, .ireturn, [1], []),
  (886, .aload_n 1, [], []),
  (887, .aload_n 0, [], []),
  (888, .iload_n 3, [], []),
  (889, .iconst 1, [1], []),
  (890, .iadd, [], []),
  (891, .iaload, [], [])]
def tbL_15 : List (Nat × rI) := [
  (892, .aload_n 0, [], []),
  (893, .iload_n 3, [], []),
  (894, .iconst 2, [2], []),
  (895, .iadd, [], []),
  (896, .iaload, [], []),
  (897, .aload_n 0, [], []),
  (898, .iload_n 3, [], []),
  (899, .iconst 3, [3], []),
  (900, .iadd, [], []),
  (901, .iaload, [], []),
  (902, .invokevirtual 120, [0, 3, 8, 70], [731, 732, 733, 48]),
  (905, .aload_n 2, [], []),
  (906, .aload_n 0, [], []),
  (907, .iload_n 3, [], []),
  (908, .iconst 1, [1], []),
  (909, .iadd, [], []),
  (910, .iaload, [], []),
  (911, .aload_n 0, [], []),
  (912, .iload_n 3, [], []),
  (913, .iconst 2, [2], []),
  (914, .iadd, [], []),
  (915, .iaload, [], []),
  (916, .aload_n 0, [], []),
  (917, .iload_n 3, [], []),
  (918, .iconst 3, [3], []),
  (919, .iadd, [], []),
  (920, .iaload, [], []),
  (921, .invokevirtual 123, [0, 3, 9, 162], [1101, 1102, 1103, 58]),
  (924, .if_icmp .eq 74, [998], []),
  (927, .iconst 0, [0], []),
  (928, .ireturn, [1], []),
  (929, .aload_n 1, [], []),
  (930, .aload_n 0, [], []),
  (931, .iload_n 3, [], []),
  (932, .iconst 1, [1], []),
  (933, .iadd, [], []),
  (934, .iaload, [], []),
  (935, .invokevirtual 124, [0, 1, 8, 71], [746, 747, 748, 48]),
  (938, .aload_n 2, [], []),
  (939, .aload_n 0, [], [])]
def tbL_16 : List (Nat × rI) := [
  (940, .iload_n 3, [], []),
  (941, .iconst 1, [1], []),
  (942, .iadd, [], []),
  (943, .iaload, [], []),
  (944, .invokevirtual 127, [0, 1, 9, 163], [1106, 1107, 1108, 58]),
  (947, .if_icmp .eq 51, [998], []),
  (950, .iconst 0, [0], []),
  (951, .ireturn, [1], []),
  (952, .aload_n 1, [], []),
  (953, .aload_n 0, [], []),
  (954, .iload_n 3, [], []),
  (955, .iconst 1, [1], []),
  (956, .iadd, [], []),
  (957, .iaload, [], []),
  (958, .invokevirtual 128, [0, 1, 8, 72], [755, 756, 757, 48]),
  (961, .aload_n 2, [], []),
  (962, .aload_n 0, [], []),
  (963, .iload_n 3, [], []),
  (964, .iconst 1, [1], []),
  (965, .iadd, [], []),
  (966, .iaload, [], []),
  (967, .invokevirtual 131, [0, 1, 9, 164], [1110, 1111, 1112, 58]),
  (970, .if_icmp .eq 28, [998], []),
  (973, .iconst 0, [0], []),
  (974, .ireturn, [1], []),
  (975, .aload_n 1, [], []),
  (976, .aload_n 0, [], []),
  (977, .iload_n 3, [], []),
  (978, .iconst 1, [1], []),
  (979, .iadd, [], []),
  (980, .iaload, [], []),
  (981, .invokevirtual 132, [0, 1, 8, 73], [759, 760, 761, 48]),
  (984, .aload_n 2, [], []),
  (985, .aload_n 0, [], []),
  (986, .iload_n 3, [], []),
  (987, .iconst 1, [1], []),
  (988, .iadd, [], []),
  (989, .iaload, [], []),
  (990, .invokevirtual 135, [0, 1, 9, 165], [1114, 1115, 1116, 58]),
  (993, .if_icmp .eq 5, [998], [])]
def tbL_17 : List (Nat × rI) := [
  (996, .iconst 0, [0], []),
  (997, .ireturn, [1], []),
  (998, .iinc 3 4, [4], []),
  (1001, .goto (-983), [18], []),
  (1004, .iconst 1, [1], []),
  (1005, .ireturn, [1], [])]
def tb_L_law : List (Nat × rI) := tbL_0 ++ (tbL_1 ++ (tbL_2 ++ (tbL_3 ++ (tbL_4 ++ (tbL_5 ++ (tbL_6 ++ (tbL_7 ++ (tbL_8 ++ (tbL_9 ++ (tbL_10 ++ (tbL_11 ++ (tbL_12 ++ (tbL_13 ++ (tbL_14 ++ (tbL_15 ++ (tbL_16 ++ (tbL_17)))))))))))))))))
/-- a method: its name, code, locals, what it returns, its instructions -/
abbrev rP : Type := MethodName × ByteArray × Nat × Option FieldType × List (Nat × rI)
def pgm : List rP := [
  (yX0_init, cX0_init, 1, none, tb_X0_init),
  (yX0_play, cX0_play, 5, (some .int), tb_X0_play),
  (yX0_rank, cX0_rank, 5, (some .int), tb_X0_rank),
  (yX1_init, cX1_init, 1, none, tb_X1_init),
  (yX1_find, cX1_find, 5, none, tb_X1_find),
  (yX1_weightOf, cX1_weightOf, 3, (some .int), tb_X1_weightOf),
  (yX1_judge, cX1_judge, 3, none, tb_X1_judge),
  (yX2_init, cX2_init, 1, none, tb_X2_init),
  (yX2_clear, cX2_clear, 2, none, tb_X2_clear),
  (yX2_write, cX2_write, 3, none, tb_X2_write),
  (yX2_draw, cX2_draw, 7, (some .int), tb_X2_draw),
  (yX2_numberOfLot, cX2_numberOfLot, 4, (some .int), tb_X2_numberOfLot),
  (yX2_writers, cX2_writers, 4, (some .int), tb_X2_writers),
  (yX3_init, cX3_init, 1, none, tb_X3_init),
  (yX3_read, cX3_read, 4, none, tb_X3_read),
  (yX3_bind, cX3_bind, 3, none, tb_X3_bind),
  (yX3_demand, cX3_demand, 2, none, tb_X3_demand),
  (yX3_rows, cX3_rows, 2, (some .int), tb_X3_rows),
  (yX3_bindFirst, cX3_bindFirst, 4, none, tb_X3_bindFirst),
  (yX3_numbersOf, cX3_numbersOf, 5, (some .int), tb_X3_numbersOf),
  (yX4_init, cX4_init, 1, none, tb_X4_init),
  (yX4_meet, cX4_meet, 7, none, tb_X4_meet),
  (yX4_top, cX4_top, 3, (some .int), tb_X4_top),
  (yX4_average, cX4_average, 5, (some .long), tb_X4_average),
  (yX4_surplus, cX4_surplus, 3, (some .long), tb_X4_surplus),
  (yX5_init, cX5_init, 1, none, tb_X5_init),
  (yX5_find, cX5_find, 3, none, tb_X5_find),
  (yX5_numberOf, cX5_numberOf, 3, (some .int), tb_X5_numberOf),
  (yX5_gather, cX5_gather, 4, none, tb_X5_gather),
  (yX5_judge, cX5_judge, 5, none, tb_X5_judge),
  (yX6_init, cX6_init, 1, none, tb_X6_init),
  (yX6_open, cX6_open, 4, none, tb_X6_open),
  (yX6_copy, cX6_copy, 2, none, tb_X6_copy),
  (yX6_addSight, cX6_addSight, 4, none, tb_X6_addSight),
  (yX6_hasMan, cX6_hasMan, 2, (some .boolean), tb_X6_hasMan),
  (yX6_hasNumber, cX6_hasNumber, 2, (some .boolean), tb_X6_hasNumber),
  (yX6_allWeights, cX6_allWeights, 3, (some .int), tb_X6_allWeights),
  (yX6_shares, cX6_shares, 1, (some .int), tb_X6_shares),
  (yX7_init, cX7_init, 1, none, tb_X7_init),
  (yX7_clear, cX7_clear, 4, none, tb_X7_clear),
  (yX7_join, cX7_join, 2, none, tb_X7_join),
  (yX7_run, cX7_run, 3, none, tb_X7_run),
  (yX8_init, cX8_init, 1, none, tb_X8_init),
  (yX8_meet, cX8_meet, 4, none, tb_X8_meet),
  (yX9_init, cX9_init, 1, none, tb_X9_init),
  (yX9_inn, cX9_inn, 4, (some .int), tb_X9_inn),
  (yX9_rule, cX9_rule, 3, (some .int), tb_X9_rule),
  (yX9_say, cX9_say, 2, (some .int), tb_X9_say),
  (yX9_wipe, cX9_wipe, 2, (some .int), tb_X9_wipe),
  (yX9_fault, cX9_fault, 2, (some .int), tb_X9_fault),
  (yX9_wins, cX9_wins, 3, (some .int), tb_X9_wins),
  (yX9_weight, cX9_weight, 5, (some .int), tb_X9_weight),
  (yX9_fool, cX9_fool, 4, (some .int), tb_X9_fool),
  (yX9_worth, cX9_worth, 4, (some .long), tb_X9_worth),
  (yX9_best, cX9_best, 2, (some .int), tb_X9_best),
  (yX9_mean, cX9_mean, 6, (some .long), tb_X9_mean),
  (yX9_nobody, cX9_nobody, 2, (some .long), tb_X9_nobody),
  (yX9_rest, cX9_rest, 3, (some .int), tb_X9_rest),
  (yX9_gap, cX9_gap, 3, (some .long), tb_X9_gap),
  (yX9_friends, cX9_friends, 3, (some .int), tb_X9_friends),
  (yX9_league, cX9_league, 3, (some .long), tb_X9_league),
  (yX9_spy, cX9_spy, 2, (some .int), tb_X9_spy),
  (yX9_spied, cX9_spied, 3, (some .long), tb_X9_spied),
  (yX9_steps, cX9_steps, 5, (some .int), tb_X9_steps),
  (yX9_late, cX9_late, 4, (some .int), tb_X9_late),
  (yX9_prize, cX9_prize, 8, (some .long), tb_X9_prize),
  (yX9_seen, cX9_seen, 4, (some .int), tb_X9_seen),
  (yX9_forget, cX9_forget, 2, (some .int), tb_X9_forget),
  (yX9_fits, cX9_fits, 2, (some .int), tb_X9_fits),
  (yX9_could, cX9_could, 2, (some .int), tb_X9_could),
  (yX9_year, cX9_year, 8, (some .int), tb_X9_year),
  (yX9_image, cX9_image, 2, (some .int), tb_X9_image),
  (yX9_restore, cX9_restore, 2, (some .int), tb_X9_restore),
  (yX9_told, cX9_told, 2, (some .int), tb_X9_told),
  (yX9_toldOfOne, cX9_toldOfOne, 2, (some .int), tb_X9_toldOfOne),
  (yX9_isSize, cX9_isSize, 1, (some .boolean), tb_X9_isSize),
  (yX9_isBit, cX9_isBit, 1, (some .boolean), tb_X9_isBit),
  (yX9_isSum, cX9_isSum, 1, (some .boolean), tb_X9_isSum),
  (yX9_isSet, cX9_isSet, 2, (some .boolean), tb_X9_isSet),
  (yX9_isSlip, cX9_isSlip, 2, (some .boolean), tb_X9_isSlip),
  (yX9_isUntold, cX9_isUntold, 2, (some .boolean), tb_X9_isUntold),
  (yX9_lower, cX9_lower, 2, (some .long), tb_X9_lower),
  (yX9_weighOthers, cX9_weighOthers, 3, none, tb_X9_weighOthers),
  (yX9_weighPad, cX9_weighPad, 3, none, tb_X9_weighPad),
  (yX9_weighAll, cX9_weighAll, 2, none, tb_X9_weighAll),
  (yX9_power, cX9_power, 6, (some .long), tb_X9_power),
  (yX9_lowest, cX9_lowest, 7, (some .long), tb_X9_lowest),
  (yX9_commonDivisor, cX9_commonDivisor, 11, (some .long), tb_X9_commonDivisor),
  (yX9_writersToWin, cX9_writersToWin, 1, (some .int), tb_X9_writersToWin),
  (yX9_numbersWritten, cX9_numbersWritten, 5, (some .int), tb_X9_numbersWritten),
  (yX9_winner, cX9_winner, 6, (some .int), tb_X9_winner),
  (yX9_winning, cX9_winning, 2, (some .int), tb_X9_winning),
  (yX9_place, cX9_place, 10, none, tb_X9_place),
  (yX9_spread, cX9_spread, 4, none, tb_X9_spread),
  (yX9_agree, cX9_agree, 5, none, tb_X9_agree),
  (yX9_choice, cX9_choice, 4, (some .int), tb_X9_choice),
  (yX9_endWith, cX9_endWith, 5, (some .int), tb_X9_endWith),
  (yX9_end, cX9_end, 5, (some .int), tb_X9_end),
  (yX10_init, cX10_init, 1, none, tb_X10_init),
  (yX10_plain, cX10_plain, 2, none, tb_X10_plain),
  (yX10_in, cX10_in, 3, (some .boolean), tb_X10_in),
  (yX10_has, cX10_has, 2, (some .boolean), tb_X10_has),
  (yX10_isMan, cX10_isMan, 2, (some .boolean), tb_X10_isMan),
  (yX10_isNumber, cX10_isNumber, 2, (some .boolean), tb_X10_isNumber),
  (yX10_inn, cX10_inn, 4, (some .int), tb_X10_inn),
  (yX10_rule, cX10_rule, 3, (some .int), tb_X10_rule),
  (yX10_say, cX10_say, 2, (some .int), tb_X10_say),
  (yX10_wipe, cX10_wipe, 2, (some .int), tb_X10_wipe),
  (yX10_faultOf, cX10_faultOf, 2, (some .int), tb_X10_faultOf),
  (yX10_fault, cX10_fault, 1, (some .int), tb_X10_fault),
  (yX10_winner, cX10_winner, 7, (some .int), tb_X10_winner),
  (yX10_nobodyWrote, cX10_nobodyWrote, 2, none, tb_X10_nobodyWrote),
  (yX10_wins, cX10_wins, 5, (some .int), tb_X10_wins),
  (yX10_weight, cX10_weight, 4, (some .int), tb_X10_weight),
  (yX10_allWeights, cX10_allWeights, 3, (some .int), tb_X10_allWeights),
  (yX10_fool, cX10_fool, 4, (some .int), tb_X10_fool),
  (yX10_asWeights, cX10_asWeights, 2, none, tb_X10_asWeights),
  (yX10_power, cX10_power, 6, (some .long), tb_X10_power),
  (yX10_choose, cX10_choose, 4, (some .int), tb_X10_choose),
  (yX10_beginFill, cX10_beginFill, 2, none, tb_X10_beginFill),
  (yX10_nextFill, cX10_nextFill, 3, (some .boolean), tb_X10_nextFill),
  (yX10_waysOfFill, cX10_waysOfFill, 5, (some .long), tb_X10_waysOfFill),
  (yX10_both, cX10_both, 2, none, tb_X10_both),
  (yX10_waysToWin, cX10_waysToWin, 5, (some .long), tb_X10_waysToWin),
  (yX10_sumOfWeights, cX10_sumOfWeights, 3, (some .int), tb_X10_sumOfWeights),
  (yX10_lowOf, cX10_lowOf, 1, (some .long), tb_X10_lowOf),
  (yX10_layOthers, cX10_layOthers, 3, none, tb_X10_layOthers),
  (yX10_worthOf, cX10_worthOf, 4, (some .long), tb_X10_worthOf),
  (yX10_term, cX10_term, 11, (some .long), tb_X10_term),
  (yX10_worth, cX10_worth, 4, (some .long), tb_X10_worth),
  (yX10_bestOf, cX10_bestOf, 7, (some .int), tb_X10_bestOf),
  (yX10_best, cX10_best, 2, (some .int), tb_X10_best),
  (yX10_meanOf, cX10_meanOf, 4, (some .long), tb_X10_meanOf),
  (yX10_gapOf, cX10_gapOf, 1, (some .long), tb_X10_gapOf),
  (yX10_mean, cX10_mean, 4, (some .long), tb_X10_mean),
  (yX10_waysOfNobody, cX10_waysOfNobody, 4, (some .long), tb_X10_waysOfNobody),
  (yX10_nobody, cX10_nobody, 4, (some .long), tb_X10_nobody),
  (yX10_layRest, cX10_layRest, 6, none, tb_X10_layRest),
  (yX10_nextWeights, cX10_nextWeights, 3, (some .boolean), tb_X10_nextWeights),
  (yX10_rest, cX10_rest, 3, (some .int), tb_X10_rest),
  (yX10_gap, cX10_gap, 3, (some .long), tb_X10_gap),
  (yX10_waysOfSet, cX10_waysOfSet, 8, (some .long), tb_X10_waysOfSet),
  (yX10_layAgreed, cX10_layAgreed, 5, (some .boolean), tb_X10_layAgreed),
  (yX10_layLeague, cX10_layLeague, 7, none, tb_X10_layLeague),
  (yX10_isSet, cX10_isSet, 2, (some .boolean), tb_X10_isSet),
  (yX10_friends, cX10_friends, 3, (some .int), tb_X10_friends),
  (yX10_league, cX10_league, 3, (some .long), tb_X10_league),
  (yX10_layTold, cX10_layTold, 4, none, tb_X10_layTold),
  (yX10_spy, cX10_spy, 2, (some .int), tb_X10_spy),
  (yX10_spied, cX10_spied, 3, (some .long), tb_X10_spied),
  (yX10_steps, cX10_steps, 5, (some .int), tb_X10_steps),
  (yX10_hasOf, cX10_hasOf, 3, (some .int), tb_X10_hasOf),
  (yX10_lateEvening, cX10_lateEvening, 9, (some .int), tb_X10_lateEvening),
  (yX10_layWrote, cX10_layWrote, 4, none, tb_X10_layWrote),
  (yX10_late, cX10_late, 5, (some .int), tb_X10_late),
  (yX10_prize, cX10_prize, 8, (some .long), tb_X10_prize),
  (yX10_seen, cX10_seen, 5, (some .int), tb_X10_seen),
  (yX10_forget, cX10_forget, 2, (some .int), tb_X10_forget),
  (yX10_isSeen, cX10_isSeen, 7, (some .boolean), tb_X10_isSeen),
  (yX10_codes, cX10_codes, 3, (some .int), tb_X10_codes),
  (yX10_fits, cX10_fits, 5, (some .int), tb_X10_fits),
  (yX10_could, cX10_could, 4, (some .int), tb_X10_could),
  (yX10_year, cX10_year, 10, (some .int), tb_X10_year),
  (yX10_image, cX10_image, 4, (some .int), tb_X10_image),
  (yX10_restore, cX10_restore, 4, (some .int), tb_X10_restore),
  (yX10_told, cX10_told, 2, (some .int), tb_X10_told),
  (yJ6_bitCount_0f7a4, cJ6_bitCount_0f7a4, 1, (some .int), tb_J6_bitCount_0f7a4)]
end
section
/-! ===== what a program decides of the tables: each instruction is what the code holds, each link is a word of lw_tbl ===== -/
def rBig : List Cond := lw_tbl.filter goodWord
def risN : Cond → Bool
  | .fieldLinkNest .. | .methodLinkNest .. | .declares _ => true
  | _ => false
def rNst : List Cond := lw_tbl.filter risN
def rCl : List vw_C := [(RX0, TX0, 2), (RX1, TX1, 6), (RX2, TX2, 2), (RX3, TX3, 7), (RX4, TX4, 5), (RX5, TX5, 6), (RX6, TX6, 9), (RX8, TX8, 5), (RX9, TX9, 12), (RX10, TX10, 24)]
/-- the word at a place, a good one -/
def rwordB (p : Nat) (w : Cond) : Bool := decide (lw_tbl[p]? = some w) && goodWord w
def rnestB (p : Nat) (w : Cond) : Bool := decide (lw_tbl[p]? = some w) && risN w
theorem rwordB_mem {p : Nat} {w : Cond} (h : rwordB p w = true) : w ∈ rBig := by
  simp only [rwordB, Bool.and_eq_true, decide_eq_true_eq] at h
  exact List.mem_filter.mpr ⟨List.mem_of_getElem? h.1, h.2⟩
theorem rnestB_mem {p : Nat} {w : Cond} (h : rnestB p w = true) : w ∈ rNst := by
  simp only [rnestB, Bool.and_eq_true, decide_eq_true_eq] at h
  exact List.mem_filter.mpr ⟨List.mem_of_getElem? h.1, h.2⟩
def rlen : Instr → List Nat → Nat
  | .bipush _, _ | .ldc _, _ | .iload _, _ | .lload _, _ | .istore _, _ | .lstore _, _ | .newarray _, _ => 2
  | .sipush _, _ | .ldc_w _, _ | .ldc2_w _, _ | .iinc .., _ | .getfield _, _ | .putfield _, _ | .getstatic _, _ | .new _, _ | .anewarray _, _ | .ifCond .., _ | .if_icmp .., _ | .goto _, _ | .invokestatic _, _ | .invokespecial _, _ | .invokevirtual _, _ => 3
  | .tableswitch .., n :: _ => n
  | _, _ => 1
/-- a field of an object of class ci: place q, by the link at place p (and the word 'same field' behind it) -/
def rfieldB (own : String) (idx q ci : Nat) (pos : List Nat) : Bool := match rCl[ci]?, pos with
  | some (_, T, N), [p] => Nat.blt q N && rwordB p (.fieldLink own idx (T q).1 (T q).2.1 (T q).2.2.1)
  | some (C, T, N), [p, p2] => Nat.blt q N && rwordB p (.fieldLink own idx C (T q).2.1 (T q).2.2.1) && rwordB p2 (.sameField C (T q).1 (T q).2.1 (T q).2.2.1)
  | _, _ => false
def rtyB (ci q ty : Nat) : Bool := match rCl[ci]? with
  | some (_, T, _) => match ty, parseFieldDescriptor (T q).2.2.1 with
    | 0, some .int => true
    | 1, some .long => true
    | 2, some (.object _) => true
    | 2, some (.array _) => true
    | 3, some .boolean => true
    | _, _ => false
  | none => false
def rfinB (own : String) (ci q fin : Nat) : Bool := match rCl[ci]? with
  | some (_, T, _) => match fin with
    | 0 => !(T q).2.2.2
    | _ => (T q).2.2.2 && decide ((T q).1 = own)
  | none => false
/-- a callee: its name and how many arguments -/
def rnotMH (s : String) : Bool := decide (s ≠ "java/lang/invoke/MethodHandle") && decide (s ≠ "java/lang/invoke/VarHandle")
def rparB (d : String) (n : Nat) : Bool := decide ((parseMethodDescriptor d).map (fun d => d.parameters.length) = some n)
def ryB (f : Nat) (g : MethodName → Bool) : Bool := match pgm[f]? with
  | some (y, _, _, _, _) => g y
  | none => false
def rUB (own : String) (idx n : Nat) (x : MethodName) : List Nat → List Nat → Bool
  | [], [] => true
  | ci :: f :: ps, p1 :: p2 :: p3 :: pos => (match rCl[ci]? with
      | some (C, _, _) => ryB f (fun y => rwordB p1 (.selects C x y) && rwordB p2 (.instanceMethod y) && rwordB p3 (.initialized y.cls))
      | none => false) && rUB own idx n x ps pos
  | _, _ => false
def rchk (own : String) (init : Bool) (bytes : ByteArray) (e : Nat × rI) : Bool := match e with
  | (pc, i, aux, pos) => decide (decode bytes pc = .ok (i, rlen i aux)) && (match i with
    | .iconst n => decide (Int32.ofInt n = rc aux)
    | .bipush n => decide ((Int8.ofInt n).toInt32 = rc aux)
    | .sipush n => decide ((Int16.ofInt n).toInt32 = rc aux)
    | .iinc _ n => decide (Int32.ofInt n = rc aux)
    | .lconst n => decide (Int64.ofNat n.val = rcL aux)
    | .ldc x | .ldc_w x => (match pos with
      | [p] => rwordB p (.constant own x (rc aux))
      | _ => false)
    | .ldc2_w x => (match pos with
      | [p] => rwordB p (.constantLong own x (rcL aux))
      | _ => false)
    | .goto o | .ifCond _ o | .if_icmp _ o => (match aux with
      | [t] => decide ((pc : Int) + o = (t : Int))
      | _ => false)
    | .tableswitch d lo hi os => (match aux with
      | _ :: t :: ts => decide ((pc : Int) + d = (t : Int)) && decide (lo ≤ hi) && decide (os.toList.length = (hi - lo).toNat + 1) && decide (os.toList.map (fun o => (pc : Int) + o) = ts.map (fun t : Nat => (t : Int)))
      | _ => false)
    | .getfield x => (match aux with
      | q :: cs => cs.all (fun ci => rfieldB own x q ci pos)
      | _ => false)
    | .putfield x => (match aux with
      | q :: fin :: ty :: cs => (decide (fin = 0) || init) && cs.all (fun ci => rfieldB own x q ci pos && rtyB ci q ty && rfinB own ci q fin)
      | _ => false)
    | .getstatic x => (match aux, pos with
      | [r], [kd, p] => (match r with
        | 1000000 => decide (kd = 0) && rwordB p (.fieldLink own x "LeastAlone" "WINNING" "[I")
        | 1000001 => decide (kd = 0) && rwordB p (.fieldLink own x "LeastAlone" "CHOOSE" "[I")
        | 1000002 => decide (kd = 1) && rnestB p (.fieldLinkNest own x "LeastAlone" "BELOW" "[I" "LeastAlone")
        | 1000003 => decide (kd = 1) && rnestB p (.fieldLinkNest own x "LeastAlone" "ONES" "[I" "LeastAlone")
        | _ => false)
      | _, _ => false)
    | .new x => (match aux, pos with
      | [ci], [p1, p2, p3] => (match rCl[ci]? with
        | some (C, _, N) => rwordB p1 (.classLink own x C) && rwordB p2 (.instantiable C N) && rwordB p3 (.initialized C)
        | none => false)
      | _, _ => false)
    | .newarray a => (match pos with
      | [p] => rwordB p (.arrayClass (newarray.typeOf a))
      | _ => false)
    | .anewarray x => (match pos with
      | [p1, _] => rwordB p1 (.classLink own x "LeastAlone$Table")
      | _ => false)
    | .invokestatic x => (match aux, pos with
      | [2], [p1, p2, p3, p4] => rwordB p1 (.methodLink own x arraycopyName) && rwordB p2 (.native arraycopyName) && rwordB p3 (.static arraycopyName) && rwordB p4 (.initialized "java/lang/System")
      | [0, f, n, _, _], [p1, p2, p3] => ryB f (fun y => rwordB p1 (.methodLink own x y) && rwordB p2 (.static y) && rwordB p3 (.initialized y.cls) && rnotMH y.cls && rparB y.desc n)
      | [1, f, n, _, _], [p1, p2, p3] => ryB f (fun y => rnestB p1 (.methodLinkNest own x y "LeastAlone") && rwordB p2 (.static y) && rwordB p3 (.initialized y.cls) && rnotMH y.cls && rparB y.desc n)
      | _, _ => false)
    | .invokespecial x => (match aux, pos with
      | [0], [p1, p2, p3] => rwordB p1 (.methodLink own x Lib.objectInit) && rwordB p2 (.instanceMethod Lib.objectInit) && rwordB p3 (.code Lib.objectInit ⟨#[0xb1]⟩ 1 none)
      | [1, f, n, _, _], [p1, p2, p3] => ryB f (fun y => rwordB p1 (.methodLink own x y) && rwordB p2 (.instanceMethod y) && rwordB p3 (.initialized y.cls) && rnotMH y.cls && rparB y.desc n && decide (y.name = "<init>"))
      | [2, f, n, _, _], [p1, p2, p3] => ryB f (fun y => rnestB p1 (.methodLinkNest own x y "LeastAlone") && rwordB p2 (.instanceMethod y) && rwordB p3 (.initialized y.cls) && rnotMH y.cls && rparB y.desc n && decide (y.name = "<init>"))
      | _, _ => false)
    | .invokevirtual x => (match aux, pos with
      | [0, n, ci, f], [p1, p2, p3, p4] => ryB f (fun y => rwordB p1 (.methodLink own x y) && rwordB p2 (.instanceMethod y) && rwordB p3 (.selects y.cls y y) && rwordB p4 (.initialized y.cls) && rnotMH y.cls && rparB y.desc n && (match rCl[ci]? with
        | some (C, _, _) => decide (C = y.cls)
        | none => false))
      | [1, n, ci, f], [p1, p2, p3, p4] => ryB f (fun y => rnestB p1 (.methodLinkNest own x y "LeastAlone") && rwordB p2 (.instanceMethod y) && rwordB p3 (.selects y.cls y y) && rwordB p4 (.initialized y.cls) && rnotMH y.cls && rparB y.desc n && (match rCl[ci]? with
        | some (C, _, _) => decide (C = y.cls)
        | none => false))
      | 2 :: n :: ps, p1 :: p2 :: p3 :: pos => (match lw_tbl[p1]? with
        | some (.methodLink _ _ q) => rwordB p1 (.methodLink own x q) && rwordB p2 (.sameMethod q.cls "LeastAlone$Tally" q.name q.desc) && rnestB p3 (.declares ⟨"LeastAlone$Tally", q.name, q.desc⟩) && rparB q.desc n && rUB own x n q ps pos
        | _ => false)
      | _, _ => false)
    | .ireturn => decide (aux = [0]) || decide (aux = [1])
    | .lreturn => decide (aux = [2])
    | .return_ => decide (aux = [3])
    | _ => true)
def rretB (ret : Option FieldType) (tb : List (Nat × rI)) : Bool := tb.all (fun e => match e.2.1 with
  | .ireturn => (decide (ret = some .int) && decide (e.2.2.1 = [0])) || (decide (ret = some .boolean) && decide (e.2.2.1 = [1]))
  | .lreturn => decide (ret = some .long)
  | .return_ => decide (ret = none)
  | _ => true)
/-- a method's table is right -/
def rmetB (q : rP) : Bool := match q with
  | (y, bytes, n, ret, tb) => tb.all (rchk y.cls (decide (y.name = "<init>")) bytes) && rretB ret tb && plainName y.cls && Nat.ble n 30
end
section
theorem ok_X0_init : rmetB (yX0_init, cX0_init, 1, none, tb_X0_init) = true := by decide +kernel
theorem ok_X0_play : rmetB (yX0_play, cX0_play, 5, (some .int), tb_X0_play) = true := by decide +kernel
theorem ok_X0_rank : rmetB (yX0_rank, cX0_rank, 5, (some .int), tb_X0_rank) = true := by decide +kernel
theorem ok_X1_init : rmetB (yX1_init, cX1_init, 1, none, tb_X1_init) = true := by decide +kernel
theorem ok_X1_find : rmetB (yX1_find, cX1_find, 5, none, tb_X1_find) = true := by decide +kernel
theorem ok_X1_weightOf : rmetB (yX1_weightOf, cX1_weightOf, 3, (some .int), tb_X1_weightOf) = true := by decide +kernel
theorem ok_X1_judge : rmetB (yX1_judge, cX1_judge, 3, none, tb_X1_judge) = true := by decide +kernel
theorem ok_X2_init : rmetB (yX2_init, cX2_init, 1, none, tb_X2_init) = true := by decide +kernel
theorem ok_X2_clear : rmetB (yX2_clear, cX2_clear, 2, none, tb_X2_clear) = true := by decide +kernel
theorem ok_X2_write : rmetB (yX2_write, cX2_write, 3, none, tb_X2_write) = true := by decide +kernel
theorem ok_X2_draw : rmetB (yX2_draw, cX2_draw, 7, (some .int), tb_X2_draw) = true := by decide +kernel
theorem ok_X2_numberOfLot : rmetB (yX2_numberOfLot, cX2_numberOfLot, 4, (some .int), tb_X2_numberOfLot) = true := by decide +kernel
theorem ok_X2_writers : rmetB (yX2_writers, cX2_writers, 4, (some .int), tb_X2_writers) = true := by decide +kernel
theorem ok_X3_init : rmetB (yX3_init, cX3_init, 1, none, tb_X3_init) = true := by decide +kernel
theorem ok_X3_read : rmetB (yX3_read, cX3_read, 4, none, tb_X3_read) = true := by decide +kernel
theorem ok_X3_bind : rmetB (yX3_bind, cX3_bind, 3, none, tb_X3_bind) = true := by decide +kernel
theorem ok_X3_demand : rmetB (yX3_demand, cX3_demand, 2, none, tb_X3_demand) = true := by decide +kernel
theorem ok_X3_rows : rmetB (yX3_rows, cX3_rows, 2, (some .int), tb_X3_rows) = true := by decide +kernel
theorem ok_X3_bindFirst : rmetB (yX3_bindFirst, cX3_bindFirst, 4, none, tb_X3_bindFirst) = true := by decide +kernel
theorem ok_X3_numbersOf : rmetB (yX3_numbersOf, cX3_numbersOf, 5, (some .int), tb_X3_numbersOf) = true := by decide +kernel
theorem ok_X4_init : rmetB (yX4_init, cX4_init, 1, none, tb_X4_init) = true := by decide +kernel
theorem ok_X4_meet : rmetB (yX4_meet, cX4_meet, 7, none, tb_X4_meet) = true := by decide +kernel
theorem ok_X4_top : rmetB (yX4_top, cX4_top, 3, (some .int), tb_X4_top) = true := by decide +kernel
theorem ok_X4_average : rmetB (yX4_average, cX4_average, 5, (some .long), tb_X4_average) = true := by decide +kernel
theorem ok_X4_surplus : rmetB (yX4_surplus, cX4_surplus, 3, (some .long), tb_X4_surplus) = true := by decide +kernel
theorem ok_X5_init : rmetB (yX5_init, cX5_init, 1, none, tb_X5_init) = true := by decide +kernel
theorem ok_X5_find : rmetB (yX5_find, cX5_find, 3, none, tb_X5_find) = true := by decide +kernel
theorem ok_X5_numberOf : rmetB (yX5_numberOf, cX5_numberOf, 3, (some .int), tb_X5_numberOf) = true := by decide +kernel
theorem ok_X5_gather : rmetB (yX5_gather, cX5_gather, 4, none, tb_X5_gather) = true := by decide +kernel
theorem ok_X5_judge : rmetB (yX5_judge, cX5_judge, 5, none, tb_X5_judge) = true := by decide +kernel
theorem ok_X6_init : rmetB (yX6_init, cX6_init, 1, none, tb_X6_init) = true := by decide +kernel
theorem ok_X6_open : rmetB (yX6_open, cX6_open, 4, none, tb_X6_open) = true := by decide +kernel
theorem ok_X6_copy : rmetB (yX6_copy, cX6_copy, 2, none, tb_X6_copy) = true := by decide +kernel
theorem ok_X6_addSight : rmetB (yX6_addSight, cX6_addSight, 4, none, tb_X6_addSight) = true := by decide +kernel
theorem ok_X6_hasMan : rmetB (yX6_hasMan, cX6_hasMan, 2, (some .boolean), tb_X6_hasMan) = true := by decide +kernel
theorem ok_X6_hasNumber : rmetB (yX6_hasNumber, cX6_hasNumber, 2, (some .boolean), tb_X6_hasNumber) = true := by decide +kernel
theorem ok_X6_allWeights : rmetB (yX6_allWeights, cX6_allWeights, 3, (some .int), tb_X6_allWeights) = true := by decide +kernel
theorem ok_X6_shares : rmetB (yX6_shares, cX6_shares, 1, (some .int), tb_X6_shares) = true := by decide +kernel
theorem ok_X7_init : rmetB (yX7_init, cX7_init, 1, none, tb_X7_init) = true := by decide +kernel
theorem ok_X7_clear : rmetB (yX7_clear, cX7_clear, 4, none, tb_X7_clear) = true := by decide +kernel
theorem ok_X7_join : rmetB (yX7_join, cX7_join, 2, none, tb_X7_join) = true := by decide +kernel
theorem ok_X7_run : rmetB (yX7_run, cX7_run, 3, none, tb_X7_run) = true := by decide +kernel
theorem ok_X8_init : rmetB (yX8_init, cX8_init, 1, none, tb_X8_init) = true := by decide +kernel
theorem ok_X8_meet : rmetB (yX8_meet, cX8_meet, 4, none, tb_X8_meet) = true := by decide +kernel
theorem ok_J6_bitCount_0f7a4 : rmetB (yJ6_bitCount_0f7a4, cJ6_bitCount_0f7a4, 1, (some .int), tb_J6_bitCount_0f7a4) = true := by decide +kernel
end
section
theorem ok_X9_init : rmetB (yX9_init, cX9_init, 1, none, tb_X9_init) = true := by decide +kernel
theorem ok_X9_inn : rmetB (yX9_inn, cX9_inn, 4, (some .int), tb_X9_inn) = true := by decide +kernel
theorem ok_X9_rule : rmetB (yX9_rule, cX9_rule, 3, (some .int), tb_X9_rule) = true := by decide +kernel
theorem ok_X9_say : rmetB (yX9_say, cX9_say, 2, (some .int), tb_X9_say) = true := by decide +kernel
theorem ok_X9_wipe : rmetB (yX9_wipe, cX9_wipe, 2, (some .int), tb_X9_wipe) = true := by decide +kernel
theorem ok_X9_fault : rmetB (yX9_fault, cX9_fault, 2, (some .int), tb_X9_fault) = true := by decide +kernel
theorem ok_X9_wins : rmetB (yX9_wins, cX9_wins, 3, (some .int), tb_X9_wins) = true := by decide +kernel
theorem ok_X9_weight : rmetB (yX9_weight, cX9_weight, 5, (some .int), tb_X9_weight) = true := by decide +kernel
theorem ok_X9_fool : rmetB (yX9_fool, cX9_fool, 4, (some .int), tb_X9_fool) = true := by decide +kernel
theorem ok_X9_worth : rmetB (yX9_worth, cX9_worth, 4, (some .long), tb_X9_worth) = true := by decide +kernel
theorem ok_X9_best : rmetB (yX9_best, cX9_best, 2, (some .int), tb_X9_best) = true := by decide +kernel
theorem ok_X9_mean : rmetB (yX9_mean, cX9_mean, 6, (some .long), tb_X9_mean) = true := by decide +kernel
theorem ok_X9_nobody : rmetB (yX9_nobody, cX9_nobody, 2, (some .long), tb_X9_nobody) = true := by decide +kernel
theorem ok_X9_rest : rmetB (yX9_rest, cX9_rest, 3, (some .int), tb_X9_rest) = true := by decide +kernel
theorem ok_X9_gap : rmetB (yX9_gap, cX9_gap, 3, (some .long), tb_X9_gap) = true := by decide +kernel
theorem ok_X9_friends : rmetB (yX9_friends, cX9_friends, 3, (some .int), tb_X9_friends) = true := by decide +kernel
theorem ok_X9_league : rmetB (yX9_league, cX9_league, 3, (some .long), tb_X9_league) = true := by decide +kernel
theorem ok_X9_spy : rmetB (yX9_spy, cX9_spy, 2, (some .int), tb_X9_spy) = true := by decide +kernel
theorem ok_X9_spied : rmetB (yX9_spied, cX9_spied, 3, (some .long), tb_X9_spied) = true := by decide +kernel
theorem ok_X9_steps : rmetB (yX9_steps, cX9_steps, 5, (some .int), tb_X9_steps) = true := by decide +kernel
theorem ok_X9_late : rmetB (yX9_late, cX9_late, 4, (some .int), tb_X9_late) = true := by decide +kernel
theorem ok_X9_prize : rmetB (yX9_prize, cX9_prize, 8, (some .long), tb_X9_prize) = true := by decide +kernel
theorem ok_X9_seen : rmetB (yX9_seen, cX9_seen, 4, (some .int), tb_X9_seen) = true := by decide +kernel
theorem ok_X9_forget : rmetB (yX9_forget, cX9_forget, 2, (some .int), tb_X9_forget) = true := by decide +kernel
theorem ok_X9_fits : rmetB (yX9_fits, cX9_fits, 2, (some .int), tb_X9_fits) = true := by decide +kernel
theorem ok_X9_could : rmetB (yX9_could, cX9_could, 2, (some .int), tb_X9_could) = true := by decide +kernel
theorem ok_X9_year : rmetB (yX9_year, cX9_year, 8, (some .int), tb_X9_year) = true := by decide +kernel
theorem ok_X9_image : rmetB (yX9_image, cX9_image, 2, (some .int), tb_X9_image) = true := by decide +kernel
theorem ok_X9_restore : rmetB (yX9_restore, cX9_restore, 2, (some .int), tb_X9_restore) = true := by decide +kernel
theorem ok_X9_told : rmetB (yX9_told, cX9_told, 2, (some .int), tb_X9_told) = true := by decide +kernel
theorem ok_X9_toldOfOne : rmetB (yX9_toldOfOne, cX9_toldOfOne, 2, (some .int), tb_X9_toldOfOne) = true := by decide +kernel
theorem ok_X9_isSize : rmetB (yX9_isSize, cX9_isSize, 1, (some .boolean), tb_X9_isSize) = true := by decide +kernel
theorem ok_X9_isBit : rmetB (yX9_isBit, cX9_isBit, 1, (some .boolean), tb_X9_isBit) = true := by decide +kernel
theorem ok_X9_isSum : rmetB (yX9_isSum, cX9_isSum, 1, (some .boolean), tb_X9_isSum) = true := by decide +kernel
theorem ok_X9_isSet : rmetB (yX9_isSet, cX9_isSet, 2, (some .boolean), tb_X9_isSet) = true := by decide +kernel
theorem ok_X9_isSlip : rmetB (yX9_isSlip, cX9_isSlip, 2, (some .boolean), tb_X9_isSlip) = true := by decide +kernel
theorem ok_X9_isUntold : rmetB (yX9_isUntold, cX9_isUntold, 2, (some .boolean), tb_X9_isUntold) = true := by decide +kernel
theorem ok_X9_lower : rmetB (yX9_lower, cX9_lower, 2, (some .long), tb_X9_lower) = true := by decide +kernel
theorem ok_X9_weighOthers : rmetB (yX9_weighOthers, cX9_weighOthers, 3, none, tb_X9_weighOthers) = true := by decide +kernel
theorem ok_X9_weighPad : rmetB (yX9_weighPad, cX9_weighPad, 3, none, tb_X9_weighPad) = true := by decide +kernel
theorem ok_X9_weighAll : rmetB (yX9_weighAll, cX9_weighAll, 2, none, tb_X9_weighAll) = true := by decide +kernel
theorem ok_X9_power : rmetB (yX9_power, cX9_power, 6, (some .long), tb_X9_power) = true := by decide +kernel
theorem ok_X9_lowest : rmetB (yX9_lowest, cX9_lowest, 7, (some .long), tb_X9_lowest) = true := by decide +kernel
theorem ok_X9_commonDivisor : rmetB (yX9_commonDivisor, cX9_commonDivisor, 11, (some .long), tb_X9_commonDivisor) = true := by decide +kernel
theorem ok_X9_writersToWin : rmetB (yX9_writersToWin, cX9_writersToWin, 1, (some .int), tb_X9_writersToWin) = true := by decide +kernel
theorem ok_X9_numbersWritten : rmetB (yX9_numbersWritten, cX9_numbersWritten, 5, (some .int), tb_X9_numbersWritten) = true := by decide +kernel
theorem ok_X9_winner : rmetB (yX9_winner, cX9_winner, 6, (some .int), tb_X9_winner) = true := by decide +kernel
theorem ok_X9_winning : rmetB (yX9_winning, cX9_winning, 2, (some .int), tb_X9_winning) = true := by decide +kernel
theorem ok_X9_place : rmetB (yX9_place, cX9_place, 10, none, tb_X9_place) = true := by decide +kernel
theorem ok_X9_spread : rmetB (yX9_spread, cX9_spread, 4, none, tb_X9_spread) = true := by decide +kernel
theorem ok_X9_agree : rmetB (yX9_agree, cX9_agree, 5, none, tb_X9_agree) = true := by decide +kernel
theorem ok_X9_choice : rmetB (yX9_choice, cX9_choice, 4, (some .int), tb_X9_choice) = true := by decide +kernel
theorem ok_X9_endWith : rmetB (yX9_endWith, cX9_endWith, 5, (some .int), tb_X9_endWith) = true := by decide +kernel
theorem ok_X9_end : rmetB (yX9_end, cX9_end, 5, (some .int), tb_X9_end) = true := by decide +kernel
end
section
theorem ok_X10_init : rmetB (yX10_init, cX10_init, 1, none, tb_X10_init) = true := by decide +kernel
theorem ok_X10_plain : rmetB (yX10_plain, cX10_plain, 2, none, tb_X10_plain) = true := by decide +kernel
theorem ok_X10_in : rmetB (yX10_in, cX10_in, 3, (some .boolean), tb_X10_in) = true := by decide +kernel
theorem ok_X10_has : rmetB (yX10_has, cX10_has, 2, (some .boolean), tb_X10_has) = true := by decide +kernel
theorem ok_X10_isMan : rmetB (yX10_isMan, cX10_isMan, 2, (some .boolean), tb_X10_isMan) = true := by decide +kernel
theorem ok_X10_isNumber : rmetB (yX10_isNumber, cX10_isNumber, 2, (some .boolean), tb_X10_isNumber) = true := by decide +kernel
theorem ok_X10_inn : rmetB (yX10_inn, cX10_inn, 4, (some .int), tb_X10_inn) = true := by decide +kernel
theorem ok_X10_rule : rmetB (yX10_rule, cX10_rule, 3, (some .int), tb_X10_rule) = true := by decide +kernel
theorem ok_X10_say : rmetB (yX10_say, cX10_say, 2, (some .int), tb_X10_say) = true := by decide +kernel
theorem ok_X10_wipe : rmetB (yX10_wipe, cX10_wipe, 2, (some .int), tb_X10_wipe) = true := by decide +kernel
theorem ok_X10_faultOf : rmetB (yX10_faultOf, cX10_faultOf, 2, (some .int), tb_X10_faultOf) = true := by decide +kernel
theorem ok_X10_fault : rmetB (yX10_fault, cX10_fault, 1, (some .int), tb_X10_fault) = true := by decide +kernel
theorem ok_X10_winner : rmetB (yX10_winner, cX10_winner, 7, (some .int), tb_X10_winner) = true := by decide +kernel
theorem ok_X10_nobodyWrote : rmetB (yX10_nobodyWrote, cX10_nobodyWrote, 2, none, tb_X10_nobodyWrote) = true := by decide +kernel
theorem ok_X10_wins : rmetB (yX10_wins, cX10_wins, 5, (some .int), tb_X10_wins) = true := by decide +kernel
theorem ok_X10_weight : rmetB (yX10_weight, cX10_weight, 4, (some .int), tb_X10_weight) = true := by decide +kernel
theorem ok_X10_allWeights : rmetB (yX10_allWeights, cX10_allWeights, 3, (some .int), tb_X10_allWeights) = true := by decide +kernel
theorem ok_X10_fool : rmetB (yX10_fool, cX10_fool, 4, (some .int), tb_X10_fool) = true := by decide +kernel
theorem ok_X10_asWeights : rmetB (yX10_asWeights, cX10_asWeights, 2, none, tb_X10_asWeights) = true := by decide +kernel
theorem ok_X10_power : rmetB (yX10_power, cX10_power, 6, (some .long), tb_X10_power) = true := by decide +kernel
theorem ok_X10_choose : rmetB (yX10_choose, cX10_choose, 4, (some .int), tb_X10_choose) = true := by decide +kernel
theorem ok_X10_beginFill : rmetB (yX10_beginFill, cX10_beginFill, 2, none, tb_X10_beginFill) = true := by decide +kernel
theorem ok_X10_nextFill : rmetB (yX10_nextFill, cX10_nextFill, 3, (some .boolean), tb_X10_nextFill) = true := by decide +kernel
theorem ok_X10_waysOfFill : rmetB (yX10_waysOfFill, cX10_waysOfFill, 5, (some .long), tb_X10_waysOfFill) = true := by decide +kernel
theorem ok_X10_both : rmetB (yX10_both, cX10_both, 2, none, tb_X10_both) = true := by decide +kernel
theorem ok_X10_waysToWin : rmetB (yX10_waysToWin, cX10_waysToWin, 5, (some .long), tb_X10_waysToWin) = true := by decide +kernel
theorem ok_X10_sumOfWeights : rmetB (yX10_sumOfWeights, cX10_sumOfWeights, 3, (some .int), tb_X10_sumOfWeights) = true := by decide +kernel
theorem ok_X10_lowOf : rmetB (yX10_lowOf, cX10_lowOf, 1, (some .long), tb_X10_lowOf) = true := by decide +kernel
theorem ok_X10_layOthers : rmetB (yX10_layOthers, cX10_layOthers, 3, none, tb_X10_layOthers) = true := by decide +kernel
theorem ok_X10_worthOf : rmetB (yX10_worthOf, cX10_worthOf, 4, (some .long), tb_X10_worthOf) = true := by decide +kernel
theorem ok_X10_term : rmetB (yX10_term, cX10_term, 11, (some .long), tb_X10_term) = true := by decide +kernel
theorem ok_X10_worth : rmetB (yX10_worth, cX10_worth, 4, (some .long), tb_X10_worth) = true := by decide +kernel
theorem ok_X10_bestOf : rmetB (yX10_bestOf, cX10_bestOf, 7, (some .int), tb_X10_bestOf) = true := by decide +kernel
theorem ok_X10_best : rmetB (yX10_best, cX10_best, 2, (some .int), tb_X10_best) = true := by decide +kernel
theorem ok_X10_meanOf : rmetB (yX10_meanOf, cX10_meanOf, 4, (some .long), tb_X10_meanOf) = true := by decide +kernel
theorem ok_X10_gapOf : rmetB (yX10_gapOf, cX10_gapOf, 1, (some .long), tb_X10_gapOf) = true := by decide +kernel
theorem ok_X10_mean : rmetB (yX10_mean, cX10_mean, 4, (some .long), tb_X10_mean) = true := by decide +kernel
theorem ok_X10_waysOfNobody : rmetB (yX10_waysOfNobody, cX10_waysOfNobody, 4, (some .long), tb_X10_waysOfNobody) = true := by decide +kernel
theorem ok_X10_nobody : rmetB (yX10_nobody, cX10_nobody, 4, (some .long), tb_X10_nobody) = true := by decide +kernel
theorem ok_X10_layRest : rmetB (yX10_layRest, cX10_layRest, 6, none, tb_X10_layRest) = true := by decide +kernel
theorem ok_X10_nextWeights : rmetB (yX10_nextWeights, cX10_nextWeights, 3, (some .boolean), tb_X10_nextWeights) = true := by decide +kernel
theorem ok_X10_rest : rmetB (yX10_rest, cX10_rest, 3, (some .int), tb_X10_rest) = true := by decide +kernel
theorem ok_X10_gap : rmetB (yX10_gap, cX10_gap, 3, (some .long), tb_X10_gap) = true := by decide +kernel
theorem ok_X10_waysOfSet : rmetB (yX10_waysOfSet, cX10_waysOfSet, 8, (some .long), tb_X10_waysOfSet) = true := by decide +kernel
theorem ok_X10_layAgreed : rmetB (yX10_layAgreed, cX10_layAgreed, 5, (some .boolean), tb_X10_layAgreed) = true := by decide +kernel
end
section
theorem ok_X10_layLeague : rmetB (yX10_layLeague, cX10_layLeague, 7, none, tb_X10_layLeague) = true := by decide +kernel
theorem ok_X10_isSet : rmetB (yX10_isSet, cX10_isSet, 2, (some .boolean), tb_X10_isSet) = true := by decide +kernel
theorem ok_X10_friends : rmetB (yX10_friends, cX10_friends, 3, (some .int), tb_X10_friends) = true := by decide +kernel
theorem ok_X10_league : rmetB (yX10_league, cX10_league, 3, (some .long), tb_X10_league) = true := by decide +kernel
theorem ok_X10_layTold : rmetB (yX10_layTold, cX10_layTold, 4, none, tb_X10_layTold) = true := by decide +kernel
theorem ok_X10_spy : rmetB (yX10_spy, cX10_spy, 2, (some .int), tb_X10_spy) = true := by decide +kernel
theorem ok_X10_spied : rmetB (yX10_spied, cX10_spied, 3, (some .long), tb_X10_spied) = true := by decide +kernel
theorem ok_X10_steps : rmetB (yX10_steps, cX10_steps, 5, (some .int), tb_X10_steps) = true := by decide +kernel
theorem ok_X10_hasOf : rmetB (yX10_hasOf, cX10_hasOf, 3, (some .int), tb_X10_hasOf) = true := by decide +kernel
theorem ok_X10_lateEvening : rmetB (yX10_lateEvening, cX10_lateEvening, 9, (some .int), tb_X10_lateEvening) = true := by decide +kernel
theorem ok_X10_layWrote : rmetB (yX10_layWrote, cX10_layWrote, 4, none, tb_X10_layWrote) = true := by decide +kernel
theorem ok_X10_late : rmetB (yX10_late, cX10_late, 5, (some .int), tb_X10_late) = true := by decide +kernel
theorem ok_X10_prize : rmetB (yX10_prize, cX10_prize, 8, (some .long), tb_X10_prize) = true := by decide +kernel
theorem ok_X10_seen : rmetB (yX10_seen, cX10_seen, 5, (some .int), tb_X10_seen) = true := by decide +kernel
theorem ok_X10_forget : rmetB (yX10_forget, cX10_forget, 2, (some .int), tb_X10_forget) = true := by decide +kernel
theorem ok_X10_isSeen : rmetB (yX10_isSeen, cX10_isSeen, 7, (some .boolean), tb_X10_isSeen) = true := by decide +kernel
theorem ok_X10_codes : rmetB (yX10_codes, cX10_codes, 3, (some .int), tb_X10_codes) = true := by decide +kernel
theorem ok_X10_fits : rmetB (yX10_fits, cX10_fits, 5, (some .int), tb_X10_fits) = true := by decide +kernel
theorem ok_X10_could : rmetB (yX10_could, cX10_could, 4, (some .int), tb_X10_could) = true := by decide +kernel
theorem ok_X10_year : rmetB (yX10_year, cX10_year, 10, (some .int), tb_X10_year) = true := by decide +kernel
theorem ok_X10_image : rmetB (yX10_image, cX10_image, 4, (some .int), tb_X10_image) = true := by decide +kernel
theorem ok_X10_restore : rmetB (yX10_restore, cX10_restore, 4, (some .int), tb_X10_restore) = true := by decide +kernel
theorem ok_X10_told : rmetB (yX10_told, cX10_told, 2, (some .int), tb_X10_told) = true := by decide +kernel
end
section
theorem okL_0 : tbL_0.all (rchk yL_law.cls (decide (yL_law.name = "<init>")) cL_law) = true := by decide +kernel
theorem okL_1 : tbL_1.all (rchk yL_law.cls (decide (yL_law.name = "<init>")) cL_law) = true := by decide +kernel
theorem okL_2 : tbL_2.all (rchk yL_law.cls (decide (yL_law.name = "<init>")) cL_law) = true := by decide +kernel
theorem okL_3 : tbL_3.all (rchk yL_law.cls (decide (yL_law.name = "<init>")) cL_law) = true := by decide +kernel
theorem okL_4 : tbL_4.all (rchk yL_law.cls (decide (yL_law.name = "<init>")) cL_law) = true := by decide +kernel
theorem okL_5 : tbL_5.all (rchk yL_law.cls (decide (yL_law.name = "<init>")) cL_law) = true := by decide +kernel
theorem okL_6 : tbL_6.all (rchk yL_law.cls (decide (yL_law.name = "<init>")) cL_law) = true := by decide +kernel
theorem okL_7 : tbL_7.all (rchk yL_law.cls (decide (yL_law.name = "<init>")) cL_law) = true := by decide +kernel
theorem okL_8 : tbL_8.all (rchk yL_law.cls (decide (yL_law.name = "<init>")) cL_law) = true := by decide +kernel
theorem okL_9 : tbL_9.all (rchk yL_law.cls (decide (yL_law.name = "<init>")) cL_law) = true := by decide +kernel
theorem okL_10 : tbL_10.all (rchk yL_law.cls (decide (yL_law.name = "<init>")) cL_law) = true := by decide +kernel
theorem okL_11 : tbL_11.all (rchk yL_law.cls (decide (yL_law.name = "<init>")) cL_law) = true := by decide +kernel
theorem okL_12 : tbL_12.all (rchk yL_law.cls (decide (yL_law.name = "<init>")) cL_law) = true := by decide +kernel
theorem okL_13 : tbL_13.all (rchk yL_law.cls (decide (yL_law.name = "<init>")) cL_law) = true := by decide +kernel
theorem okL_14 : tbL_14.all (rchk yL_law.cls (decide (yL_law.name = "<init>")) cL_law) = true := by decide +kernel
theorem okL_15 : tbL_15.all (rchk yL_law.cls (decide (yL_law.name = "<init>")) cL_law) = true := by decide +kernel
theorem okL_16 : tbL_16.all (rchk yL_law.cls (decide (yL_law.name = "<init>")) cL_law) = true := by decide +kernel
theorem okL_17 : tbL_17.all (rchk yL_law.cls (decide (yL_law.name = "<init>")) cL_law) = true := by decide +kernel
end
section
theorem ok_L_all : tb_L_law.all (rchk yL_law.cls (decide (yL_law.name = "<init>")) cL_law) = true := by
  simp only [tb_L_law, List.all_append, Bool.and_eq_true]
  exact ⟨okL_0, ⟨okL_1, ⟨okL_2, ⟨okL_3, ⟨okL_4, ⟨okL_5, ⟨okL_6, ⟨okL_7, ⟨okL_8, ⟨okL_9, ⟨okL_10, ⟨okL_11, ⟨okL_12, ⟨okL_13, ⟨okL_14, ⟨okL_15, ⟨okL_16, okL_17⟩⟩⟩⟩⟩⟩⟩⟩⟩⟩⟩⟩⟩⟩⟩⟩⟩
theorem ok_L_law : rmetB (yL_law, cL_law, 4, (some .boolean), tb_L_law) = true := by
  simp only [rmetB, Bool.and_eq_true]
  exact ⟨⟨⟨ok_L_all, by decide +kernel⟩, by decide +kernel⟩, by decide +kernel⟩
set_option maxRecDepth 20000 in
/-- every method of the program is as its table says -/
theorem ok_pgm : ∀ q ∈ pgm, rmetB q = true :=
  List.forall_mem_cons.mpr ⟨ok_X0_init, List.forall_mem_cons.mpr ⟨ok_X0_play, List.forall_mem_cons.mpr ⟨ok_X0_rank, List.forall_mem_cons.mpr ⟨ok_X1_init, List.forall_mem_cons.mpr ⟨ok_X1_find, List.forall_mem_cons.mpr ⟨ok_X1_weightOf, List.forall_mem_cons.mpr ⟨ok_X1_judge, List.forall_mem_cons.mpr ⟨ok_X2_init, List.forall_mem_cons.mpr ⟨ok_X2_clear, List.forall_mem_cons.mpr ⟨ok_X2_write, List.forall_mem_cons.mpr ⟨ok_X2_draw, List.forall_mem_cons.mpr ⟨ok_X2_numberOfLot, List.forall_mem_cons.mpr ⟨ok_X2_writers, List.forall_mem_cons.mpr ⟨ok_X3_init, List.forall_mem_cons.mpr ⟨ok_X3_read, List.forall_mem_cons.mpr ⟨ok_X3_bind, List.forall_mem_cons.mpr ⟨ok_X3_demand, List.forall_mem_cons.mpr ⟨ok_X3_rows, List.forall_mem_cons.mpr ⟨ok_X3_bindFirst, List.forall_mem_cons.mpr ⟨ok_X3_numbersOf, List.forall_mem_cons.mpr ⟨ok_X4_init, List.forall_mem_cons.mpr ⟨ok_X4_meet, List.forall_mem_cons.mpr ⟨ok_X4_top, List.forall_mem_cons.mpr ⟨ok_X4_average, List.forall_mem_cons.mpr ⟨ok_X4_surplus, List.forall_mem_cons.mpr ⟨ok_X5_init, List.forall_mem_cons.mpr ⟨ok_X5_find, List.forall_mem_cons.mpr ⟨ok_X5_numberOf, List.forall_mem_cons.mpr ⟨ok_X5_gather, List.forall_mem_cons.mpr ⟨ok_X5_judge, List.forall_mem_cons.mpr ⟨ok_X6_init, List.forall_mem_cons.mpr ⟨ok_X6_open, List.forall_mem_cons.mpr ⟨ok_X6_copy, List.forall_mem_cons.mpr ⟨ok_X6_addSight, List.forall_mem_cons.mpr ⟨ok_X6_hasMan, List.forall_mem_cons.mpr ⟨ok_X6_hasNumber, List.forall_mem_cons.mpr ⟨ok_X6_allWeights, List.forall_mem_cons.mpr ⟨ok_X6_shares, List.forall_mem_cons.mpr ⟨ok_X7_init, List.forall_mem_cons.mpr ⟨ok_X7_clear, List.forall_mem_cons.mpr ⟨ok_X7_join, List.forall_mem_cons.mpr ⟨ok_X7_run, List.forall_mem_cons.mpr ⟨ok_X8_init, List.forall_mem_cons.mpr ⟨ok_X8_meet, List.forall_mem_cons.mpr ⟨ok_X9_init, List.forall_mem_cons.mpr ⟨ok_X9_inn, List.forall_mem_cons.mpr ⟨ok_X9_rule, List.forall_mem_cons.mpr ⟨ok_X9_say, List.forall_mem_cons.mpr ⟨ok_X9_wipe, List.forall_mem_cons.mpr ⟨ok_X9_fault, List.forall_mem_cons.mpr ⟨ok_X9_wins, List.forall_mem_cons.mpr ⟨ok_X9_weight, List.forall_mem_cons.mpr ⟨ok_X9_fool, List.forall_mem_cons.mpr ⟨ok_X9_worth, List.forall_mem_cons.mpr ⟨ok_X9_best, List.forall_mem_cons.mpr ⟨ok_X9_mean, List.forall_mem_cons.mpr ⟨ok_X9_nobody, List.forall_mem_cons.mpr ⟨ok_X9_rest, List.forall_mem_cons.mpr ⟨ok_X9_gap, List.forall_mem_cons.mpr ⟨ok_X9_friends, List.forall_mem_cons.mpr ⟨ok_X9_league, List.forall_mem_cons.mpr ⟨ok_X9_spy, List.forall_mem_cons.mpr ⟨ok_X9_spied, List.forall_mem_cons.mpr ⟨ok_X9_steps, List.forall_mem_cons.mpr ⟨ok_X9_late, List.forall_mem_cons.mpr ⟨ok_X9_prize, List.forall_mem_cons.mpr ⟨ok_X9_seen, List.forall_mem_cons.mpr ⟨ok_X9_forget, List.forall_mem_cons.mpr ⟨ok_X9_fits, List.forall_mem_cons.mpr ⟨ok_X9_could, List.forall_mem_cons.mpr ⟨ok_X9_year, List.forall_mem_cons.mpr ⟨ok_X9_image, List.forall_mem_cons.mpr ⟨ok_X9_restore, List.forall_mem_cons.mpr ⟨ok_X9_told, List.forall_mem_cons.mpr ⟨ok_X9_toldOfOne, List.forall_mem_cons.mpr ⟨ok_X9_isSize, List.forall_mem_cons.mpr ⟨ok_X9_isBit, List.forall_mem_cons.mpr ⟨ok_X9_isSum, List.forall_mem_cons.mpr ⟨ok_X9_isSet, List.forall_mem_cons.mpr ⟨ok_X9_isSlip, List.forall_mem_cons.mpr ⟨ok_X9_isUntold, List.forall_mem_cons.mpr ⟨ok_X9_lower, List.forall_mem_cons.mpr ⟨ok_X9_weighOthers, List.forall_mem_cons.mpr ⟨ok_X9_weighPad, List.forall_mem_cons.mpr ⟨ok_X9_weighAll, List.forall_mem_cons.mpr ⟨ok_X9_power, List.forall_mem_cons.mpr ⟨ok_X9_lowest, List.forall_mem_cons.mpr ⟨ok_X9_commonDivisor, List.forall_mem_cons.mpr ⟨ok_X9_writersToWin, List.forall_mem_cons.mpr ⟨ok_X9_numbersWritten, List.forall_mem_cons.mpr ⟨ok_X9_winner, List.forall_mem_cons.mpr ⟨ok_X9_winning, List.forall_mem_cons.mpr ⟨ok_X9_place, List.forall_mem_cons.mpr ⟨ok_X9_spread, List.forall_mem_cons.mpr ⟨ok_X9_agree, List.forall_mem_cons.mpr ⟨ok_X9_choice, List.forall_mem_cons.mpr ⟨ok_X9_endWith, List.forall_mem_cons.mpr ⟨ok_X9_end, List.forall_mem_cons.mpr ⟨ok_X10_init, List.forall_mem_cons.mpr ⟨ok_X10_plain, List.forall_mem_cons.mpr ⟨ok_X10_in, List.forall_mem_cons.mpr ⟨ok_X10_has, List.forall_mem_cons.mpr ⟨ok_X10_isMan, List.forall_mem_cons.mpr ⟨ok_X10_isNumber, List.forall_mem_cons.mpr ⟨ok_X10_inn, List.forall_mem_cons.mpr ⟨ok_X10_rule, List.forall_mem_cons.mpr ⟨ok_X10_say, List.forall_mem_cons.mpr ⟨ok_X10_wipe, List.forall_mem_cons.mpr ⟨ok_X10_faultOf, List.forall_mem_cons.mpr ⟨ok_X10_fault, List.forall_mem_cons.mpr ⟨ok_X10_winner, List.forall_mem_cons.mpr ⟨ok_X10_nobodyWrote, List.forall_mem_cons.mpr ⟨ok_X10_wins, List.forall_mem_cons.mpr ⟨ok_X10_weight, List.forall_mem_cons.mpr ⟨ok_X10_allWeights, List.forall_mem_cons.mpr ⟨ok_X10_fool, List.forall_mem_cons.mpr ⟨ok_X10_asWeights, List.forall_mem_cons.mpr ⟨ok_X10_power, List.forall_mem_cons.mpr ⟨ok_X10_choose, List.forall_mem_cons.mpr ⟨ok_X10_beginFill, List.forall_mem_cons.mpr ⟨ok_X10_nextFill, List.forall_mem_cons.mpr ⟨ok_X10_waysOfFill, List.forall_mem_cons.mpr ⟨ok_X10_both, List.forall_mem_cons.mpr ⟨ok_X10_waysToWin, List.forall_mem_cons.mpr ⟨ok_X10_sumOfWeights, List.forall_mem_cons.mpr ⟨ok_X10_lowOf, List.forall_mem_cons.mpr ⟨ok_X10_layOthers, List.forall_mem_cons.mpr ⟨ok_X10_worthOf, List.forall_mem_cons.mpr ⟨ok_X10_term, List.forall_mem_cons.mpr ⟨ok_X10_worth, List.forall_mem_cons.mpr ⟨ok_X10_bestOf, List.forall_mem_cons.mpr ⟨ok_X10_best, List.forall_mem_cons.mpr ⟨ok_X10_meanOf, List.forall_mem_cons.mpr ⟨ok_X10_gapOf, List.forall_mem_cons.mpr ⟨ok_X10_mean, List.forall_mem_cons.mpr ⟨ok_X10_waysOfNobody, List.forall_mem_cons.mpr ⟨ok_X10_nobody, List.forall_mem_cons.mpr ⟨ok_X10_layRest, List.forall_mem_cons.mpr ⟨ok_X10_nextWeights, List.forall_mem_cons.mpr ⟨ok_X10_rest, List.forall_mem_cons.mpr ⟨ok_X10_gap, List.forall_mem_cons.mpr ⟨ok_X10_waysOfSet, List.forall_mem_cons.mpr ⟨ok_X10_layAgreed, List.forall_mem_cons.mpr ⟨ok_X10_layLeague, List.forall_mem_cons.mpr ⟨ok_X10_isSet, List.forall_mem_cons.mpr ⟨ok_X10_friends, List.forall_mem_cons.mpr ⟨ok_X10_league, List.forall_mem_cons.mpr ⟨ok_X10_layTold, List.forall_mem_cons.mpr ⟨ok_X10_spy, List.forall_mem_cons.mpr ⟨ok_X10_spied, List.forall_mem_cons.mpr ⟨ok_X10_steps, List.forall_mem_cons.mpr ⟨ok_X10_hasOf, List.forall_mem_cons.mpr ⟨ok_X10_lateEvening, List.forall_mem_cons.mpr ⟨ok_X10_layWrote, List.forall_mem_cons.mpr ⟨ok_X10_late, List.forall_mem_cons.mpr ⟨ok_X10_prize, List.forall_mem_cons.mpr ⟨ok_X10_seen, List.forall_mem_cons.mpr ⟨ok_X10_forget, List.forall_mem_cons.mpr ⟨ok_X10_isSeen, List.forall_mem_cons.mpr ⟨ok_X10_codes, List.forall_mem_cons.mpr ⟨ok_X10_fits, List.forall_mem_cons.mpr ⟨ok_X10_could, List.forall_mem_cons.mpr ⟨ok_X10_year, List.forall_mem_cons.mpr ⟨ok_X10_image, List.forall_mem_cons.mpr ⟨ok_X10_restore, List.forall_mem_cons.mpr ⟨ok_X10_told, List.forall_mem_cons.mpr ⟨ok_J6_bitCount_0f7a4, fun _ h => absurd h List.not_mem_nil⟩⟩⟩⟩⟩⟩⟩⟩⟩⟩⟩⟩⟩⟩⟩⟩⟩⟩⟩⟩⟩⟩⟩⟩⟩⟩⟩⟩⟩⟩⟩⟩⟩⟩⟩⟩⟩⟩⟩⟩⟩⟩⟩⟩⟩⟩⟩⟩⟩⟩⟩⟩⟩⟩⟩⟩⟩⟩⟩⟩⟩⟩⟩⟩⟩⟩⟩⟩⟩⟩⟩⟩⟩⟩⟩⟩⟩⟩⟩⟩⟩⟩⟩⟩⟩⟩⟩⟩⟩⟩⟩⟩⟩⟩⟩⟩⟩⟩⟩⟩⟩⟩⟩⟩⟩⟩⟩⟩⟩⟩⟩⟩⟩⟩⟩⟩⟩⟩⟩⟩⟩⟩⟩⟩⟩⟩⟩⟩⟩⟩⟩⟩⟩⟩⟩⟩⟩⟩⟩⟩⟩⟩⟩⟩⟩⟩⟩⟩⟩⟩⟩⟩⟩⟩⟩⟩⟩⟩⟩⟩⟩⟩⟩⟩⟩⟩⟩
theorem tb1_in {w : Cond} (h : w ∈ tables_1_1 ∨ w ∈ tables_1_2 ∨ w ∈ tables_1_3 ∨ w ∈ tables_1_4 ∨ w ∈ tables_1_5) (hg : goodWord w = true) : w ∈ rBig := by
  refine List.mem_filter.mpr ⟨List.mem_append_right _ ?_, hg⟩
  show w ∈ tables_1_1 ++ (tables_1_2 ++ (tables_1_3 ++ (tables_1_4 ++ tables_1_5)))
  simpa only [List.mem_append] using h
set_option maxRecDepth 20000 in
theorem cw_X0_init : Cond.code yX0_init cX0_init 1 none ∈ rBig := tb1_in (Or.inl (List.mem_of_getElem? (i := 234) rfl)) rfl
set_option maxRecDepth 20000 in
theorem cw_X0_play : Cond.code yX0_play cX0_play 5 (some .int) ∈ rBig := tb1_in (Or.inr (Or.inr (Or.inl (List.mem_of_getElem? (i := 127) rfl)))) rfl
set_option maxRecDepth 20000 in
theorem cw_X0_rank : Cond.code yX0_rank cX0_rank 5 (some .int) ∈ rBig := tb1_in (Or.inr (Or.inr (Or.inl (List.mem_of_getElem? (i := 141) rfl)))) rfl
set_option maxRecDepth 20000 in
theorem cw_X1_init : Cond.code yX1_init cX1_init 1 none ∈ rBig := tb1_in (Or.inl (List.mem_of_getElem? (i := 171) rfl)) rfl
set_option maxRecDepth 20000 in
theorem cw_X1_find : Cond.code yX1_find cX1_find 5 none ∈ rBig := tb1_in (Or.inr (Or.inr (Or.inl (List.mem_of_getElem? (i := 37) rfl)))) rfl
set_option maxRecDepth 20000 in
theorem cw_X1_weightOf : Cond.code yX1_weightOf cX1_weightOf 3 (some .int) ∈ rBig := tb1_in (Or.inr (Or.inr (Or.inl (List.mem_of_getElem? (i := 57) rfl)))) rfl
set_option maxRecDepth 20000 in
theorem cw_X1_judge : Cond.code yX1_judge cX1_judge 3 none ∈ rBig := tb1_in (Or.inr (Or.inr (Or.inl (List.mem_of_getElem? (i := 48) rfl)))) rfl
set_option maxRecDepth 20000 in
theorem cw_X2_init : Cond.code yX2_init cX2_init 1 none ∈ rBig := tb1_in (Or.inl (List.mem_of_getElem? (i := 89) rfl)) rfl
set_option maxRecDepth 20000 in
theorem cw_X2_clear : Cond.code yX2_clear cX2_clear 2 none ∈ rBig := tb1_in (Or.inr (Or.inl (List.mem_of_getElem? (i := 120) rfl))) rfl
set_option maxRecDepth 20000 in
theorem cw_X2_write : Cond.code yX2_write cX2_write 3 none ∈ rBig := tb1_in (Or.inr (Or.inl (List.mem_of_getElem? (i := 124) rfl))) rfl
set_option maxRecDepth 20000 in
theorem cw_X2_draw : Cond.code yX2_draw cX2_draw 7 (some .int) ∈ rBig := tb1_in (Or.inr (Or.inr (Or.inl (List.mem_of_getElem? (i := 211) rfl)))) rfl
set_option maxRecDepth 20000 in
theorem cw_X2_numberOfLot : Cond.code yX2_numberOfLot cX2_numberOfLot 4 (some .int) ∈ rBig := tb1_in (Or.inr (Or.inr (Or.inl (List.mem_of_getElem? (i := 217) rfl)))) rfl
set_option maxRecDepth 20000 in
theorem cw_X2_writers : Cond.code yX2_writers cX2_writers 4 (some .int) ∈ rBig := tb1_in (Or.inr (Or.inl (List.mem_of_getElem? (i := 142) rfl))) rfl
set_option maxRecDepth 20000 in
theorem cw_X3_init : Cond.code yX3_init cX3_init 1 none ∈ rBig := tb1_in (Or.inr (Or.inl (List.mem_of_getElem? (i := 10) rfl))) rfl
set_option maxRecDepth 20000 in
theorem cw_X3_read : Cond.code yX3_read cX3_read 4 none ∈ rBig := tb1_in (Or.inr (Or.inr (Or.inl (List.mem_of_getElem? (i := 172) rfl)))) rfl
set_option maxRecDepth 20000 in
theorem cw_X3_bind : Cond.code yX3_bind cX3_bind 3 none ∈ rBig := tb1_in (Or.inr (Or.inr (Or.inl (List.mem_of_getElem? (i := 176) rfl)))) rfl
set_option maxRecDepth 20000 in
theorem cw_X3_demand : Cond.code yX3_demand cX3_demand 2 none ∈ rBig := tb1_in (Or.inr (Or.inr (Or.inl (List.mem_of_getElem? (i := 180) rfl)))) rfl
set_option maxRecDepth 20000 in
theorem cw_X3_rows : Cond.code yX3_rows cX3_rows 2 (some .int) ∈ rBig := tb1_in (Or.inr (Or.inr (Or.inl (List.mem_of_getElem? (i := 184) rfl)))) rfl
set_option maxRecDepth 20000 in
theorem cw_X3_bindFirst : Cond.code yX3_bindFirst cX3_bindFirst 4 none ∈ rBig := tb1_in (Or.inr (Or.inr (Or.inl (List.mem_of_getElem? (i := 194) rfl)))) rfl
set_option maxRecDepth 20000 in
theorem cw_X3_numbersOf : Cond.code yX3_numbersOf cX3_numbersOf 5 (some .int) ∈ rBig := tb1_in (Or.inr (Or.inr (Or.inl (List.mem_of_getElem? (i := 203) rfl)))) rfl
set_option maxRecDepth 20000 in
theorem cw_X4_init : Cond.code yX4_init cX4_init 1 none ∈ rBig := tb1_in (Or.inl (List.mem_of_getElem? (i := 105) rfl)) rfl
set_option maxRecDepth 20000 in
theorem cw_X4_meet : Cond.code yX4_meet cX4_meet 7 none ∈ rBig := tb1_in (Or.inr (Or.inl (List.mem_of_getElem? (i := 202) rfl))) rfl
set_option maxRecDepth 20000 in
theorem cw_X4_top : Cond.code yX4_top cX4_top 3 (some .int) ∈ rBig := tb1_in (Or.inr (Or.inl (List.mem_of_getElem? (i := 235) rfl))) rfl
set_option maxRecDepth 20000 in
theorem cw_X4_average : Cond.code yX4_average cX4_average 5 (some .long) ∈ rBig := tb1_in (Or.inr (Or.inr (Or.inl (List.mem_of_getElem? (i := 3) rfl)))) rfl
set_option maxRecDepth 20000 in
theorem cw_X4_surplus : Cond.code yX4_surplus cX4_surplus 3 (some .long) ∈ rBig := tb1_in (Or.inr (Or.inr (Or.inl (List.mem_of_getElem? (i := 7) rfl)))) rfl
set_option maxRecDepth 20000 in
theorem cw_X5_init : Cond.code yX5_init cX5_init 1 none ∈ rBig := tb1_in (Or.inl (List.mem_of_getElem? (i := 202) rfl)) rfl
set_option maxRecDepth 20000 in
theorem cw_X5_find : Cond.code yX5_find cX5_find 3 none ∈ rBig := tb1_in (Or.inr (Or.inr (Or.inl (List.mem_of_getElem? (i := 73) rfl)))) rfl
set_option maxRecDepth 20000 in
theorem cw_X5_numberOf : Cond.code yX5_numberOf cX5_numberOf 3 (some .int) ∈ rBig := tb1_in (Or.inr (Or.inr (Or.inl (List.mem_of_getElem? (i := 98) rfl)))) rfl
set_option maxRecDepth 20000 in
theorem cw_X5_gather : Cond.code yX5_gather cX5_gather 4 none ∈ rBig := tb1_in (Or.inr (Or.inr (Or.inl (List.mem_of_getElem? (i := 86) rfl)))) rfl
set_option maxRecDepth 20000 in
theorem cw_X5_judge : Cond.code yX5_judge cX5_judge 5 none ∈ rBig := tb1_in (Or.inr (Or.inr (Or.inl (List.mem_of_getElem? (i := 92) rfl)))) rfl
set_option maxRecDepth 20000 in
theorem cw_X6_init : Cond.code yX6_init cX6_init 1 none ∈ rBig := tb1_in (Or.inl (List.mem_of_getElem? (i := 26) rfl)) rfl
set_option maxRecDepth 20000 in
theorem cw_X6_open : Cond.code yX6_open cX6_open 4 none ∈ rBig := tb1_in (Or.inr (Or.inl (List.mem_of_getElem? (i := 84) rfl))) rfl
set_option maxRecDepth 20000 in
theorem cw_X6_copy : Cond.code yX6_copy cX6_copy 2 none ∈ rBig := tb1_in (Or.inr (Or.inr (Or.inl (List.mem_of_getElem? (i := 226) rfl)))) rfl
set_option maxRecDepth 20000 in
theorem cw_X6_addSight : Cond.code yX6_addSight cX6_addSight 4 none ∈ rBig := tb1_in (Or.inr (Or.inr (Or.inl (List.mem_of_getElem? (i := 160) rfl)))) rfl
set_option maxRecDepth 20000 in
theorem cw_X6_hasMan : Cond.code yX6_hasMan cX6_hasMan 2 (some .boolean) ∈ rBig := tb1_in (Or.inr (Or.inl (List.mem_of_getElem? (i := 162) rfl))) rfl
set_option maxRecDepth 20000 in
theorem cw_X6_hasNumber : Cond.code yX6_hasNumber cX6_hasNumber 2 (some .boolean) ∈ rBig := tb1_in (Or.inr (Or.inl (List.mem_of_getElem? (i := 150) rfl))) rfl
set_option maxRecDepth 20000 in
theorem cw_X6_allWeights : Cond.code yX6_allWeights cX6_allWeights 3 (some .int) ∈ rBig := tb1_in (Or.inr (Or.inl (List.mem_of_getElem? (i := 154) rfl))) rfl
set_option maxRecDepth 20000 in
theorem cw_X6_shares : Cond.code yX6_shares cX6_shares 1 (some .int) ∈ rBig := tb1_in (Or.inr (Or.inl (List.mem_of_getElem? (i := 220) rfl))) rfl
set_option maxRecDepth 20000 in
theorem cw_X7_init : Cond.code yX7_init cX7_init 1 none ∈ rBig := tb1_in (Or.inl (List.mem_of_getElem? (i := 108) rfl)) rfl
set_option maxRecDepth 20000 in
theorem cw_X7_clear : Cond.code yX7_clear cX7_clear 4 none ∈ rBig := tb1_in (Or.inr (Or.inl (List.mem_of_getElem? (i := 178) rfl))) rfl
set_option maxRecDepth 20000 in
theorem cw_X7_join : Cond.code yX7_join cX7_join 2 none ∈ rBig := tb1_in (Or.inr (Or.inl (List.mem_of_getElem? (i := 184) rfl))) rfl
set_option maxRecDepth 20000 in
theorem cw_X7_run : Cond.code yX7_run cX7_run 3 none ∈ rBig := tb1_in (Or.inr (Or.inl (List.mem_of_getElem? (i := 190) rfl))) rfl
set_option maxRecDepth 20000 in
theorem cw_X8_init : Cond.code yX8_init cX8_init 1 none ∈ rBig := tb1_in (Or.inl (List.mem_of_getElem? (i := 159) rfl)) rfl
set_option maxRecDepth 20000 in
theorem cw_X8_meet : Cond.code yX8_meet cX8_meet 4 none ∈ rBig := tb1_in (Or.inr (Or.inl (List.mem_of_getElem? (i := 208) rfl))) rfl
set_option maxRecDepth 20000 in
theorem cw_X9_init : Cond.code yX9_init cX9_init 1 none ∈ rBig := tb1_in (Or.inl (List.mem_of_getElem? (i := 18) rfl)) rfl
set_option maxRecDepth 20000 in
theorem cw_X9_inn : Cond.code yX9_inn cX9_inn 4 (some .int) ∈ rBig := tb1_in (Or.inr (Or.inl (List.mem_of_getElem? (i := 77) rfl))) rfl
set_option maxRecDepth 20000 in
theorem cw_X9_rule : Cond.code yX9_rule cX9_rule 3 (some .int) ∈ rBig := tb1_in (Or.inr (Or.inl (List.mem_of_getElem? (i := 88) rfl))) rfl
set_option maxRecDepth 20000 in
theorem cw_X9_say : Cond.code yX9_say cX9_say 2 (some .int) ∈ rBig := tb1_in (Or.inr (Or.inl (List.mem_of_getElem? (i := 92) rfl))) rfl
set_option maxRecDepth 20000 in
theorem cw_X9_wipe : Cond.code yX9_wipe cX9_wipe 2 (some .int) ∈ rBig := tb1_in (Or.inr (Or.inl (List.mem_of_getElem? (i := 96) rfl))) rfl
set_option maxRecDepth 20000 in
theorem cw_X9_fault : Cond.code yX9_fault cX9_fault 2 (some .int) ∈ rBig := tb1_in (Or.inr (Or.inl (List.mem_of_getElem? (i := 100) rfl))) rfl
set_option maxRecDepth 20000 in
theorem cw_X9_wins : Cond.code yX9_wins cX9_wins 3 (some .int) ∈ rBig := tb1_in (Or.inr (Or.inl (List.mem_of_getElem? (i := 108) rfl))) rfl
set_option maxRecDepth 20000 in
theorem cw_X9_weight : Cond.code yX9_weight cX9_weight 5 (some .int) ∈ rBig := tb1_in (Or.inr (Or.inl (List.mem_of_getElem? (i := 146) rfl))) rfl
set_option maxRecDepth 20000 in
theorem cw_X9_fool : Cond.code yX9_fool cX9_fool 4 (some .int) ∈ rBig := tb1_in (Or.inr (Or.inl (List.mem_of_getElem? (i := 158) rfl))) rfl
set_option maxRecDepth 20000 in
theorem cw_X9_worth : Cond.code yX9_worth cX9_worth 4 (some .long) ∈ rBig := tb1_in (Or.inr (Or.inl (List.mem_of_getElem? (i := 166) rfl))) rfl
set_option maxRecDepth 20000 in
theorem cw_X9_best : Cond.code yX9_best cX9_best 2 (some .int) ∈ rBig := tb1_in (Or.inr (Or.inl (List.mem_of_getElem? (i := 231) rfl))) rfl
set_option maxRecDepth 20000 in
theorem cw_X9_mean : Cond.code yX9_mean cX9_mean 6 (some .long) ∈ rBig := tb1_in (Or.inr (Or.inl (List.mem_of_getElem? (i := 239) rfl))) rfl
set_option maxRecDepth 20000 in
theorem cw_X9_nobody : Cond.code yX9_nobody cX9_nobody 2 (some .long) ∈ rBig := tb1_in (Or.inr (Or.inr (Or.inl (List.mem_of_getElem? (i := 13) rfl)))) rfl
set_option maxRecDepth 20000 in
theorem cw_X9_rest : Cond.code yX9_rest cX9_rest 3 (some .int) ∈ rBig := tb1_in (Or.inr (Or.inr (Or.inl (List.mem_of_getElem? (i := 30) rfl)))) rfl
set_option maxRecDepth 20000 in
theorem cw_X9_gap : Cond.code yX9_gap cX9_gap 3 (some .long) ∈ rBig := tb1_in (Or.inr (Or.inr (Or.inl (List.mem_of_getElem? (i := 61) rfl)))) rfl
set_option maxRecDepth 20000 in
theorem cw_X9_friends : Cond.code yX9_friends cX9_friends 3 (some .int) ∈ rBig := tb1_in (Or.inr (Or.inr (Or.inl (List.mem_of_getElem? (i := 65) rfl)))) rfl
set_option maxRecDepth 20000 in
theorem cw_X9_league : Cond.code yX9_league cX9_league 3 (some .long) ∈ rBig := tb1_in (Or.inr (Or.inr (Or.inl (List.mem_of_getElem? (i := 102) rfl)))) rfl
set_option maxRecDepth 20000 in
theorem cw_X9_spy : Cond.code yX9_spy cX9_spy 2 (some .int) ∈ rBig := tb1_in (Or.inr (Or.inr (Or.inl (List.mem_of_getElem? (i := 106) rfl)))) rfl
set_option maxRecDepth 20000 in
theorem cw_X9_spied : Cond.code yX9_spied cX9_spied 3 (some .long) ∈ rBig := tb1_in (Or.inr (Or.inr (Or.inl (List.mem_of_getElem? (i := 114) rfl)))) rfl
set_option maxRecDepth 20000 in
theorem cw_X9_steps : Cond.code yX9_steps cX9_steps 5 (some .int) ∈ rBig := tb1_in (Or.inr (Or.inr (Or.inl (List.mem_of_getElem? (i := 119) rfl)))) rfl
set_option maxRecDepth 20000 in
theorem cw_X9_late : Cond.code yX9_late cX9_late 4 (some .int) ∈ rBig := tb1_in (Or.inr (Or.inr (Or.inl (List.mem_of_getElem? (i := 123) rfl)))) rfl
set_option maxRecDepth 20000 in
theorem cw_X9_prize : Cond.code yX9_prize cX9_prize 8 (some .long) ∈ rBig := tb1_in (Or.inr (Or.inr (Or.inl (List.mem_of_getElem? (i := 150) rfl)))) rfl
set_option maxRecDepth 20000 in
theorem cw_X9_seen : Cond.code yX9_seen cX9_seen 4 (some .int) ∈ rBig := tb1_in (Or.inr (Or.inr (Or.inl (List.mem_of_getElem? (i := 156) rfl)))) rfl
set_option maxRecDepth 20000 in
theorem cw_X9_forget : Cond.code yX9_forget cX9_forget 2 (some .int) ∈ rBig := tb1_in (Or.inr (Or.inr (Or.inl (List.mem_of_getElem? (i := 164) rfl)))) rfl
set_option maxRecDepth 20000 in
theorem cw_X9_fits : Cond.code yX9_fits cX9_fits 2 (some .int) ∈ rBig := tb1_in (Or.inr (Or.inr (Or.inl (List.mem_of_getElem? (i := 168) rfl)))) rfl
set_option maxRecDepth 20000 in
theorem cw_X9_could : Cond.code yX9_could cX9_could 2 (some .int) ∈ rBig := tb1_in (Or.inr (Or.inr (Or.inl (List.mem_of_getElem? (i := 199) rfl)))) rfl
set_option maxRecDepth 20000 in
theorem cw_X9_year : Cond.code yX9_year cX9_year 8 (some .int) ∈ rBig := tb1_in (Or.inr (Or.inr (Or.inl (List.mem_of_getElem? (i := 207) rfl)))) rfl
set_option maxRecDepth 20000 in
theorem cw_X9_image : Cond.code yX9_image cX9_image 2 (some .int) ∈ rBig := tb1_in (Or.inr (Or.inr (Or.inl (List.mem_of_getElem? (i := 222) rfl)))) rfl
set_option maxRecDepth 20000 in
theorem cw_X9_restore : Cond.code yX9_restore cX9_restore 2 (some .int) ∈ rBig := tb1_in (Or.inr (Or.inr (Or.inl (List.mem_of_getElem? (i := 231) rfl)))) rfl
set_option maxRecDepth 20000 in
theorem cw_X9_told : Cond.code yX9_told cX9_told 2 (some .int) ∈ rBig := tb1_in (Or.inr (Or.inr (Or.inl (List.mem_of_getElem? (i := 235) rfl)))) rfl
set_option maxRecDepth 20000 in
theorem cw_X9_toldOfOne : Cond.code yX9_toldOfOne cX9_toldOfOne 2 (some .int) ∈ rBig := tb1_in (Or.inr (Or.inr (Or.inl (List.mem_of_getElem? (i := 239) rfl)))) rfl
set_option maxRecDepth 20000 in
theorem cw_X9_isSize : Cond.code yX9_isSize cX9_isSize 1 (some .boolean) ∈ rBig := tb1_in (Or.inr (Or.inl (List.mem_of_getElem? (i := 80) rfl))) rfl
set_option maxRecDepth 20000 in
theorem cw_X9_isBit : Cond.code yX9_isBit cX9_isBit 1 (some .boolean) ∈ rBig := tb1_in (Or.inr (Or.inl (List.mem_of_getElem? (i := 111) rfl))) rfl
set_option maxRecDepth 20000 in
theorem cw_X9_isSum : Cond.code yX9_isSum cX9_isSum 1 (some .boolean) ∈ rBig := tb1_in (Or.inr (Or.inr (Or.inl (List.mem_of_getElem? (i := 33) rfl)))) rfl
set_option maxRecDepth 20000 in
theorem cw_X9_isSet : Cond.code yX9_isSet cX9_isSet 2 (some .boolean) ∈ rBig := tb1_in (Or.inr (Or.inr (Or.inl (List.mem_of_getElem? (i := 69) rfl)))) rfl
set_option maxRecDepth 20000 in
theorem cw_X9_isSlip : Cond.code yX9_isSlip cX9_isSlip 2 (some .boolean) ∈ rBig := tb1_in (Or.inr (Or.inl (List.mem_of_getElem? (i := 104) rfl))) rfl
set_option maxRecDepth 20000 in
theorem cw_X9_isUntold : Cond.code yX9_isUntold cX9_isUntold 2 (some .boolean) ∈ rBig := tb1_in (Or.inr (Or.inl (List.mem_of_getElem? (i := 116) rfl))) rfl
set_option maxRecDepth 20000 in
theorem cw_X9_lower : Cond.code yX9_lower cX9_lower 2 (some .long) ∈ rBig := tb1_in (Or.inr (Or.inl (List.mem_of_getElem? (i := 216) rfl))) rfl
set_option maxRecDepth 20000 in
theorem cw_X9_weighOthers : Cond.code yX9_weighOthers cX9_weighOthers 3 none ∈ rBig := tb1_in (Or.inr (Or.inl (List.mem_of_getElem? (i := 172) rfl))) rfl
set_option maxRecDepth 20000 in
theorem cw_X9_weighPad : Cond.code yX9_weighPad cX9_weighPad 3 none ∈ rBig := tb1_in (Or.inr (Or.inr (Or.inl (List.mem_of_getElem? (i := 110) rfl)))) rfl
set_option maxRecDepth 20000 in
theorem cw_X9_weighAll : Cond.code yX9_weighAll cX9_weighAll 2 none ∈ rBig := tb1_in (Or.inr (Or.inr (Or.inl (List.mem_of_getElem? (i := 17) rfl)))) rfl
set_option maxRecDepth 20000 in
theorem cw_X9_power : Cond.code yX9_power cX9_power 6 (some .long) ∈ rBig := tb1_in (Or.inr (Or.inl (List.mem_of_getElem? (i := 196) rfl))) rfl
set_option maxRecDepth 20000 in
theorem cw_X9_lowest : Cond.code yX9_lowest cX9_lowest 7 (some .long) ∈ rBig := tb1_in (Or.inr (Or.inl (List.mem_of_getElem? (i := 224) rfl))) rfl
set_option maxRecDepth 20000 in
theorem cw_X9_commonDivisor : Cond.code yX9_commonDivisor cX9_commonDivisor 11 (some .long) ∈ rBig := tb1_in (Or.inr (Or.inl (List.mem_of_getElem? (i := 227) rfl))) rfl
set_option maxRecDepth 20000 in
theorem cw_X9_writersToWin : Cond.code yX9_writersToWin cX9_writersToWin 1 (some .int) ∈ rBig := tb1_in (Or.inr (Or.inl (List.mem_of_getElem? (i := 130) rfl))) rfl
set_option maxRecDepth 20000 in
theorem cw_X9_numbersWritten : Cond.code yX9_numbersWritten cX9_numbersWritten 5 (some .int) ∈ rBig := tb1_in (Or.inr (Or.inl (List.mem_of_getElem? (i := 133) rfl))) rfl
set_option maxRecDepth 20000 in
theorem cw_X9_winner : Cond.code yX9_winner cX9_winner 6 (some .int) ∈ rBig := tb1_in (Or.inr (Or.inl (List.mem_of_getElem? (i := 127) rfl))) rfl
set_option maxRecDepth 20000 in
theorem cw_X9_winning : Cond.code yX9_winning cX9_winning 2 (some .int) ∈ rBig := tb1_in (Or.inr (Or.inl (List.mem_of_getElem? (i := 136) rfl))) rfl
set_option maxRecDepth 20000 in
theorem cw_X9_place : Cond.code yX9_place cX9_place 10 none ∈ rBig := tb1_in (Or.inr (Or.inl (List.mem_of_getElem? (i := 193) rfl))) rfl
set_option maxRecDepth 20000 in
theorem cw_X9_spread : Cond.code yX9_spread cX9_spread 4 none ∈ rBig := tb1_in (Or.inr (Or.inr (Or.inl (List.mem_of_getElem? (i := 44) rfl)))) rfl
set_option maxRecDepth 20000 in
theorem cw_X9_agree : Cond.code yX9_agree cX9_agree 5 none ∈ rBig := tb1_in (Or.inr (Or.inr (Or.inl (List.mem_of_getElem? (i := 82) rfl)))) rfl
set_option maxRecDepth 20000 in
theorem cw_X9_choice : Cond.code yX9_choice cX9_choice 4 (some .int) ∈ rBig := tb1_in (Or.inr (Or.inr (Or.inl (List.mem_of_getElem? (i := 131) rfl)))) rfl
set_option maxRecDepth 20000 in
theorem cw_X9_endWith : Cond.code yX9_endWith cX9_endWith 5 (some .int) ∈ rBig := tb1_in (Or.inr (Or.inr (Or.inl (List.mem_of_getElem? (i := 134) rfl)))) rfl
set_option maxRecDepth 20000 in
theorem cw_X9_end : Cond.code yX9_end cX9_end 5 (some .int) ∈ rBig := tb1_in (Or.inr (Or.inr (Or.inl (List.mem_of_getElem? (i := 137) rfl)))) rfl
set_option maxRecDepth 20000 in
theorem cw_X10_init : Cond.code yX10_init cX10_init 1 none ∈ rBig := tb1_in (Or.inr (Or.inr (Or.inr (Or.inl (List.mem_of_getElem? (i := 4) rfl))))) rfl
set_option maxRecDepth 20000 in
theorem cw_X10_plain : Cond.code yX10_plain cX10_plain 2 none ∈ rBig := tb1_in (Or.inr (Or.inr (Or.inr (Or.inl (List.mem_of_getElem? (i := 10) rfl))))) rfl
set_option maxRecDepth 20000 in
theorem cw_X10_in : Cond.code yX10_in cX10_in 3 (some .boolean) ∈ rBig := tb1_in (Or.inr (Or.inr (Or.inr (Or.inl (List.mem_of_getElem? (i := 13) rfl))))) rfl
set_option maxRecDepth 20000 in
theorem cw_X10_has : Cond.code yX10_has cX10_has 2 (some .boolean) ∈ rBig := tb1_in (Or.inr (Or.inr (Or.inr (Or.inr (List.mem_of_getElem? (i := 14) rfl))))) rfl
set_option maxRecDepth 20000 in
theorem cw_X10_isMan : Cond.code yX10_isMan cX10_isMan 2 (some .boolean) ∈ rBig := tb1_in (Or.inr (Or.inr (Or.inr (Or.inl (List.mem_of_getElem? (i := 142) rfl))))) rfl
set_option maxRecDepth 20000 in
theorem cw_X10_isNumber : Cond.code yX10_isNumber cX10_isNumber 2 (some .boolean) ∈ rBig := tb1_in (Or.inr (Or.inr (Or.inr (Or.inl (List.mem_of_getElem? (i := 130) rfl))))) rfl
set_option maxRecDepth 20000 in
theorem cw_X10_inn : Cond.code yX10_inn cX10_inn 4 (some .int) ∈ rBig := tb1_in (Or.inr (Or.inr (Or.inr (Or.inl (List.mem_of_getElem? (i := 90) rfl))))) rfl
set_option maxRecDepth 20000 in
theorem cw_X10_rule : Cond.code yX10_rule cX10_rule 3 (some .int) ∈ rBig := tb1_in (Or.inr (Or.inr (Or.inr (Or.inl (List.mem_of_getElem? (i := 94) rfl))))) rfl
set_option maxRecDepth 20000 in
theorem cw_X10_say : Cond.code yX10_say cX10_say 2 (some .int) ∈ rBig := tb1_in (Or.inr (Or.inr (Or.inr (Or.inl (List.mem_of_getElem? (i := 98) rfl))))) rfl
set_option maxRecDepth 20000 in
theorem cw_X10_wipe : Cond.code yX10_wipe cX10_wipe 2 (some .int) ∈ rBig := tb1_in (Or.inr (Or.inr (Or.inr (Or.inl (List.mem_of_getElem? (i := 102) rfl))))) rfl
set_option maxRecDepth 20000 in
theorem cw_X10_faultOf : Cond.code yX10_faultOf cX10_faultOf 2 (some .int) ∈ rBig := tb1_in (Or.inr (Or.inr (Or.inr (Or.inl (List.mem_of_getElem? (i := 110) rfl))))) rfl
set_option maxRecDepth 20000 in
theorem cw_X10_fault : Cond.code yX10_fault cX10_fault 1 (some .int) ∈ rBig := tb1_in (Or.inr (Or.inr (Or.inr (Or.inl (List.mem_of_getElem? (i := 106) rfl))))) rfl
set_option maxRecDepth 20000 in
theorem cw_X10_winner : Cond.code yX10_winner cX10_winner 7 (some .int) ∈ rBig := tb1_in (Or.inr (Or.inr (Or.inr (Or.inl (List.mem_of_getElem? (i := 122) rfl))))) rfl
set_option maxRecDepth 20000 in
theorem cw_X10_nobodyWrote : Cond.code yX10_nobodyWrote cX10_nobodyWrote 2 none ∈ rBig := tb1_in (Or.inr (Or.inr (Or.inr (Or.inl (List.mem_of_getElem? (i := 118) rfl))))) rfl
set_option maxRecDepth 20000 in
theorem cw_X10_wins : Cond.code yX10_wins cX10_wins 5 (some .int) ∈ rBig := tb1_in (Or.inr (Or.inr (Or.inr (Or.inl (List.mem_of_getElem? (i := 114) rfl))))) rfl
set_option maxRecDepth 20000 in
theorem cw_X10_weight : Cond.code yX10_weight cX10_weight 4 (some .int) ∈ rBig := tb1_in (Or.inr (Or.inr (Or.inr (Or.inl (List.mem_of_getElem? (i := 126) rfl))))) rfl
set_option maxRecDepth 20000 in
theorem cw_X10_allWeights : Cond.code yX10_allWeights cX10_allWeights 3 (some .int) ∈ rBig := tb1_in (Or.inr (Or.inr (Or.inr (Or.inl (List.mem_of_getElem? (i := 134) rfl))))) rfl
set_option maxRecDepth 20000 in
theorem cw_X10_fool : Cond.code yX10_fool cX10_fool 4 (some .int) ∈ rBig := tb1_in (Or.inr (Or.inr (Or.inr (Or.inl (List.mem_of_getElem? (i := 138) rfl))))) rfl
set_option maxRecDepth 20000 in
theorem cw_X10_asWeights : Cond.code yX10_asWeights cX10_asWeights 2 none ∈ rBig := tb1_in (Or.inr (Or.inr (Or.inr (Or.inl (List.mem_of_getElem? (i := 156) rfl))))) rfl
set_option maxRecDepth 20000 in
theorem cw_X10_power : Cond.code yX10_power cX10_power 6 (some .long) ∈ rBig := tb1_in (Or.inr (Or.inr (Or.inr (Or.inl (List.mem_of_getElem? (i := 183) rfl))))) rfl
set_option maxRecDepth 20000 in
theorem cw_X10_choose : Cond.code yX10_choose cX10_choose 4 (some .int) ∈ rBig := tb1_in (Or.inr (Or.inr (Or.inr (Or.inl (List.mem_of_getElem? (i := 180) rfl))))) rfl
set_option maxRecDepth 20000 in
theorem cw_X10_beginFill : Cond.code yX10_beginFill cX10_beginFill 2 none ∈ rBig := tb1_in (Or.inr (Or.inr (Or.inr (Or.inl (List.mem_of_getElem? (i := 168) rfl))))) rfl
set_option maxRecDepth 20000 in
theorem cw_X10_nextFill : Cond.code yX10_nextFill cX10_nextFill 3 (some .boolean) ∈ rBig := tb1_in (Or.inr (Or.inr (Or.inr (Or.inl (List.mem_of_getElem? (i := 187) rfl))))) rfl
set_option maxRecDepth 20000 in
theorem cw_X10_waysOfFill : Cond.code yX10_waysOfFill cX10_waysOfFill 5 (some .long) ∈ rBig := tb1_in (Or.inr (Or.inr (Or.inr (Or.inl (List.mem_of_getElem? (i := 177) rfl))))) rfl
set_option maxRecDepth 20000 in
theorem cw_X10_both : Cond.code yX10_both cX10_both 2 none ∈ rBig := tb1_in (Or.inr (Or.inr (Or.inr (Or.inl (List.mem_of_getElem? (i := 172) rfl))))) rfl
set_option maxRecDepth 20000 in
theorem cw_X10_waysToWin : Cond.code yX10_waysToWin cX10_waysToWin 5 (some .long) ∈ rBig := tb1_in (Or.inr (Or.inr (Or.inr (Or.inl (List.mem_of_getElem? (i := 164) rfl))))) rfl
set_option maxRecDepth 20000 in
theorem cw_X10_sumOfWeights : Cond.code yX10_sumOfWeights cX10_sumOfWeights 3 (some .int) ∈ rBig := tb1_in (Or.inr (Or.inr (Or.inr (Or.inl (List.mem_of_getElem? (i := 195) rfl))))) rfl
set_option maxRecDepth 20000 in
theorem cw_X10_lowOf : Cond.code yX10_lowOf cX10_lowOf 1 (some .long) ∈ rBig := tb1_in (Or.inr (Or.inr (Or.inr (Or.inl (List.mem_of_getElem? (i := 191) rfl))))) rfl
set_option maxRecDepth 20000 in
theorem cw_X10_layOthers : Cond.code yX10_layOthers cX10_layOthers 3 none ∈ rBig := tb1_in (Or.inr (Or.inr (Or.inr (Or.inl (List.mem_of_getElem? (i := 152) rfl))))) rfl
set_option maxRecDepth 20000 in
theorem cw_X10_worthOf : Cond.code yX10_worthOf cX10_worthOf 4 (some .long) ∈ rBig := tb1_in (Or.inr (Or.inr (Or.inr (Or.inl (List.mem_of_getElem? (i := 160) rfl))))) rfl
set_option maxRecDepth 20000 in
theorem cw_X10_term : Cond.code yX10_term cX10_term 11 (some .long) ∈ rBig := tb1_in (Or.inr (Or.inr (Or.inr (Or.inl (List.mem_of_getElem? (i := 198) rfl))))) rfl
set_option maxRecDepth 20000 in
theorem cw_X10_worth : Cond.code yX10_worth cX10_worth 4 (some .long) ∈ rBig := tb1_in (Or.inr (Or.inr (Or.inr (Or.inl (List.mem_of_getElem? (i := 146) rfl))))) rfl
set_option maxRecDepth 20000 in
theorem cw_X10_bestOf : Cond.code yX10_bestOf cX10_bestOf 7 (some .int) ∈ rBig := tb1_in (Or.inr (Or.inr (Or.inr (Or.inl (List.mem_of_getElem? (i := 206) rfl))))) rfl
set_option maxRecDepth 20000 in
theorem cw_X10_best : Cond.code yX10_best cX10_best 2 (some .int) ∈ rBig := tb1_in (Or.inr (Or.inr (Or.inr (Or.inl (List.mem_of_getElem? (i := 202) rfl))))) rfl
set_option maxRecDepth 20000 in
theorem cw_X10_meanOf : Cond.code yX10_meanOf cX10_meanOf 4 (some .long) ∈ rBig := tb1_in (Or.inr (Or.inr (Or.inr (Or.inl (List.mem_of_getElem? (i := 214) rfl))))) rfl
set_option maxRecDepth 20000 in
theorem cw_X10_gapOf : Cond.code yX10_gapOf cX10_gapOf 1 (some .long) ∈ rBig := tb1_in (Or.inr (Or.inr (Or.inr (Or.inl (List.mem_of_getElem? (i := 218) rfl))))) rfl
set_option maxRecDepth 20000 in
theorem cw_X10_mean : Cond.code yX10_mean cX10_mean 4 (some .long) ∈ rBig := tb1_in (Or.inr (Or.inr (Or.inr (Or.inl (List.mem_of_getElem? (i := 210) rfl))))) rfl
set_option maxRecDepth 20000 in
theorem cw_X10_waysOfNobody : Cond.code yX10_waysOfNobody cX10_waysOfNobody 4 (some .long) ∈ rBig := tb1_in (Or.inr (Or.inr (Or.inr (Or.inl (List.mem_of_getElem? (i := 226) rfl))))) rfl
set_option maxRecDepth 20000 in
theorem cw_X10_nobody : Cond.code yX10_nobody cX10_nobody 4 (some .long) ∈ rBig := tb1_in (Or.inr (Or.inr (Or.inr (Or.inl (List.mem_of_getElem? (i := 222) rfl))))) rfl
set_option maxRecDepth 20000 in
theorem cw_X10_layRest : Cond.code yX10_layRest cX10_layRest 6 none ∈ rBig := tb1_in (Or.inr (Or.inr (Or.inr (Or.inl (List.mem_of_getElem? (i := 234) rfl))))) rfl
set_option maxRecDepth 20000 in
theorem cw_X10_nextWeights : Cond.code yX10_nextWeights cX10_nextWeights 3 (some .boolean) ∈ rBig := tb1_in (Or.inr (Or.inr (Or.inr (Or.inl (List.mem_of_getElem? (i := 239) rfl))))) rfl
set_option maxRecDepth 20000 in
theorem cw_X10_rest : Cond.code yX10_rest cX10_rest 3 (some .int) ∈ rBig := tb1_in (Or.inr (Or.inr (Or.inr (Or.inl (List.mem_of_getElem? (i := 230) rfl))))) rfl
set_option maxRecDepth 20000 in
theorem cw_X10_gap : Cond.code yX10_gap cX10_gap 3 (some .long) ∈ rBig := tb1_in (Or.inr (Or.inr (Or.inr (Or.inr (List.mem_of_getElem? (i := 3) rfl))))) rfl
set_option maxRecDepth 20000 in
theorem cw_X10_waysOfSet : Cond.code yX10_waysOfSet cX10_waysOfSet 8 (some .long) ∈ rBig := tb1_in (Or.inr (Or.inr (Or.inr (Or.inr (List.mem_of_getElem? (i := 26) rfl))))) rfl
set_option maxRecDepth 20000 in
theorem cw_X10_layAgreed : Cond.code yX10_layAgreed cX10_layAgreed 5 (some .boolean) ∈ rBig := tb1_in (Or.inr (Or.inr (Or.inr (Or.inr (List.mem_of_getElem? (i := 22) rfl))))) rfl
set_option maxRecDepth 20000 in
theorem cw_X10_layLeague : Cond.code yX10_layLeague cX10_layLeague 7 none ∈ rBig := tb1_in (Or.inr (Or.inr (Or.inr (Or.inr (List.mem_of_getElem? (i := 18) rfl))))) rfl
set_option maxRecDepth 20000 in
theorem cw_X10_isSet : Cond.code yX10_isSet cX10_isSet 2 (some .boolean) ∈ rBig := tb1_in (Or.inr (Or.inr (Or.inr (Or.inr (List.mem_of_getElem? (i := 11) rfl))))) rfl
set_option maxRecDepth 20000 in
theorem cw_X10_friends : Cond.code yX10_friends cX10_friends 3 (some .int) ∈ rBig := tb1_in (Or.inr (Or.inr (Or.inr (Or.inr (List.mem_of_getElem? (i := 7) rfl))))) rfl
set_option maxRecDepth 20000 in
theorem cw_X10_league : Cond.code yX10_league cX10_league 3 (some .long) ∈ rBig := tb1_in (Or.inr (Or.inr (Or.inr (Or.inr (List.mem_of_getElem? (i := 30) rfl))))) rfl
set_option maxRecDepth 20000 in
theorem cw_X10_layTold : Cond.code yX10_layTold cX10_layTold 4 none ∈ rBig := tb1_in (Or.inr (Or.inr (Or.inr (Or.inr (List.mem_of_getElem? (i := 38) rfl))))) rfl
set_option maxRecDepth 20000 in
theorem cw_X10_spy : Cond.code yX10_spy cX10_spy 2 (some .int) ∈ rBig := tb1_in (Or.inr (Or.inr (Or.inr (Or.inr (List.mem_of_getElem? (i := 34) rfl))))) rfl
set_option maxRecDepth 20000 in
theorem cw_X10_spied : Cond.code yX10_spied cX10_spied 3 (some .long) ∈ rBig := tb1_in (Or.inr (Or.inr (Or.inr (Or.inr (List.mem_of_getElem? (i := 42) rfl))))) rfl
set_option maxRecDepth 20000 in
theorem cw_X10_steps : Cond.code yX10_steps cX10_steps 5 (some .int) ∈ rBig := tb1_in (Or.inr (Or.inr (Or.inr (Or.inr (List.mem_of_getElem? (i := 47) rfl))))) rfl
set_option maxRecDepth 20000 in
theorem cw_X10_hasOf : Cond.code yX10_hasOf cX10_hasOf 3 (some .int) ∈ rBig := tb1_in (Or.inr (Or.inr (Or.inr (Or.inr (List.mem_of_getElem? (i := 63) rfl))))) rfl
set_option maxRecDepth 20000 in
theorem cw_X10_lateEvening : Cond.code yX10_lateEvening cX10_lateEvening 9 (some .int) ∈ rBig := tb1_in (Or.inr (Or.inr (Or.inr (Or.inr (List.mem_of_getElem? (i := 55) rfl))))) rfl
set_option maxRecDepth 20000 in
theorem cw_X10_layWrote : Cond.code yX10_layWrote cX10_layWrote 4 none ∈ rBig := tb1_in (Or.inr (Or.inr (Or.inr (Or.inr (List.mem_of_getElem? (i := 59) rfl))))) rfl
set_option maxRecDepth 20000 in
theorem cw_X10_late : Cond.code yX10_late cX10_late 5 (some .int) ∈ rBig := tb1_in (Or.inr (Or.inr (Or.inr (Or.inr (List.mem_of_getElem? (i := 51) rfl))))) rfl
set_option maxRecDepth 20000 in
theorem cw_X10_prize : Cond.code yX10_prize cX10_prize 8 (some .long) ∈ rBig := tb1_in (Or.inr (Or.inr (Or.inr (Or.inr (List.mem_of_getElem? (i := 67) rfl))))) rfl
set_option maxRecDepth 20000 in
theorem cw_X10_seen : Cond.code yX10_seen cX10_seen 5 (some .int) ∈ rBig := tb1_in (Or.inr (Or.inr (Or.inr (Or.inr (List.mem_of_getElem? (i := 73) rfl))))) rfl
set_option maxRecDepth 20000 in
theorem cw_X10_forget : Cond.code yX10_forget cX10_forget 2 (some .int) ∈ rBig := tb1_in (Or.inr (Or.inr (Or.inr (Or.inr (List.mem_of_getElem? (i := 77) rfl))))) rfl
set_option maxRecDepth 20000 in
theorem cw_X10_isSeen : Cond.code yX10_isSeen cX10_isSeen 7 (some .boolean) ∈ rBig := tb1_in (Or.inr (Or.inr (Or.inr (Or.inr (List.mem_of_getElem? (i := 89) rfl))))) rfl
set_option maxRecDepth 20000 in
theorem cw_X10_codes : Cond.code yX10_codes cX10_codes 3 (some .int) ∈ rBig := tb1_in (Or.inr (Or.inr (Or.inr (Or.inr (List.mem_of_getElem? (i := 85) rfl))))) rfl
set_option maxRecDepth 20000 in
theorem cw_X10_fits : Cond.code yX10_fits cX10_fits 5 (some .int) ∈ rBig := tb1_in (Or.inr (Or.inr (Or.inr (Or.inr (List.mem_of_getElem? (i := 81) rfl))))) rfl
set_option maxRecDepth 20000 in
theorem cw_X10_could : Cond.code yX10_could cX10_could 4 (some .int) ∈ rBig := tb1_in (Or.inr (Or.inr (Or.inr (Or.inr (List.mem_of_getElem? (i := 93) rfl))))) rfl
set_option maxRecDepth 20000 in
theorem cw_X10_year : Cond.code yX10_year cX10_year 10 (some .int) ∈ rBig := tb1_in (Or.inr (Or.inr (Or.inr (Or.inr (List.mem_of_getElem? (i := 97) rfl))))) rfl
set_option maxRecDepth 20000 in
theorem cw_X10_image : Cond.code yX10_image cX10_image 4 (some .int) ∈ rBig := tb1_in (Or.inr (Or.inr (Or.inr (Or.inr (List.mem_of_getElem? (i := 102) rfl))))) rfl
set_option maxRecDepth 20000 in
theorem cw_X10_restore : Cond.code yX10_restore cX10_restore 4 (some .int) ∈ rBig := tb1_in (Or.inr (Or.inr (Or.inr (Or.inr (List.mem_of_getElem? (i := 106) rfl))))) rfl
set_option maxRecDepth 20000 in
theorem cw_X10_told : Cond.code yX10_told cX10_told 2 (some .int) ∈ rBig := tb1_in (Or.inr (Or.inr (Or.inr (Or.inr (List.mem_of_getElem? (i := 110) rfl))))) rfl
set_option maxRecDepth 20000 in
theorem cw_J6_bitCount_0f7a4 : Cond.code yJ6_bitCount_0f7a4 cJ6_bitCount_0f7a4 1 (some .int) ∈ rBig := tb1_in (Or.inr (Or.inr (Or.inl (List.mem_of_getElem? (i := 76) rfl)))) rfl
set_option maxRecDepth 20000 in
theorem ok_codes : ∀ q ∈ pgm, Cond.code q.1 q.2.1 q.2.2.1 q.2.2.2.1 ∈ rBig :=
  List.forall_mem_cons.mpr ⟨cw_X0_init, List.forall_mem_cons.mpr ⟨cw_X0_play, List.forall_mem_cons.mpr ⟨cw_X0_rank, List.forall_mem_cons.mpr ⟨cw_X1_init, List.forall_mem_cons.mpr ⟨cw_X1_find, List.forall_mem_cons.mpr ⟨cw_X1_weightOf, List.forall_mem_cons.mpr ⟨cw_X1_judge, List.forall_mem_cons.mpr ⟨cw_X2_init, List.forall_mem_cons.mpr ⟨cw_X2_clear, List.forall_mem_cons.mpr ⟨cw_X2_write, List.forall_mem_cons.mpr ⟨cw_X2_draw, List.forall_mem_cons.mpr ⟨cw_X2_numberOfLot, List.forall_mem_cons.mpr ⟨cw_X2_writers, List.forall_mem_cons.mpr ⟨cw_X3_init, List.forall_mem_cons.mpr ⟨cw_X3_read, List.forall_mem_cons.mpr ⟨cw_X3_bind, List.forall_mem_cons.mpr ⟨cw_X3_demand, List.forall_mem_cons.mpr ⟨cw_X3_rows, List.forall_mem_cons.mpr ⟨cw_X3_bindFirst, List.forall_mem_cons.mpr ⟨cw_X3_numbersOf, List.forall_mem_cons.mpr ⟨cw_X4_init, List.forall_mem_cons.mpr ⟨cw_X4_meet, List.forall_mem_cons.mpr ⟨cw_X4_top, List.forall_mem_cons.mpr ⟨cw_X4_average, List.forall_mem_cons.mpr ⟨cw_X4_surplus, List.forall_mem_cons.mpr ⟨cw_X5_init, List.forall_mem_cons.mpr ⟨cw_X5_find, List.forall_mem_cons.mpr ⟨cw_X5_numberOf, List.forall_mem_cons.mpr ⟨cw_X5_gather, List.forall_mem_cons.mpr ⟨cw_X5_judge, List.forall_mem_cons.mpr ⟨cw_X6_init, List.forall_mem_cons.mpr ⟨cw_X6_open, List.forall_mem_cons.mpr ⟨cw_X6_copy, List.forall_mem_cons.mpr ⟨cw_X6_addSight, List.forall_mem_cons.mpr ⟨cw_X6_hasMan, List.forall_mem_cons.mpr ⟨cw_X6_hasNumber, List.forall_mem_cons.mpr ⟨cw_X6_allWeights, List.forall_mem_cons.mpr ⟨cw_X6_shares, List.forall_mem_cons.mpr ⟨cw_X7_init, List.forall_mem_cons.mpr ⟨cw_X7_clear, List.forall_mem_cons.mpr ⟨cw_X7_join, List.forall_mem_cons.mpr ⟨cw_X7_run, List.forall_mem_cons.mpr ⟨cw_X8_init, List.forall_mem_cons.mpr ⟨cw_X8_meet, List.forall_mem_cons.mpr ⟨cw_X9_init, List.forall_mem_cons.mpr ⟨cw_X9_inn, List.forall_mem_cons.mpr ⟨cw_X9_rule, List.forall_mem_cons.mpr ⟨cw_X9_say, List.forall_mem_cons.mpr ⟨cw_X9_wipe, List.forall_mem_cons.mpr ⟨cw_X9_fault, List.forall_mem_cons.mpr ⟨cw_X9_wins, List.forall_mem_cons.mpr ⟨cw_X9_weight, List.forall_mem_cons.mpr ⟨cw_X9_fool, List.forall_mem_cons.mpr ⟨cw_X9_worth, List.forall_mem_cons.mpr ⟨cw_X9_best, List.forall_mem_cons.mpr ⟨cw_X9_mean, List.forall_mem_cons.mpr ⟨cw_X9_nobody, List.forall_mem_cons.mpr ⟨cw_X9_rest, List.forall_mem_cons.mpr ⟨cw_X9_gap, List.forall_mem_cons.mpr ⟨cw_X9_friends, List.forall_mem_cons.mpr ⟨cw_X9_league, List.forall_mem_cons.mpr ⟨cw_X9_spy, List.forall_mem_cons.mpr ⟨cw_X9_spied, List.forall_mem_cons.mpr ⟨cw_X9_steps, List.forall_mem_cons.mpr ⟨cw_X9_late, List.forall_mem_cons.mpr ⟨cw_X9_prize, List.forall_mem_cons.mpr ⟨cw_X9_seen, List.forall_mem_cons.mpr ⟨cw_X9_forget, List.forall_mem_cons.mpr ⟨cw_X9_fits, List.forall_mem_cons.mpr ⟨cw_X9_could, List.forall_mem_cons.mpr ⟨cw_X9_year, List.forall_mem_cons.mpr ⟨cw_X9_image, List.forall_mem_cons.mpr ⟨cw_X9_restore, List.forall_mem_cons.mpr ⟨cw_X9_told, List.forall_mem_cons.mpr ⟨cw_X9_toldOfOne, List.forall_mem_cons.mpr ⟨cw_X9_isSize, List.forall_mem_cons.mpr ⟨cw_X9_isBit, List.forall_mem_cons.mpr ⟨cw_X9_isSum, List.forall_mem_cons.mpr ⟨cw_X9_isSet, List.forall_mem_cons.mpr ⟨cw_X9_isSlip, List.forall_mem_cons.mpr ⟨cw_X9_isUntold, List.forall_mem_cons.mpr ⟨cw_X9_lower, List.forall_mem_cons.mpr ⟨cw_X9_weighOthers, List.forall_mem_cons.mpr ⟨cw_X9_weighPad, List.forall_mem_cons.mpr ⟨cw_X9_weighAll, List.forall_mem_cons.mpr ⟨cw_X9_power, List.forall_mem_cons.mpr ⟨cw_X9_lowest, List.forall_mem_cons.mpr ⟨cw_X9_commonDivisor, List.forall_mem_cons.mpr ⟨cw_X9_writersToWin, List.forall_mem_cons.mpr ⟨cw_X9_numbersWritten, List.forall_mem_cons.mpr ⟨cw_X9_winner, List.forall_mem_cons.mpr ⟨cw_X9_winning, List.forall_mem_cons.mpr ⟨cw_X9_place, List.forall_mem_cons.mpr ⟨cw_X9_spread, List.forall_mem_cons.mpr ⟨cw_X9_agree, List.forall_mem_cons.mpr ⟨cw_X9_choice, List.forall_mem_cons.mpr ⟨cw_X9_endWith, List.forall_mem_cons.mpr ⟨cw_X9_end, List.forall_mem_cons.mpr ⟨cw_X10_init, List.forall_mem_cons.mpr ⟨cw_X10_plain, List.forall_mem_cons.mpr ⟨cw_X10_in, List.forall_mem_cons.mpr ⟨cw_X10_has, List.forall_mem_cons.mpr ⟨cw_X10_isMan, List.forall_mem_cons.mpr ⟨cw_X10_isNumber, List.forall_mem_cons.mpr ⟨cw_X10_inn, List.forall_mem_cons.mpr ⟨cw_X10_rule, List.forall_mem_cons.mpr ⟨cw_X10_say, List.forall_mem_cons.mpr ⟨cw_X10_wipe, List.forall_mem_cons.mpr ⟨cw_X10_faultOf, List.forall_mem_cons.mpr ⟨cw_X10_fault, List.forall_mem_cons.mpr ⟨cw_X10_winner, List.forall_mem_cons.mpr ⟨cw_X10_nobodyWrote, List.forall_mem_cons.mpr ⟨cw_X10_wins, List.forall_mem_cons.mpr ⟨cw_X10_weight, List.forall_mem_cons.mpr ⟨cw_X10_allWeights, List.forall_mem_cons.mpr ⟨cw_X10_fool, List.forall_mem_cons.mpr ⟨cw_X10_asWeights, List.forall_mem_cons.mpr ⟨cw_X10_power, List.forall_mem_cons.mpr ⟨cw_X10_choose, List.forall_mem_cons.mpr ⟨cw_X10_beginFill, List.forall_mem_cons.mpr ⟨cw_X10_nextFill, List.forall_mem_cons.mpr ⟨cw_X10_waysOfFill, List.forall_mem_cons.mpr ⟨cw_X10_both, List.forall_mem_cons.mpr ⟨cw_X10_waysToWin, List.forall_mem_cons.mpr ⟨cw_X10_sumOfWeights, List.forall_mem_cons.mpr ⟨cw_X10_lowOf, List.forall_mem_cons.mpr ⟨cw_X10_layOthers, List.forall_mem_cons.mpr ⟨cw_X10_worthOf, List.forall_mem_cons.mpr ⟨cw_X10_term, List.forall_mem_cons.mpr ⟨cw_X10_worth, List.forall_mem_cons.mpr ⟨cw_X10_bestOf, List.forall_mem_cons.mpr ⟨cw_X10_best, List.forall_mem_cons.mpr ⟨cw_X10_meanOf, List.forall_mem_cons.mpr ⟨cw_X10_gapOf, List.forall_mem_cons.mpr ⟨cw_X10_mean, List.forall_mem_cons.mpr ⟨cw_X10_waysOfNobody, List.forall_mem_cons.mpr ⟨cw_X10_nobody, List.forall_mem_cons.mpr ⟨cw_X10_layRest, List.forall_mem_cons.mpr ⟨cw_X10_nextWeights, List.forall_mem_cons.mpr ⟨cw_X10_rest, List.forall_mem_cons.mpr ⟨cw_X10_gap, List.forall_mem_cons.mpr ⟨cw_X10_waysOfSet, List.forall_mem_cons.mpr ⟨cw_X10_layAgreed, List.forall_mem_cons.mpr ⟨cw_X10_layLeague, List.forall_mem_cons.mpr ⟨cw_X10_isSet, List.forall_mem_cons.mpr ⟨cw_X10_friends, List.forall_mem_cons.mpr ⟨cw_X10_league, List.forall_mem_cons.mpr ⟨cw_X10_layTold, List.forall_mem_cons.mpr ⟨cw_X10_spy, List.forall_mem_cons.mpr ⟨cw_X10_spied, List.forall_mem_cons.mpr ⟨cw_X10_steps, List.forall_mem_cons.mpr ⟨cw_X10_hasOf, List.forall_mem_cons.mpr ⟨cw_X10_lateEvening, List.forall_mem_cons.mpr ⟨cw_X10_layWrote, List.forall_mem_cons.mpr ⟨cw_X10_late, List.forall_mem_cons.mpr ⟨cw_X10_prize, List.forall_mem_cons.mpr ⟨cw_X10_seen, List.forall_mem_cons.mpr ⟨cw_X10_forget, List.forall_mem_cons.mpr ⟨cw_X10_isSeen, List.forall_mem_cons.mpr ⟨cw_X10_codes, List.forall_mem_cons.mpr ⟨cw_X10_fits, List.forall_mem_cons.mpr ⟨cw_X10_could, List.forall_mem_cons.mpr ⟨cw_X10_year, List.forall_mem_cons.mpr ⟨cw_X10_image, List.forall_mem_cons.mpr ⟨cw_X10_restore, List.forall_mem_cons.mpr ⟨cw_X10_told, List.forall_mem_cons.mpr ⟨cw_J6_bitCount_0f7a4, fun _ h => absurd h List.not_mem_nil⟩⟩⟩⟩⟩⟩⟩⟩⟩⟩⟩⟩⟩⟩⟩⟩⟩⟩⟩⟩⟩⟩⟩⟩⟩⟩⟩⟩⟩⟩⟩⟩⟩⟩⟩⟩⟩⟩⟩⟩⟩⟩⟩⟩⟩⟩⟩⟩⟩⟩⟩⟩⟩⟩⟩⟩⟩⟩⟩⟩⟩⟩⟩⟩⟩⟩⟩⟩⟩⟩⟩⟩⟩⟩⟩⟩⟩⟩⟩⟩⟩⟩⟩⟩⟩⟩⟩⟩⟩⟩⟩⟩⟩⟩⟩⟩⟩⟩⟩⟩⟩⟩⟩⟩⟩⟩⟩⟩⟩⟩⟩⟩⟩⟩⟩⟩⟩⟩⟩⟩⟩⟩⟩⟩⟩⟩⟩⟩⟩⟩⟩⟩⟩⟩⟩⟩⟩⟩⟩⟩⟩⟩⟩⟩⟩⟩⟩⟩⟩⟩⟩⟩⟩⟩⟩⟩⟩⟩⟩⟩⟩⟩⟩⟩⟩⟩⟩
theorem ok_code {f : Nat} {q : rP} (h : pgm[f]? = some q) : Cond.code q.1 q.2.1 q.2.2.1 q.2.2.2.1 ∈ rBig := ok_codes q (List.mem_of_getElem? h)
theorem ok_met {f : Nat} {q : rP} (h : pgm[f]? = some q) : rmetB q = true := ok_pgm q (List.mem_of_getElem? h)
def rClP : List (List Nat) := [[287, 289], [232, 234, 236, 238, 240, 242], [142, 144], [309, 311, 313, 315, 317, 319, 321], [190, 192, 194, 196, 198], [264, 266, 268, 270, 272, 274], [111, 113, 115, 117, 119, 121, 123, 125, 127], [208, 209, 210, 211, 212], [336, 338, 340, 342, 344, 346, 348, 350, 352, 354, 356, 358], [805, 807, 809, 811, 813, 815, 817, 819, 821, 823, 825, 827, 829, 831, 833, 835, 837, 839, 841, 843, 845, 847, 849, 851]]
theorem rCl_okB : (rCl.zip rClP).all (fun q => decide (q.2.length = q.1.2.2) && (q.2.zipIdx).all (fun r => rwordB r.1 (u_lay q.1.1 q.1.2.1 r.2))) = true := by decide +kernel
theorem rCl_in {ci : Nat} {q : vw_C} (h : rCl[ci]? = some q) : ∀ w ∈ u_ws q.1 q.2.1 q.2.2, w ∈ rBig := by
  intro w hw
  obtain ⟨k, hk, rfl⟩ := List.mem_map.mp hw
  have hk := List.mem_range.mp hk
  have hl : ci < rClP.length := by
    have h1 : ci < rCl.length := (List.getElem?_eq_some_iff.mp h).1
    exact h1
  have hz : (rCl.zip rClP)[ci]? = some (q, rClP[ci]) := by
    rw [List.getElem?_zip_eq_some]
    exact ⟨h, List.getElem?_eq_getElem hl⟩
  have h2 := List.all_eq_true.mp rCl_okB _ (List.mem_of_getElem? hz)
  simp only [Bool.and_eq_true, decide_eq_true_eq] at h2
  have hk2 : k < (rClP[ci]).length := by rw [h2.1]; exact hk
  have hz2 : (rClP[ci]).zipIdx[k]? = some ((rClP[ci])[k], k) := by
    rw [List.getElem?_zipIdx, List.getElem?_eq_getElem hk2]
    simp
  exact rwordB_mem (List.all_eq_true.mp h2.2 _ (List.mem_of_getElem? hz2))
end
section
/-! ===== A SMALL MACHINE over cells that are numbered, not addressed: a cell is an array (number of its type, length, contents) or an object (number of its class, fields); refs from 1000000 on are arrays that nobody writes ===== -/
abbrev rE : Type := (Nat × vp_A) ⊕ (Nat × List Value)
abbrev rH : Type := List rE
abbrev rK : Type := Nat × List Value × List Value × rH × Nat × Nat
abbrev rR : Type := Option Value → rH → Prop
abbrev rCall : Type := Nat → Nat → Nat → List Value → rH → rR → Prop
abbrev rQ : Type := Nat → Option (Nat × (Nat → Int32))
abbrev rO : Type := rK ⊕ (Prop × rK) ⊕ (Prop × rK × rK) ⊕ ((Nat × Nat × Nat × List Value × rH) × (Option Value → rH → rK)) ⊕ (Prop × Option Value × rH)
def rfind : List (Nat × rI) → Nat → Option rI
  | [], _ => none
  | e :: t, pc => bif Nat.beq e.1 pc then some e.2 else rfind t pc
/-- the int array behind a ref -/
def rgetI (ro : rQ) (h : rH) (r : Nat) : Option (Nat × (Nat → Int32)) :=
  bif Nat.ble 1000000 r then ro (r - 1000000) else match h[r]? with
    | some (.inl (0, n, .inl f)) => some (n, f)
    | _ => none
/-- arguments off the stack, in their order -/
def rpop : Nat → List Value → List Value → Option (List Value × List Value)
  | 0, st, acc => some (acc, st)
  | n + 1, v :: st, acc => rpop n st (v :: acc)
  | _ + 1, [], _ => none
/-- no long's second half at place i -/
def rcl (L : List Value) (i : Nat) : Bool := Nat.blt i L.length && (match i with
  | 0 => true
  | j + 1 => match L[j]? with
    | some v => Nat.beq v.category 1
    | none => true)
def rlook : List Nat → Nat → Option Nat
  | a :: b :: t, k => bif Nat.beq a k then some b else rlook t k
  | _, _ => none
def rargs : List Value → Nat → List Value
  | [], n => List.replicate n .null
  | v :: vs, n => if v.category = 2 then v :: .null :: rargs vs (n - 2) else v :: rargs vs (n - 1)
def rbr (c : Jvm.ClassFile.Cond) (x y : Int32) (a b : rK) : rO := match c with
  | .eq => .inr (.inr (.inl (x = y, a, b)))
  | .ne => .inr (.inr (.inl (x = y, b, a)))
  | .lt => .inr (.inr (.inl (x < y, a, b)))
  | .ge => .inr (.inr (.inl (y ≤ x, a, b)))
  | .gt => .inr (.inr (.inl (y < x, a, b)))
  | .le => .inr (.inr (.inl (x ≤ y, a, b)))
/-- where a switch goes -/
def rsw (d : Nat) (lo hi : Int) (ts : List Nat) (x : Int32) : Nat := if x.toInt < lo ∨ hi < x.toInt then d else ts.getD (x.toInt - lo).toNat 0
def rwd (st : List Value) : Bool := Nat.ble ((st.map fun v => v.category).sum) 8
/-- an object's fields when it is made -/
def rnew : Nat → List Value
  | 0 => [.null, .null]
  | 1 => [.null, .null, .null, .null, .null, .int 0]
  | 2 => [.null, .null]
  | 3 => [.null, .null, .int 0, .int 0, .int 0, .int 0, .int 0]
  | 4 => [.null, .null, .int 0, .int 0, .int 0]
  | 5 => [.null, .null, .null, .long 0, .int 0, .int 0]
  | 6 => [.int 0, .int 0, .int 0, .null, .null, .null, .null, .null, .int 0]
  | 7 => [.null, .null, .int 0, .int 0, .int 0]
  | 8 => [.null, .null, .null, .null, .int 0, .null, .null, .null, .null, .null, .null, .null]
  | 9 => [.int 0, .int 0, .int 0, .null, .null, .int 0, .null, .int 0, .null, .null, .null, .int 0, .null, .null, .null, .long 0, .null, .null, .long 0, .null, .null, .null, .null, .null]
  | _ => []
def rload (L st : List Value) (h : rH) (k z pc' i : Nat) : Option rO := match L[i]? with
  | some (.int x) => some (.inl (pc', L, .int x :: st, h, k, z))
  | _ => none
def rloadL (L st : List Value) (h : rH) (k z pc' i : Nat) : Option rO := match L[i]? with
  | some (.long x) => some (.inl (pc', L, .long x :: st, h, k, z))
  | _ => none
def rloadA (L st : List Value) (h : rH) (k z pc' i : Nat) : Option rO := match L[i]? with
  | some (.ref x) => some (.inl (pc', L, .ref x :: st, h, k, z))
  | _ => none
def rstore (L st : List Value) (h : rH) (k z pc' i : Nat) : Option rO := match st with
  | .int x :: st => bif rcl L i then some (.inl (pc', L.set i (.int x), st, h, k, z)) else none
  | _ => none
def rstoreA (L st : List Value) (h : rH) (k z pc' i : Nat) : Option rO := match st with
  | .ref x :: st => bif rcl L i then some (.inl (pc', L.set i (.ref x), st, h, k, z)) else none
  | _ => none
def rstoreL (L st : List Value) (h : rH) (k z pc' i : Nat) : Option rO := match st with
  | .long x :: st => bif rcl L i && Nat.blt (i + 1) L.length then some (.inl (pc', (L.set i (.long x)).set (i + 1) .null, st, h, k, z)) else none
  | _ => none
def rinc (L st : List Value) (h : rH) (k z pc' i : Nat) (n : Int32) : Option rO := match L[i]? with
  | some (.int x) => bif rcl L i then some (.inl (pc', L.set i (.int (x + n)), st, h, k, z)) else none
  | _ => none
def rbin (f : Int32 → Int32 → Int32) (L st : List Value) (h : rH) (k z pc' : Nat) : Option rO := match st with
  | .int y :: .int x :: st => some (.inl (pc', L, .int (f x y) :: st, h, k, z))
  | _ => none
def rbinL (f : Int64 → Int64 → Int64) (L st : List Value) (h : rH) (k z pc' : Nat) : Option rO := match st with
  | .long y :: .long x :: st => some (.inl (pc', L, .long (f x y) :: st, h, k, z))
  | _ => none
def rdiv (f : Int32 → Int32 → Int32) (L st : List Value) (h : rH) (k z pc' : Nat) : Option rO := match st with
  | .int y :: .int x :: st => some (.inr (.inl (¬ y = 0, pc', L, .int (f x y) :: st, h, k, z)))
  | _ => none
def rdivL (f : Int64 → Int64 → Int64) (L st : List Value) (h : rH) (k z pc' : Nat) : Option rO := match st with
  | .long y :: .long x :: st => some (.inr (.inl (¬ y = 0, pc', L, .long (f x y) :: st, h, k, z)))
  | _ => none
def raldI (ro : rQ) (L st : List Value) (h : rH) (k z pc' : Nat) : Option rO := match st with
  | .int i :: .ref r :: st => match rgetI ro h r with
    | some (n, f) => some (.inr (.inl (vp_in i n, pc', L, .int (f i.toNatClampNeg) :: st, h, k, z)))
    | none => none
  | _ => none
def raldL (L st : List Value) (h : rH) (k z pc' : Nat) : Option rO := match st with
  | .int i :: .ref r :: st => match h[r]? with
    | some (.inl (1, n, .inr (.inl f))) => some (.inr (.inl (vp_in i n, pc', L, .long (f i.toNatClampNeg) :: st, h, k, z)))
    | _ => none
  | _ => none
def raldB (L st : List Value) (h : rH) (k z pc' : Nat) : Option rO := match st with
  | .int i :: .ref r :: st => match h[r]? with
    | some (.inl (2, n, .inl f)) => some (.inr (.inl (vp_in i n, pc', L, .int (f i.toNatClampNeg) :: st, h, k, z)))
    | some (.inl (3, n, .inl f)) => some (.inr (.inl (vp_in i n, pc', L, .int (f i.toNatClampNeg) :: st, h, k, z)))
    | _ => none
  | _ => none
def raldA (L st : List Value) (h : rH) (k z pc' : Nat) : Option rO := match st with
  | .int i :: .ref r :: st => match h[r]? with
    | some (.inr (100, fs)) => (match fs.getD i.toNatClampNeg .null with
      | .ref a => some (.inr (.inl (vp_in i fs.length, pc', L, .ref a :: st, h, k, z)))
      | _ => none)
    | _ => none
  | _ => none
def rastI (L st : List Value) (h : rH) (k z pc' : Nat) : Option rO := match st with
  | .int x :: .int i :: .ref r :: st => match h[r]? with
    | some (.inl (0, n, .inl f)) => some (.inr (.inl (vp_in i n, pc', L, st, h.set r (.inl (0, n, .inl (upd f i.toNatClampNeg x))), k, z)))
    | _ => none
  | _ => none
def rastL (L st : List Value) (h : rH) (k z pc' : Nat) : Option rO := match st with
  | .long x :: .int i :: .ref r :: st => match h[r]? with
    | some (.inl (1, n, .inr (.inl f))) => some (.inr (.inl (vp_in i n, pc', L, st, h.set r (.inl (1, n, .inr (.inl (vp_updL f i.toNatClampNeg x)))), k, z)))
    | _ => none
  | _ => none
def rastB (L st : List Value) (h : rH) (k z pc' : Nat) : Option rO := match st with
  | .int x :: .int i :: .ref r :: st => match h[r]? with
    | some (.inl (2, n, .inl f)) => some (.inr (.inl (vp_in i n, pc', L, st, h.set r (.inl (2, n, .inl (upd f i.toNatClampNeg (vp_nar .byte x)))), k, z)))
    | some (.inl (3, n, .inl f)) => some (.inr (.inl (vp_in i n, pc', L, st, h.set r (.inl (3, n, .inl (upd f i.toNatClampNeg (vp_nar .boolean x)))), k, z)))
    | _ => none
  | _ => none
def rastA (L st : List Value) (h : rH) (k z pc' : Nat) : Option rO := match st with
  | .ref v :: .int i :: .ref r :: st => match h[r]?, h[v]? with
    | some (.inr (100, fs)), some (.inr (6, _)) => some (.inr (.inl (vp_in i fs.length, pc', L, st, h.set r (.inr (100, fs.set i.toNatClampNeg (.ref v))), k, z)))
    | _, _ => none
  | _ => none
def ralen (ro : rQ) (L st : List Value) (h : rH) (k z pc' : Nat) : Option rO := match st with
  | .ref r :: st => match rgetI ro h r with
    | some (n, _) => some (.inl (pc', L, .int (nI n) :: st, h, k, z))
    | none => none
  | _ => none
def rgetf (aux : List Nat) (L st : List Value) (h : rH) (k z pc' : Nat) : Option rO := match aux, st with
  | q :: cs, .ref r :: st => match h[r]? with
    | some (.inr (ci, fs)) => bif cs.contains ci then (match fs[q]? with
      | some v => some (.inl (pc', L, v :: st, h, k, z))
      | none => none) else none
    | _ => none
  | _, _ => none
def rputf (aux : List Nat) (L st : List Value) (h : rH) (k z pc' : Nat) : Option rO := match aux, st with
  | q :: _ :: ty :: cs, v :: .ref r :: st => match h[r]? with
    | some (.inr (ci, fs)) => bif cs.contains ci && Nat.blt q fs.length then (match ty, v with
      | 3, .int x => some (.inr (.inl (x = 0 ∨ x = 1, pc', L, st, h.set r (.inr (ci, fs.set q v)), k, z)))
      | 0, .int _ => some (.inl (pc', L, st, h.set r (.inr (ci, fs.set q v)), k, z))
      | 1, .long _ => some (.inl (pc', L, st, h.set r (.inr (ci, fs.set q v)), k, z))
      | 2, .ref _ => some (.inl (pc', L, st, h.set r (.inr (ci, fs.set q v)), k, z))
      | _, _ => none) else none
    | _ => none
  | _, _ => none
/-- refs that are in use -/
def rwfv (n : Nat) (L : List Value) : Bool := L.all (fun v => match v with
  | .ref k => Nat.blt k n || Nat.ble 1000000 k
  | _ => true)
def rwfE (n : Nat) (e : rE) : Bool := match e with
  | .inr (_, fs) => rwfv n fs
  | .inl _ => true
def rmk (MC MS : Nat) (L st : List Value) (h : rH) (k z pc' N : Nat) (e : rE) : Option rO :=
  bif Nat.ble (k + 1) MC && Nat.ble (z + N) MS && Nat.ble h.length 900000 && rwfv h.length L && rwfv h.length st && h.all (rwfE h.length) then some (.inl (pc', L, .ref h.length :: st, h ++ [e], k + 1, z + N)) else none
def rnewa (MC MS : Nat) (aty : ArrayType) (L st : List Value) (h : rH) (k z pc' : Nat) (aux : List Nat) : Option rO := match st, aux with
  | .int n :: st, [N] => bif decide (n = nI N) && Nat.ble N 1000000 then (match aty with
    | .int => rmk MC MS L st h k z pc' N (.inl (0, N, .inl (fun _ => 0)))
    | .long => rmk MC MS L st h k z pc' N (.inl (1, N, .inr (.inl (fun _ => 0))))
    | .byte => rmk MC MS L st h k z pc' N (.inl (2, N, .inl (fun _ => 0)))
    | .boolean => rmk MC MS L st h k z pc' N (.inl (3, N, .inl (fun _ => 0)))
    | _ => none) else none
  | _, _ => none
def rnewq (MC MS : Nat) (L st : List Value) (h : rH) (k z pc' : Nat) (aux : List Nat) : Option rO := match st, aux with
  | .int n :: st, [N] => bif decide (n = nI N) && Nat.ble N 1000000 then rmk MC MS L st h k z pc' N (.inr (100, List.replicate N .null)) else none
  | _, _ => none
def rnewc (MC MS : Nat) (L st : List Value) (h : rH) (k z pc' : Nat) (aux : List Nat) : Option rO := match aux with
  | [ci] => rmk MC MS L st h k z pc' (rnew ci).length (.inr (ci, rnew ci))
  | _ => none
def rcopy (L st : List Value) (h : rH) (k z pc' : Nat) : Option rO := match st with
  | .int n :: .int dp :: .ref a :: .int sp :: .ref b :: st => match h[b]?, h[a]? with
    | some (.inl (0, n0, .inl f)), some (.inl (0, n1, .inl g)) => bif rwd st then some (.inr (.inl ((¬ sp < 0 ∧ ¬ dp < 0 ∧ ¬ n < 0 ∧ sp.toNatClampNeg + n.toNatClampNeg ≤ n0 ∧ dp.toNatClampNeg + n.toNatClampNeg ≤ n1), pc', L, st, h.set a (.inl (0, n1, .inl (va_cpy f g sp.toNatClampNeg dp.toNatClampNeg n.toNatClampNeg))), k, z))) else none
    | _, _ => none
  | _ => none
def rinv (MC MS f mc ms : Nat) (As : List Value) (L st : List Value) (h : rH) (k z pc' : Nat) : Option rO :=
  bif Nat.ble (k + mc) MC && Nat.ble (z + ms) MS && rwd st && (Nat.beq mc 0 || (rwfv h.length L && rwfv h.length st)) then some (.inr (.inr (.inr (.inl ((f, mc, ms, As, h), fun r h' => (pc', L, r.toList ++ st, h', k + mc, z + ms)))))) else none
def rstat (MC MS : Nat) (aux : List Nat) (L st : List Value) (h : rH) (k z pc' : Nat) : Option rO := match aux with
  | [2] => rcopy L st h k z pc'
  | [_, f, n, mc, ms] => match rpop n st [] with
    | some (As, st) => rinv MC MS f mc ms As L st h k z pc'
    | none => none
  | _ => none
def rspec (MC MS : Nat) (aux : List Nat) (L st : List Value) (h : rH) (k z pc' : Nat) : Option rO := match aux with
  | [0] => (match st with
    | .ref _ :: st => bif rwd st then some (.inl (pc', L, st, h, k, z)) else none
    | _ => none)
  | [_, f, n, mc, ms] => match rpop n st [] with
    | some (As, .ref r :: st) => rinv MC MS f mc ms (.ref r :: As) L st h k z pc'
    | _ => none
  | _ => none
def rvirt (MC MS : Nat) (aux : List Nat) (L st : List Value) (h : rH) (k z pc' : Nat) : Option rO := match aux with
  | _ :: n :: ps => match rpop n st [] with
    | some (As, .ref r :: st) => (match h[r]? with
      | some (.inr (ci, _)) => (match rlook ps ci with
        | some f => rinv MC MS f 0 0 (.ref r :: As) L st h k z pc'
        | none => none)
      | _ => none)
    | _ => none
  | _ => none
def rret (MC MS : Nat) (aux : List Nat) (st : List Value) (h : rH) (k z : Nat) : Option rO := bif Nat.ble k MC && Nat.ble z MS then (match aux, st with
  | [0], [.int v] => some (.inr (.inr (.inr (.inr (True, some (.int v), h)))))
  | [1], [.int v] => some (.inr (.inr (.inr (.inr (v = 0 ∨ v = 1, some (.int v), h)))))
  | [2], [.long v] => some (.inr (.inr (.inr (.inr (True, some (.long v), h)))))
  | [3], [] => some (.inr (.inr (.inr (.inr (True, none, h)))))
  | _, _ => none) else none
def rjump (aux : List Nat) (f : Nat → Option rO) : Option rO := match aux with
  | [t] => f t
  | _ => none
def rop (ro : rQ) (MC MS : Nat) (e : rI) (c : rK) : Option rO := match c with
  | (pc, L, st, h, k, z) => match e.1 with
    | .iconst _ => some (.inl (pc + 1, L, .int (rc e.2.1) :: st, h, k, z))
    | .bipush _ => some (.inl (pc + 2, L, .int (rc e.2.1) :: st, h, k, z))
    | .sipush _ => some (.inl (pc + 3, L, .int (rc e.2.1) :: st, h, k, z))
    | .ldc _ => some (.inl (pc + 2, L, .int (rc e.2.1) :: st, h, k, z))
    | .ldc_w _ => some (.inl (pc + 3, L, .int (rc e.2.1) :: st, h, k, z))
    | .lconst _ => some (.inl (pc + 1, L, .long (rcL e.2.1) :: st, h, k, z))
    | .ldc2_w _ => some (.inl (pc + 3, L, .long (rcL e.2.1) :: st, h, k, z))
    | .iload_n i => rload L st h k z (pc + 1) i.val
    | .iload i => rload L st h k z (pc + 2) i
    | .lload_n i => rloadL L st h k z (pc + 1) i.val
    | .lload i => rloadL L st h k z (pc + 2) i
    | .aload_n i => rloadA L st h k z (pc + 1) i.val
    | .istore_n i => rstore L st h k z (pc + 1) i.val
    | .istore i => rstore L st h k z (pc + 2) i
    | .lstore_n i => rstoreL L st h k z (pc + 1) i.val
    | .lstore i => rstoreL L st h k z (pc + 2) i
    | .astore_n i => rstoreA L st h k z (pc + 1) i.val
    | .iinc i _ => rinc L st h k z (pc + 3) i (rc e.2.1)
    | .iadd => rbin (fun x y => x + y) L st h k z (pc + 1)
    | .isub => rbin (fun x y => x - y) L st h k z (pc + 1)
    | .imul => rbin (fun x y => x * y) L st h k z (pc + 1)
    | .iand => rbin (fun x y => x &&& y) L st h k z (pc + 1)
    | .ior => rbin (fun x y => x ||| y) L st h k z (pc + 1)
    | .ishl => rbin (fun x y => x <<< (y &&& 31)) L st h k z (pc + 1)
    | .ishr => rbin (fun x y => x >>> (y &&& 31)) L st h k z (pc + 1)
    | .iushr => rbin (fun x y => (x.toUInt32 >>> (y.toUInt32 &&& Int32.toUInt32 31)).toInt32) L st h k z (pc + 1)
    | .idiv => rdiv (fun x y => x / y) L st h k z (pc + 1)
    | .irem => rdiv (fun x y => x - x / y * y) L st h k z (pc + 1)
    | .ladd => rbinL (fun x y => x + y) L st h k z (pc + 1)
    | .lsub => rbinL (fun x y => x - y) L st h k z (pc + 1)
    | .lmul => rbinL (fun x y => x * y) L st h k z (pc + 1)
    | .ldiv => rdivL (fun x y => x / y) L st h k z (pc + 1)
    | .lrem => rdivL (fun x y => x - x / y * y) L st h k z (pc + 1)
    | .lcmp => (match st with
      | .long y :: .long x :: st => some (.inl (pc + 1, L, .int (lg_cmp x y) :: st, h, k, z))
      | _ => none)
    | .i2l => (match st with
      | .int x :: st => some (.inl (pc + 1, L, .long x.toInt64 :: st, h, k, z))
      | _ => none)
    | .l2i => (match st with
      | .long x :: st => some (.inl (pc + 1, L, .int x.toInt32 :: st, h, k, z))
      | _ => none)
    | .i2b => (match st with
      | .int x :: st => some (.inl (pc + 1, L, .int x.toInt8.toInt32 :: st, h, k, z))
      | _ => none)
    | .dup => (match st with
      | .int x :: st => some (.inl (pc + 1, L, .int x :: .int x :: st, h, k, z))
      | .ref x :: st => some (.inl (pc + 1, L, .ref x :: .ref x :: st, h, k, z))
      | _ => none)
    | .dup2 => (match st with
      | .int x :: .ref y :: st => some (.inl (pc + 1, L, .int x :: .ref y :: .int x :: .ref y :: st, h, k, z))
      | .long x :: st => some (.inl (pc + 1, L, .long x :: .long x :: st, h, k, z))
      | _ => none)
    | .iaload => raldI ro L st h k z (pc + 1)
    | .laload => raldL L st h k z (pc + 1)
    | .baload => raldB L st h k z (pc + 1)
    | .aaload => raldA L st h k z (pc + 1)
    | .iastore => rastI L st h k z (pc + 1)
    | .lastore => rastL L st h k z (pc + 1)
    | .bastore => rastB L st h k z (pc + 1)
    | .aastore => rastA L st h k z (pc + 1)
    | .arraylength => ralen ro L st h k z (pc + 1)
    | .getfield _ => rgetf e.2.1 L st h k z (pc + 3)
    | .putfield _ => rputf e.2.1 L st h k z (pc + 3)
    | .getstatic _ => rjump e.2.1 (fun r => some (.inl (pc + 3, L, .ref r :: st, h, k, z)))
    | .new _ => rnewc MC MS L st h k z (pc + 3) e.2.1
    | .newarray a => rnewa MC MS a L st h k z (pc + 2) e.2.1
    | .anewarray _ => rnewq MC MS L st h k z (pc + 3) e.2.1
    | .ifCond cd _ => rjump e.2.1 (fun t => match st with
      | .int x :: st => some (rbr cd x 0 (t, L, st, h, k, z) (pc + 3, L, st, h, k, z))
      | _ => none)
    | .if_icmp cd _ => rjump e.2.1 (fun t => match st with
      | .int y :: .int x :: st => some (rbr cd x y (t, L, st, h, k, z) (pc + 3, L, st, h, k, z))
      | _ => none)
    | .goto _ => rjump e.2.1 (fun t => some (.inl (t, L, st, h, k, z)))
    | .tableswitch _ lo hi _ => (match e.2.1, st with
      | _ :: d :: ts, .int x :: st => some (.inl (rsw d lo hi ts x, L, st, h, k, z))
      | _, _ => none)
    | .invokestatic _ => rstat MC MS e.2.1 L st h k z (pc + 3)
    | .invokespecial _ => rspec MC MS e.2.1 L st h k z (pc + 3)
    | .invokevirtual _ => rvirt MC MS e.2.1 L st h k z (pc + 3)
    | .ireturn => rret MC MS e.2.1 st h k z
    | .lreturn => rret MC MS e.2.1 st h k z
    | .return_ => rret MC MS e.2.1 st h k z
    | _ => none
/-- one step on the way to P, with R for what a return gives -/
def rstp (call : rCall) (R : rR) (o : Option rO) (P : rK → Prop) : Prop := match o with
  | none => False
  | some (.inl c) => P c
  | some (.inr (.inl (g, c))) => g ∧ P c
  | some (.inr (.inr (.inl (b, c1, c2)))) => (b → P c1) ∧ (¬ b → P c2)
  | some (.inr (.inr (.inr (.inl ((f, mc, ms, As, h), kk))))) => call f mc ms As h (fun r h' => P (kk r h'))
  | some (.inr (.inr (.inr (.inr (g, v, h))))) => g ∧ R v h
def rnext (ro : rQ) (tb : List (Nat × rI)) (MC MS : Nat) (c : rK) : Option rO := match rfind tb c.1 with
  | some e => rop ro MC MS e c
  | none => none
/-- from c the method comes to a return with R -/
def rT (ro : rQ) (call : rCall) (tb : List (Nat × rI)) (MC MS : Nat) (R : rR) (c : rK) : Prop := ∀ P : rK → Prop, (∀ c, rstp call R (rnext ro tb MC MS c) P → P c) → P c
def rMon (call : rCall) : Prop := ∀ (f mc ms : Nat) (As : List Value) (h : rH) (R R' : rR), (∀ r h, R r h → R' r h) → call f mc ms As h R → call f mc ms As h R'
theorem rstp_mono {call : rCall} (hm : rMon call) {R R' : rR} (hR : ∀ r h, R r h → R' r h) {o : Option rO} {P P' : rK → Prop} (hP : ∀ c, P c → P' c) (h : rstp call R o P) : rstp call R' o P' := by
  rcases o with _ | (c | ⟨g, c⟩ | ⟨b, c1, c2⟩ | ⟨⟨f, mc, ms, As, hh⟩, kk⟩ | ⟨g, v, hh⟩)
  · exact h
  · exact hP _ h
  · exact ⟨h.1, hP _ h.2⟩
  · exact ⟨fun b => hP _ (h.1 b), fun b => hP _ (h.2 b)⟩
  · exact hm _ _ _ _ _ _ _ (fun r h' => hP _) h
  · exact ⟨h.1, hR _ _ h.2⟩
theorem rT_step {ro : rQ} {call : rCall} (hm : rMon call) {tb : List (Nat × rI)} {MC MS : Nat} {R : rR} {c : rK} (h : rstp call R (rnext ro tb MC MS c) (rT ro call tb MC MS R)) : rT ro call tb MC MS R c :=
  fun P hP => hP c (rstp_mono hm (fun _ _ h => h) (fun c h => h P hP) h)
theorem rT_mono {ro : rQ} {call : rCall} (hm : rMon call) {tb : List (Nat × rI)} {MC MS : Nat} {R R' : rR} (hR : ∀ r h, R r h → R' r h) {c : rK} (h : rT ro call tb MC MS R c) : rT ro call tb MC MS R' c :=
  h _ (fun _ h => rT_step hm (rstp_mono hm hR (fun _ h => h) h))
/-- n steps at most, up to the places where 'stop' says so -/
def rev (ro : rQ) (call : rCall) (tb : List (Nat × rI)) (MC MS : Nat) (R : rR) (stop : Nat → Bool) : Nat → rK → Prop
  | 0, c => rT ro call tb MC MS R c
  | n + 1, c => rstp call R (rnext ro tb MC MS c) (fun c' => bif stop c'.1 then rT ro call tb MC MS R c' else rev ro call tb MC MS R stop n c')
theorem rev_T {ro : rQ} {call : rCall} (hm : rMon call) {tb : List (Nat × rI)} {MC MS : Nat} {R : rR} (stop : Nat → Bool) : ∀ (n : Nat) {c : rK}, rev ro call tb MC MS R stop n c → rT ro call tb MC MS R c
  | 0, _, h => h
  | n + 1, _, h => rT_step hm (rstp_mono hm (fun _ _ h => h) (fun c' h => by
      cases hs : stop c'.1
      · rw [hs] at h; exact rev_T hm stop n h
      · rw [hs] at h; exact h) h)
end
section
/-! ===== THE SMALL MACHINE IS SOUND: what it comes to, the machine comes to ===== -/
def rtys (cA : Nat → ClassId) : List (ClassId × FieldType) := [(cA 0, .int), (cA 1, .long), (cA 2, .byte), (cA 3, .boolean), (cA 4, .object "LeastAlone$Table")]
abbrev rAA (base : Nat) : Nat → Prop := fun q => base ≤ q
def rv (ad : Nat → Nat) : Value → Value
  | .ref k => .ref (ad k)
  | v => v
theorem rv_cat (ad : Nat → Nat) (v : Value) : (rv ad v).category = v.category := by cases v <;> rfl
def rqf (ad : Nat → Nat) (fs : List Value) (k : Nat) : Option Nat := match fs[k]? with
  | some (.ref a) => some (ad a)
  | _ => none
def rce (ad : Nat → Nat) (cA : Nat → ClassId) : rE → va_E
  | .inl (t, a) => .inl (cA t, a)
  | .inr (100, fs) => .inl (cA 4, fs.length, .inr (.inr (.inr (.inr (rqf ad fs)))))
  | .inr (ci, fs) => .inr (ci, fs.map (rv ad))
def rws (ad : Nat → Nat) (cA : Nat → ClassId) (h : rH) : va_W := h.mapIdx (fun k e => (ad k, rce ad cA e))
theorem rws_get {ad : Nat → Nat} {cA : Nat → ClassId} {h : rH} {r : Nat} {e : rE} (he : h[r]? = some e) : (rws ad cA h)[r]? = some (ad r, rce ad cA e) := by
  rw [rws, List.getElem?_mapIdx, he]; rfl
theorem rws_set {ad : Nat → Nat} {cA : Nat → ClassId} {h : rH} {r : Nat} {e : rE} : rws ad cA (h.set r e) = (rws ad cA h).set r (ad r, rce ad cA e) := by
  apply List.ext_getElem?
  intro i
  rw [rws, List.getElem?_mapIdx, List.getElem?_set, List.getElem?_set, rws, List.getElem?_mapIdx, List.length_mapIdx]
  by_cases hi : r = i
  · subst hi
    by_cases hl : r < h.length <;> simp [hl]
  · simp [hi]
def rprs (ad : Nat → Nat) : Nat → List Value → List (Nat × Value)
  | _, [] => []
  | i, .null :: L => rprs ad (i + 1) L
  | i, v :: L => (i, rv ad v) :: rprs ad (i + 1) L
theorem rprs_mem (ad : Nat → Nat) : ∀ (L : List Value) (i : Nat) (q : Nat × Value), q ∈ rprs ad i L ↔ ∃ (k : Nat) (v : Value), L[k]? = some v ∧ v ≠ .null ∧ q.1 = i + k ∧ q.2 = rv ad v
  | [], i, q => by simp [rprs]
  | v :: L, i, q => by
    have ih := rprs_mem ad L (i + 1) q
    by_cases hv : v = .null
    · subst hv
      rw [show rprs ad i (.null :: L) = rprs ad (i + 1) L from rfl, ih]
      constructor
      · rintro ⟨k, v, h1, h2, h3, h4⟩
        exact ⟨k + 1, v, by simpa using h1, h2, by omega, h4⟩
      · rintro ⟨k, v, h1, h2, h3, h4⟩
        cases k with
        | zero => simp at h1; exact absurd h1.symm h2
        | succ k => exact ⟨k, v, by simpa using h1, h2, by omega, h4⟩
    · rw [show rprs ad i (v :: L) = (i, rv ad v) :: rprs ad (i + 1) L by cases v <;> first | rfl | exact absurd rfl hv, List.mem_cons, ih]
      constructor
      · rintro (h | ⟨k, w, h1, h2, h3, h4⟩)
        · subst h; exact ⟨0, v, rfl, hv, rfl, rfl⟩
        · exact ⟨k + 1, w, by simpa using h1, h2, by omega, h4⟩
      · rintro ⟨k, w, h1, h2, h3, h4⟩
        cases k with
        | zero =>
          simp at h1
          subst h1
          exact Or.inl (Prod.ext h3 h4)
        | succ k => exact Or.inr ⟨k, w, by simpa using h1, h2, by omega, h4⟩
theorem lv_has_sub {ls : Array Slot} {n : Nat} {l l' : List (Nat × Value)} (h : lv_has ls n l) (hs : ∀ q ∈ l', q ∈ l) : lv_has ls n l' := ⟨h.1, h.2.1, fun q hq => h.2.2 q (hs q hq)⟩
theorem rget_at {ad : Nat → Nat} {ls : Array Slot} {n i : Nat} {L : List Value} {v : Value} (h : lv_has ls n (rprs ad 0 L)) (hi : L[i]? = some v) (hv : v ≠ .null) : ls[i]? = some (.val (rv ad v)) :=
  h.2.2 (i, rv ad v) ((rprs_mem ad L 0 _).mpr ⟨i, v, hi, hv, by simp, rfl⟩)
theorem rcl_lt {L : List Value} {i : Nat} (h : rcl L i = true) : i < L.length := by
  simp only [rcl, Bool.and_eq_true] at h
  have h1 := h.1
  simp only [Nat.blt] at h1
  exact Nat.le_of_ble_eq_true h1
theorem rcl_cat {L : List Value} {j : Nat} (h : rcl L (j + 1) = true) {v : Value} (hv : L[j]? = some v) : v.category = 1 := by
  simp only [rcl, Bool.and_eq_true, hv] at h
  exact Nat.eq_of_beq_eq_true h.2
theorem rset_sub {ad : Nat → Nat} {L : List Value} {i : Nat} {x : Value} (hc : rcl L i = true) (hx : x ≠ .null) : ∀ q ∈ rprs ad 0 (L.set i x), q ∈ (i, rv ad x) :: (rprs ad 0 L).filter (fun q => !(q.1 == i) && !(q.1 + 1 == i && q.2.category == 2)) := by
  intro q hq
  obtain ⟨k, v, h1, h2, h3, h4⟩ := (rprs_mem ad _ 0 q).mp hq
  rw [Nat.zero_add] at h3
  by_cases hk : i = k
  · subst hk
    rw [List.getElem?_set_self (rcl_lt hc)] at h1
    cases h1
    exact List.mem_cons.mpr (Or.inl (Prod.ext h3 h4))
  · rw [List.getElem?_set_ne hk] at h1
    refine List.mem_cons.mpr (Or.inr (List.mem_filter.mpr ⟨(rprs_mem ad _ 0 q).mpr ⟨k, v, h1, h2, by omega, h4⟩, ?_⟩))
    have e1 : (q.1 == i) = false := by rw [h3]; simp; omega
    rw [e1]
    by_cases hj : k + 1 = i
    · subst hj
      have hcat := rcl_cat hc h1
      rw [h4, rv_cat, hcat]
      simp
    · have e2 : (q.1 + 1 == i) = false := by rw [h3]; simp; omega
      rw [e2]; rfl
theorem rsetL_sub {ad : Nat → Nat} {L : List Value} {i : Nat} {x : Int64} (hc : rcl L i = true) (hl : i + 1 < L.length) : ∀ q ∈ rprs ad 0 ((L.set i (.long x)).set (i + 1) .null), q ∈ (i, Value.long x) :: (rprs ad 0 L).filter (fun q => !(q.1 == i) && (!(q.1 == i + 1) && !(q.1 + 1 == i && q.2.category == 2))) := by
  intro q hq
  obtain ⟨k, v, h1, h2, h3, h4⟩ := (rprs_mem ad _ 0 q).mp hq
  rw [Nat.zero_add] at h3
  by_cases hk1 : i + 1 = k
  · subst hk1
    rw [List.getElem?_set_self (by rw [List.length_set]; exact hl)] at h1
    cases h1
    exact absurd rfl h2
  · rw [List.getElem?_set_ne hk1] at h1
    by_cases hk : i = k
    · subst hk
      rw [List.getElem?_set_self (rcl_lt hc)] at h1
      cases h1
      exact List.mem_cons.mpr (Or.inl (Prod.ext h3 h4))
    · rw [List.getElem?_set_ne hk] at h1
      refine List.mem_cons.mpr (Or.inr (List.mem_filter.mpr ⟨(rprs_mem ad _ 0 q).mpr ⟨k, v, h1, h2, by omega, h4⟩, ?_⟩))
      have e1 : (q.1 == i) = false := by rw [h3]; simp; omega
      have e3 : (q.1 == i + 1) = false := by rw [h3]; simp; omega
      rw [e1, e3]
      by_cases hj : k + 1 = i
      · subst hj
        have hcat := rcl_cat hc h1
        rw [h4, rv_cat, hcat]
        simp
      · have e2 : (q.1 + 1 == i) = false := by rw [h3]; simp; omega
        rw [e2]; rfl
theorem rfind_mem : ∀ {tb : List (Nat × rI)} {pc : Nat} {e : rI}, rfind tb pc = some e → (pc, e) ∈ tb
  | [], _, _, h => by cases h
  | q :: t, pc, e, h => by
    rw [rfind] at h
    cases hb : Nat.beq q.1 pc
    · rw [hb] at h
      exact List.mem_cons_of_mem _ (rfind_mem h)
    · rw [hb] at h
      have h1 := Nat.eq_of_beq_eq_true hb
      cases h
      subst h1
      exact List.mem_cons_self
theorem rpop_spec : ∀ {n : Nat} {st acc As rest : List Value}, rpop n st acc = some (As, rest) → ∃ Bs, As = Bs ++ acc ∧ Bs.length = n ∧ st = Bs.reverse ++ rest
  | 0, st, acc, As, rest, h => by cases h; exact ⟨[], rfl, rfl, rfl⟩
  | n + 1, [], acc, As, rest, h => by cases h
  | n + 1, v :: st, acc, As, rest, h => by
    obtain ⟨Bs, h1, h2, h3⟩ := rpop_spec (n := n) (st := st) (acc := v :: acc) h
    refine ⟨Bs ++ [v], ?_, ?_, ?_⟩
    · rw [h1]; simp
    · simp [h2]
    · rw [h3]; simp
theorem rargs_has (ad : Nat → Nat) : ∀ (vs : List Value) (n i : Nat), (∀ v ∈ vs, v ≠ .null) → (lg_sl (vs.map (rv ad))).length ≤ n → rprs ad i (rargs vs n) = lv_args i (vs.map (rv ad)) ∧ (rargs vs n).length = n
  | [], n, i, _, _ => by
    refine ⟨?_, by simp [rargs]⟩
    have key : ∀ (n i : Nat), rprs ad i (List.replicate n Value.null) = [] := by
      intro n
      induction n with
      | zero => intro i; rfl
      | succ n ih => intro i; rw [List.replicate_succ]; exact ih (i + 1)
    exact key n i
  | v :: vs, n, i, hv, hn => by
    have hv0 : v ≠ .null := hv v List.mem_cons_self
    have hvs : ∀ w ∈ vs, w ≠ .null := fun w hw => hv w (List.mem_cons_of_mem _ hw)
    by_cases hc : v.category = 2
    · have hs : (lg_sl ((v :: vs).map (rv ad))).length = 2 + (lg_sl (vs.map (rv ad))).length := by
        cases v <;> simp [Value.category] at hc <;> simp [lg_sl, rv, Value.category] <;> omega
      have ih := rargs_has ad vs (n - 2) (i + 2) hvs (by omega)
      rw [show rargs (v :: vs) n = v :: .null :: rargs vs (n - 2) by simp [rargs, hc]]
      refine ⟨?_, by simp [ih.2]; omega⟩
      rw [show rprs ad i (v :: .null :: rargs vs (n - 2)) = (i, rv ad v) :: rprs ad (i + 1 + 1) (rargs vs (n - 2)) by cases v <;> first | rfl | exact absurd rfl hv0, ih.1]
      rw [List.map_cons, lv_args, rv_cat, if_pos hc]
    · have hs : (lg_sl ((v :: vs).map (rv ad))).length = 1 + (lg_sl (vs.map (rv ad))).length := by
        cases v <;> simp [Value.category] at hc <;> simp [lg_sl, rv, Value.category] <;> omega
      have ih := rargs_has ad vs (n - 1) (i + 1) hvs (by omega)
      rw [show rargs (v :: vs) n = v :: rargs vs (n - 1) by simp [rargs, hc]]
      refine ⟨?_, by simp [ih.2]; omega⟩
      rw [show rprs ad i (v :: rargs vs (n - 1)) = (i, rv ad v) :: rprs ad (i + 1) (rargs vs (n - 1)) by cases v <;> first | rfl | exact absurd rfl hv0, ih.1]
      rw [List.map_cons, lv_args, rv_cat, if_neg hc]
end
section
/-! ===== each instruction of the small machine, by the kit's row ===== -/
def rSt (base : Nat) (ro : rQ) (ad : Nat → Nat) (U : State) (H : Heap) : Prop :=
  (∀ w ∈ rNst, va_Nw w U) ∧ va_AO "LeastAlone$Table" U ∧ va_Z "LeastAlone" "WINNING" "[I" (.ref (ad 1000000)) (rAA base) U H ∧ va_Z "LeastAlone" "CHOOSE" "[I" (.ref (ad 1000001)) (rAA base) U H ∧ va_Z "LeastAlone" "BELOW" "[I" (.ref (ad 1000002)) (rAA base) U H ∧ va_Z "LeastAlone" "ONES" "[I" (.ref (ad 1000003)) (rAA base) U H ∧
  ∀ (k n : Nat) (f : Nat → Int32), ro k = some (n, f) → va_T .int (ad (1000000 + k)) n (fun j => .int (f j)) (rAA base) U H
def rwd0 (D : va_G) (cA : Nat → ClassId) (base : Nat) (ad : Nat → Nat) (h : rH) (H : Heap) : Prop := va_P D rCl (rws ad cA h) H ∧ va_D (rAA base) (rws ad cA h)
def rwld (D : va_G) (cA : Nat → ClassId) (base : Nat) (ro : rQ) (s : State) (H : Heap) (locs : List Loc) (ad : Nat → Nat) (h : rH) : Prop := va_P D rCl (rws ad cA h) H ∧ va_D (rAA base) (rws ad cA h) ∧ va_S (rAA base) s.heap H locs ∧ rSt base ro ad s s.heap
def rxt (MC n0 : Nat) (ad0 ad : Nat → Nat) (h : rH) : Prop := (MC = 0 → ad = ad0) ∧ (∀ k, k < n0 ∨ 1000000 ≤ k → ad k = ad0 k) ∧ n0 ≤ h.length
def rCtx (p : Program) (Rm : Room) (s : State) (m : MethodId) (args : Array Value) (meth : Method) (cd : Code) (own : String) (init : Bool) (bytes : ByteArray) (nL : Nat) (D : va_G) (cA : Nat → ClassId) (base MC MS d : Nat) : Prop :=
  p.tables.exec = Jvm.exec ∧ cd.code = bytes ∧ cd.maxLocals = nL ∧ s.vm.findClass own = some m.cls ∧ (∀ w ∈ rBig, w.before args s = true) ∧ (init = true → meth.name = "<init>") ∧ va_K D rCl (rtys cA) s ∧ base ≤ s.heap.size ∧ d + 1 ≤ Rm.frames ∧ 60 * (d + 1) ≤ Rm.locals ∧ MC ≤ Rm.cells ∧ MS ≤ Rm.slots
section RC
variable {p : Program} {l : Launch} {e : Env} {Rm : Room} {s : State} {m : MethodId} {args : Array Value} {below : List Frame} {meth : Method} {cd : Code} {Q : State → Prop}
variable {own : String} {init : Bool} {bytes : ByteArray} {nL : Nat} {D : va_G} {cA : Nat → ClassId} {base MC MS d n0 : Nat} {ro : rQ} {ad0 : Nat → Nat}
def rPr (p : Program) (l : Launch) (e : Env) (Rm : Room) (s : State) (m : MethodId) (args : Array Value) (below : List Frame) (meth : Method) (cd : Code) (Q : State → Prop) (nL : Nat) (D : va_G) (cA : Nat → ClassId) (base MC n0 : Nat) (ro : rQ) (ad0 : Nat → Nat) (c : rK) : Prop :=
  ∀ (ad : Nat → Nat) (H : Heap) (locs : List Loc) (ls : Array Slot), rwld D cA base ro s H locs ad c.2.2.2.1 → rxt MC n0 ad0 ad c.2.2.2.1 → lv_has ls nL (rprs ad 0 c.2.1) → c.2.1.length = nL → W p l e Rm s m args below meth cd H locs c.2.2.2.2.1 c.2.2.2.2.2 Q (F0 m c.1 ls (c.2.2.1.map (rv ad)))
variable {call : rCall} {R : rR} {pc pc' k z : Nat} {L st : List Value} {h : rH}
abbrev rPP (p : Program) (l : Launch) (e : Env) (Rm : Room) (s : State) (m : MethodId) (args : Array Value) (below : List Frame) (meth : Method) (cd : Code) (Q : State → Prop) (nL : Nat) (D : va_G) (cA : Nat → ClassId) (base MC n0 : Nat) (ro : rQ) (ad0 : Nat → Nat) : rK → Prop := rPr p l e Rm s m args below meth cd Q nL D cA base MC n0 ro ad0
theorem rk_push {v : Value} (hs : rPr p l e Rm s m args below meth cd Q nL D cA base MC n0 ro ad0 (pc', L, v :: st, h, k, z))
    (row : ∀ (ad : Nat → Nat) (H : Heap) (locs : List Loc) (ls : Array Slot), lv_has ls nL (rprs ad 0 L) → W p l e Rm s m args below meth cd H locs k z Q (F0 m pc' ls (rv ad v :: st.map (rv ad))) → W p l e Rm s m args below meth cd H locs k z Q (F0 m pc ls (st.map (rv ad)))) :
    rPr p l e Rm s m args below meth cd Q nL D cA base MC n0 ro ad0 (pc, L, st, h, k, z) :=
  fun ad H locs ls hw hx2 hl hn => row ad H locs ls hl (hs ad H locs ls hw hx2 hl hn)
theorem rk_load {i : Nat} (hs : rstp call R (rload L st h k z pc' i) (rPr p l e Rm s m args below meth cd Q nL D cA base MC n0 ro ad0))
    (row : ∀ (x : Int32) (rest : List Value) (H : Heap) (locs : List Loc) (ls : Array Slot), ls[i]? = some (.val (.int x)) → W p l e Rm s m args below meth cd H locs k z Q (F0 m pc' ls (.int x :: rest)) → W p l e Rm s m args below meth cd H locs k z Q (F0 m pc ls rest)) :
    rPr p l e Rm s m args below meth cd Q nL D cA base MC n0 ro ad0 (pc, L, st, h, k, z) := by
  unfold rload at hs
  split at hs
  · rename_i x hx
    exact fun ad H locs ls hw hx2 hl hn => row x _ H locs ls (rget_at hl hx (by simp)) (hs ad H locs ls hw hx2 hl hn)
  · exact False.elim hs
theorem rk_loadL {i : Nat} (hs : rstp call R (rloadL L st h k z pc' i) (rPr p l e Rm s m args below meth cd Q nL D cA base MC n0 ro ad0))
    (row : ∀ (x : Int64) (rest : List Value) (H : Heap) (locs : List Loc) (ls : Array Slot), ls[i]? = some (.val (.long x)) → W p l e Rm s m args below meth cd H locs k z Q (F0 m pc' ls (.long x :: rest)) → W p l e Rm s m args below meth cd H locs k z Q (F0 m pc ls rest)) :
    rPr p l e Rm s m args below meth cd Q nL D cA base MC n0 ro ad0 (pc, L, st, h, k, z) := by
  unfold rloadL at hs
  split at hs
  · rename_i x hx
    exact fun ad H locs ls hw hx2 hl hn => row x _ H locs ls (rget_at hl hx (by simp)) (hs ad H locs ls hw hx2 hl hn)
  · exact False.elim hs
theorem rk_loadA {i : Nat} (hs : rstp call R (rloadA L st h k z pc' i) (rPr p l e Rm s m args below meth cd Q nL D cA base MC n0 ro ad0))
    (row : ∀ (x : Nat) (rest : List Value) (H : Heap) (locs : List Loc) (ls : Array Slot), ls[i]? = some (.val (.ref x)) → W p l e Rm s m args below meth cd H locs k z Q (F0 m pc' ls (.ref x :: rest)) → W p l e Rm s m args below meth cd H locs k z Q (F0 m pc ls rest)) :
    rPr p l e Rm s m args below meth cd Q nL D cA base MC n0 ro ad0 (pc, L, st, h, k, z) := by
  unfold rloadA at hs
  split at hs
  · rename_i x hx
    exact fun ad H locs ls hw hx2 hl hn => row (ad x) _ H locs ls (rget_at hl hx (by simp)) (hs ad H locs ls hw hx2 hl hn)
  · exact False.elim hs
theorem rk_store {i : Nat} (hs : rstp call R (rstore L st h k z pc' i) (rPr p l e Rm s m args below meth cd Q nL D cA base MC n0 ro ad0))
    (row : ∀ (x : Int32) (rest : List Value) (H : Heap) (locs : List Loc) (ls : Array Slot) (lv : List (Nat × Value)), lv_has ls nL lv → i < nL → (∀ ls' : Array Slot, lv_has ls' nL ((i, Value.int x) :: lv.filter (fun q => !(q.1 == i) && !(q.1 + 1 == i && q.2.category == 2))) → W p l e Rm s m args below meth cd H locs k z Q (F0 m pc' ls' rest)) → W p l e Rm s m args below meth cd H locs k z Q (F0 m pc ls (.int x :: rest))) :
    rPr p l e Rm s m args below meth cd Q nL D cA base MC n0 ro ad0 (pc, L, st, h, k, z) := by
  unfold rstore at hs
  split at hs
  · rename_i x st
    cases hc : rcl L i
    · rw [hc] at hs; exact False.elim hs
    · rw [hc] at hs
      exact fun ad H locs ls hw hx2 hl hn => row x _ H locs ls _ hl (by rw [← hn]; exact rcl_lt hc) (fun ls' hl' => hs ad H locs ls' hw hx2 (lv_has_sub hl' (rset_sub hc (by simp))) (by show (L.set i _).length = nL; rw [List.length_set]; exact hn))
  · exact False.elim hs
theorem rk_storeA {i : Nat} (hs : rstp call R (rstoreA L st h k z pc' i) (rPr p l e Rm s m args below meth cd Q nL D cA base MC n0 ro ad0))
    (row : ∀ (x : Nat) (rest : List Value) (H : Heap) (locs : List Loc) (ls : Array Slot) (lv : List (Nat × Value)), lv_has ls nL lv → i < nL → (∀ ls' : Array Slot, lv_has ls' nL ((i, Value.ref x) :: lv.filter (fun q => !(q.1 == i) && !(q.1 + 1 == i && q.2.category == 2))) → W p l e Rm s m args below meth cd H locs k z Q (F0 m pc' ls' rest)) → W p l e Rm s m args below meth cd H locs k z Q (F0 m pc ls (.ref x :: rest))) :
    rPr p l e Rm s m args below meth cd Q nL D cA base MC n0 ro ad0 (pc, L, st, h, k, z) := by
  unfold rstoreA at hs
  split at hs
  · rename_i x st
    cases hc : rcl L i
    · rw [hc] at hs; exact False.elim hs
    · rw [hc] at hs
      exact fun ad H locs ls hw hx2 hl hn => row (ad x) _ H locs ls _ hl (by rw [← hn]; exact rcl_lt hc) (fun ls' hl' => hs ad H locs ls' hw hx2 (lv_has_sub hl' (rset_sub hc (by simp))) (by show (L.set i _).length = nL; rw [List.length_set]; exact hn))
  · exact False.elim hs
theorem rk_storeL {i : Nat} (hs : rstp call R (rstoreL L st h k z pc' i) (rPr p l e Rm s m args below meth cd Q nL D cA base MC n0 ro ad0))
    (row : ∀ (x : Int64) (rest : List Value) (H : Heap) (locs : List Loc) (ls : Array Slot) (lv : List (Nat × Value)), lv_has ls nL lv → i + 1 < nL → (∀ ls' : Array Slot, lv_has ls' nL ((i, Value.long x) :: lv.filter (fun q => !(q.1 == i) && (!(q.1 == i + 1) && !(q.1 + 1 == i && q.2.category == 2)))) → W p l e Rm s m args below meth cd H locs k z Q (F0 m pc' ls' rest)) → W p l e Rm s m args below meth cd H locs k z Q (F0 m pc ls (.long x :: rest))) :
    rPr p l e Rm s m args below meth cd Q nL D cA base MC n0 ro ad0 (pc, L, st, h, k, z) := by
  unfold rstoreL at hs
  split at hs
  · rename_i x st
    cases hc : rcl L i && Nat.blt (i + 1) L.length
    · rw [hc] at hs; exact False.elim hs
    · rw [hc] at hs
      simp only [Bool.and_eq_true] at hc
      have h2 : i + 1 < L.length := Nat.le_of_ble_eq_true hc.2
      exact fun ad H locs ls hw hx2 hl hn => row x _ H locs ls _ hl (by rw [← hn]; exact h2) (fun ls' hl' => hs ad H locs ls' hw hx2 (lv_has_sub hl' (rsetL_sub hc.1 h2)) (by show ((L.set i _).set (i + 1) _).length = nL; rw [List.length_set, List.length_set]; exact hn))
  · exact False.elim hs
theorem rk_inc {i : Nat} {n : Int32} (hs : rstp call R (rinc L st h k z pc' i n) (rPr p l e Rm s m args below meth cd Q nL D cA base MC n0 ro ad0))
    (row : ∀ (x : Int32) (rest : List Value) (H : Heap) (locs : List Loc) (ls : Array Slot) (lv : List (Nat × Value)) (q : Nat), lv_has ls nL lv → lv[q]? = some (i, .int x) → i < nL → (∀ ls' : Array Slot, lv_has ls' nL ((i, Value.int (x + n)) :: lv.filter (fun q => !(q.1 == i) && !(q.1 + 1 == i && q.2.category == 2))) → W p l e Rm s m args below meth cd H locs k z Q (F0 m pc' ls' rest)) → W p l e Rm s m args below meth cd H locs k z Q (F0 m pc ls rest)) :
    rPr p l e Rm s m args below meth cd Q nL D cA base MC n0 ro ad0 (pc, L, st, h, k, z) := by
  unfold rinc at hs
  split at hs
  · rename_i x hx
    cases hc : rcl L i
    · rw [hc] at hs; exact False.elim hs
    · rw [hc] at hs
      intro ad H locs ls hw hx2 hl hn
      obtain ⟨q, hq, hq2⟩ := List.mem_iff_getElem.mp ((rprs_mem ad L 0 (i, .int x)).mpr ⟨i, .int x, hx, by simp, by simp, rfl⟩)
      exact row x _ H locs ls _ q hl (by rw [List.getElem?_eq_getElem hq, hq2]) (by rw [← hn]; exact rcl_lt hc) (fun ls' hl' => hs ad H locs ls' hw hx2 (lv_has_sub hl' (rset_sub hc (by simp))) (by show (L.set i _).length = nL; rw [List.length_set]; exact hn))
  · exact False.elim hs
theorem rk_bin {f : Int32 → Int32 → Int32} (hs : rstp call R (rbin f L st h k z pc') (rPr p l e Rm s m args below meth cd Q nL D cA base MC n0 ro ad0))
    (row : ∀ (x y : Int32) (rest : List Value) (H : Heap) (locs : List Loc) (ls : Array Slot), W p l e Rm s m args below meth cd H locs k z Q (F0 m pc' ls (.int (f x y) :: rest)) → W p l e Rm s m args below meth cd H locs k z Q (F0 m pc ls (.int y :: .int x :: rest))) :
    rPr p l e Rm s m args below meth cd Q nL D cA base MC n0 ro ad0 (pc, L, st, h, k, z) := by
  unfold rbin at hs
  split at hs
  · exact fun ad H locs ls hw hx2 hl hn => row _ _ _ H locs ls (hs ad H locs ls hw hx2 hl hn)
  · exact False.elim hs
theorem rk_binL {f : Int64 → Int64 → Int64} (hs : rstp call R (rbinL f L st h k z pc') (rPr p l e Rm s m args below meth cd Q nL D cA base MC n0 ro ad0))
    (row : ∀ (x y : Int64) (rest : List Value) (H : Heap) (locs : List Loc) (ls : Array Slot), W p l e Rm s m args below meth cd H locs k z Q (F0 m pc' ls (.long (f x y) :: rest)) → W p l e Rm s m args below meth cd H locs k z Q (F0 m pc ls (.long y :: .long x :: rest))) :
    rPr p l e Rm s m args below meth cd Q nL D cA base MC n0 ro ad0 (pc, L, st, h, k, z) := by
  unfold rbinL at hs
  split at hs
  · exact fun ad H locs ls hw hx2 hl hn => row _ _ _ H locs ls (hs ad H locs ls hw hx2 hl hn)
  · exact False.elim hs
theorem rk_div {f : Int32 → Int32 → Int32} (hs : rstp call R (rdiv f L st h k z pc') (rPr p l e Rm s m args below meth cd Q nL D cA base MC n0 ro ad0))
    (row : ∀ (x y : Int32) (rest : List Value) (H : Heap) (locs : List Loc) (ls : Array Slot), ¬ y = 0 → W p l e Rm s m args below meth cd H locs k z Q (F0 m pc' ls (.int (f x y) :: rest)) → W p l e Rm s m args below meth cd H locs k z Q (F0 m pc ls (.int y :: .int x :: rest))) :
    rPr p l e Rm s m args below meth cd Q nL D cA base MC n0 ro ad0 (pc, L, st, h, k, z) := by
  unfold rdiv at hs
  split at hs
  · exact fun ad H locs ls hw hx2 hl hn => row _ _ _ H locs ls hs.1 (hs.2 ad H locs ls hw hx2 hl hn)
  · exact False.elim hs
theorem rk_divL {f : Int64 → Int64 → Int64} (hs : rstp call R (rdivL f L st h k z pc') (rPr p l e Rm s m args below meth cd Q nL D cA base MC n0 ro ad0))
    (row : ∀ (x y : Int64) (rest : List Value) (H : Heap) (locs : List Loc) (ls : Array Slot), ¬ y = 0 → W p l e Rm s m args below meth cd H locs k z Q (F0 m pc' ls (.long (f x y) :: rest)) → W p l e Rm s m args below meth cd H locs k z Q (F0 m pc ls (.long y :: .long x :: rest))) :
    rPr p l e Rm s m args below meth cd Q nL D cA base MC n0 ro ad0 (pc, L, st, h, k, z) := by
  unfold rdivL at hs
  split at hs
  · exact fun ad H locs ls hw hx2 hl hn => row _ _ _ H locs ls hs.1 (hs.2 ad H locs ls hw hx2 hl hn)
  · exact False.elim hs
theorem rk_aldI (X : rCtx p Rm s m args meth cd own init bytes nL D cA base MC MS d) (hd : decode bytes pc = .ok (.iaload, 1)) (hs : rstp call R (raldI ro L st h k z (pc + 1)) (rPr p l e Rm s m args below meth cd Q nL D cA base MC n0 ro ad0)) :
    rPr p l e Rm s m args below meth cd Q nL D cA base MC n0 ro ad0 (pc, L, st, h, k, z) := by
  unfold raldI at hs
  split at hs
  · rename_i i r st
    split at hs
    · rename_i n f hg
      intro ad H locs ls hw hx2 hl hn
      unfold rgetI at hg
      cases hb : Nat.ble 1000000 r
      · rw [hb] at hg
        simp only [cond_false] at hg
        split at hg
        · rename_i n2 f2 hr
          cases hg
          exact va_iald X.1 X.2.1 X.2.2.2.2.2.2.1 hw.1 r 0 (rws_get hr) rfl hs.1 hd (hs.2 ad H locs ls hw hx2 hl hn)
        · cases hg
      · rw [hb] at hg
        simp only [cond_true] at hg
        have hT := hw.2.2.2.2.2.2.2.2.2 _ _ _ hg
        have hr : 1000000 + (r - 1000000) = r := Nat.add_sub_of_le (Nat.le_of_ble_eq_true hb)
        rw [hr] at hT
        exact va_ti X.1 X.2.1 hT hw.2.2.1 hs.1 rfl hd (hs.2 ad H locs ls hw hx2 hl hn)
    · exact False.elim hs
  · exact False.elim hs
theorem rk_aldL (X : rCtx p Rm s m args meth cd own init bytes nL D cA base MC MS d) (hd : decode bytes pc = .ok (.laload, 1)) (hs : rstp call R (raldL L st h k z (pc + 1)) (rPr p l e Rm s m args below meth cd Q nL D cA base MC n0 ro ad0)) :
    rPr p l e Rm s m args below meth cd Q nL D cA base MC n0 ro ad0 (pc, L, st, h, k, z) := by
  unfold raldL at hs
  split at hs
  · split at hs
    · rename_i n f hr
      exact fun ad H locs ls hw hx2 hl hn => va_lald X.1 X.2.1 X.2.2.2.2.2.2.1 hw.1 _ 1 (rws_get hr) rfl hs.1 hd (hs.2 ad H locs ls hw hx2 hl hn)
    · exact False.elim hs
  · exact False.elim hs
theorem rk_aldB (X : rCtx p Rm s m args meth cd own init bytes nL D cA base MC MS d) (hd : decode bytes pc = .ok (.baload, 1)) (hs : rstp call R (raldB L st h k z (pc + 1)) (rPr p l e Rm s m args below meth cd Q nL D cA base MC n0 ro ad0)) :
    rPr p l e Rm s m args below meth cd Q nL D cA base MC n0 ro ad0 (pc, L, st, h, k, z) := by
  unfold raldB at hs
  split at hs
  · split at hs
    · rename_i n f hr
      exact fun ad H locs ls hw hx2 hl hn => va_bald X.1 X.2.1 X.2.2.2.2.2.2.1 hw.1 _ 2 (rws_get hr) rfl hs.1 hd (hs.2 ad H locs ls hw hx2 hl hn)
    · rename_i n f hr
      exact fun ad H locs ls hw hx2 hl hn => va_zald X.1 X.2.1 X.2.2.2.2.2.2.1 hw.1 _ 3 (rws_get hr) rfl hs.1 hd (hs.2 ad H locs ls hw hx2 hl hn)
    · exact False.elim hs
  · exact False.elim hs
theorem rk_aldA (X : rCtx p Rm s m args meth cd own init bytes nL D cA base MC MS d) (hd : decode bytes pc = .ok (.aaload, 1)) (hs : rstp call R (raldA L st h k z (pc + 1)) (rPr p l e Rm s m args below meth cd Q nL D cA base MC n0 ro ad0)) :
    rPr p l e Rm s m args below meth cd Q nL D cA base MC n0 ro ad0 (pc, L, st, h, k, z) := by
  unfold raldA at hs
  split at hs
  · split at hs
    · rename_i i r st0 x fs hr
      split at hs
      · rename_i a ha
        intro ad H locs ls hw hx2 hl hn
        have h1 : ¬ (i < 0 ∨ fs.length ≤ i.toNatClampNeg) := hs.1
        have hlt : i.toNatClampNeg < fs.length := Nat.not_le.mp fun q => h1 (Or.inr q)
        have hv : va_rf (rqf ad fs i.toNatClampNeg) = .ref (ad a) := by
          have : fs[i.toNatClampNeg]? = some (.ref a) := by
            rw [List.getD_eq_getElem?_getD] at ha
            cases hq : fs[i.toNatClampNeg]? with
            | none => rw [hq] at ha; cases ha
            | some w => rw [hq] at ha; exact congrArg some ha
          simp [rqf, this, va_rf]
        refine va_aldq X.1 X.2.1 X.2.2.2.2.2.2.1 hw.1 _ 4 (rws_get hr) rfl hs.1 hd ?_
        rw [hv]
        exact hs.2 ad H locs ls hw hx2 hl hn
      · exact False.elim hs
    · exact False.elim hs
  · exact False.elim hs
theorem rw_put {H H1 : Heap} {locs locs1 : List Loc} {ad : Nat → Nat} {r : Nat} {ee : rE} (hw : rwld D cA base ro s H locs ad h) (hP : va_P D rCl ((rws ad cA h).set r (ad r, rce ad cA ee)) H1) (hD : va_D (rAA base) ((rws ad cA h).set r (ad r, rce ad cA ee))) (hS : va_S (rAA base) s.heap H1 locs1) : rwld D cA base ro s H1 locs1 ad (h.set r ee) := by
  refine ⟨?_, ?_, hS, hw.2.2.2⟩
  · rw [rws_set]; exact hP
  · rw [rws_set]; exact hD
theorem rx_put {ad : Nat → Nat} {r : Nat} {ee : rE} (hx : rxt MC n0 ad0 ad h) : rxt MC n0 ad0 ad (h.set r ee) := ⟨hx.1, hx.2.1, by rw [List.length_set]; exact hx.2.2⟩
theorem rk_astI (X : rCtx p Rm s m args meth cd own init bytes nL D cA base MC MS d) (hd : decode bytes pc = .ok (.iastore, 1)) (hs : rstp call R (rastI L st h k z (pc + 1)) (rPr p l e Rm s m args below meth cd Q nL D cA base MC n0 ro ad0)) :
    rPr p l e Rm s m args below meth cd Q nL D cA base MC n0 ro ad0 (pc, L, st, h, k, z) := by
  unfold rastI at hs
  split at hs
  · split at hs
    · rename_i n f hr
      exact fun ad H locs ls hw hx2 hl hn => va_iast X.1 X.2.1 X.2.2.2.2.2.2.1 hw.1 hw.2.1 hw.2.2.1 _ 0 (rws_get hr) rfl hs.1 hd (fun H1 locs1 hP hD hS => hs.2 ad H1 locs1 ls (rw_put hw hP hD hS) (rx_put hx2) hl hn)
    · exact False.elim hs
  · exact False.elim hs
theorem rk_astL (X : rCtx p Rm s m args meth cd own init bytes nL D cA base MC MS d) (hd : decode bytes pc = .ok (.lastore, 1)) (hs : rstp call R (rastL L st h k z (pc + 1)) (rPr p l e Rm s m args below meth cd Q nL D cA base MC n0 ro ad0)) :
    rPr p l e Rm s m args below meth cd Q nL D cA base MC n0 ro ad0 (pc, L, st, h, k, z) := by
  unfold rastL at hs
  split at hs
  · split at hs
    · rename_i n f hr
      exact fun ad H locs ls hw hx2 hl hn => va_last X.1 X.2.1 X.2.2.2.2.2.2.1 hw.1 hw.2.1 hw.2.2.1 _ 1 (rws_get hr) rfl hs.1 hd (fun H1 locs1 hP hD hS => hs.2 ad H1 locs1 ls (rw_put hw hP hD hS) (rx_put hx2) hl hn)
    · exact False.elim hs
  · exact False.elim hs
theorem rk_astB (X : rCtx p Rm s m args meth cd own init bytes nL D cA base MC MS d) (hd : decode bytes pc = .ok (.bastore, 1)) (hs : rstp call R (rastB L st h k z (pc + 1)) (rPr p l e Rm s m args below meth cd Q nL D cA base MC n0 ro ad0)) :
    rPr p l e Rm s m args below meth cd Q nL D cA base MC n0 ro ad0 (pc, L, st, h, k, z) := by
  unfold rastB at hs
  split at hs
  · split at hs
    · rename_i n f hr
      exact fun ad H locs ls hw hx2 hl hn => va_bast X.1 X.2.1 X.2.2.2.2.2.2.1 hw.1 hw.2.1 hw.2.2.1 _ 2 (rws_get hr) rfl hs.1 hd (fun H1 locs1 hP hD hS => hs.2 ad H1 locs1 ls (rw_put hw hP hD hS) (rx_put hx2) hl hn)
    · rename_i n f hr
      exact fun ad H locs ls hw hx2 hl hn => va_zast X.1 X.2.1 X.2.2.2.2.2.2.1 hw.1 hw.2.1 hw.2.2.1 _ 3 (rws_get hr) rfl hs.1 hd (fun H1 locs1 hP hD hS => hs.2 ad H1 locs1 ls (rw_put hw hP hD hS) (rx_put hx2) hl hn)
    · exact False.elim hs
  · exact False.elim hs
theorem rk_alen (X : rCtx p Rm s m args meth cd own init bytes nL D cA base MC MS d) (hd : decode bytes pc = .ok (.arraylength, 1)) (hs : rstp call R (ralen ro L st h k z (pc + 1)) (rPr p l e Rm s m args below meth cd Q nL D cA base MC n0 ro ad0)) :
    rPr p l e Rm s m args below meth cd Q nL D cA base MC n0 ro ad0 (pc, L, st, h, k, z) := by
  unfold ralen at hs
  split at hs
  · rename_i r st
    split at hs
    · rename_i n f hg
      intro ad H locs ls hw hx2 hl hn
      unfold rgetI at hg
      cases hb : Nat.ble 1000000 r
      · rw [hb] at hg
        simp only [cond_false] at hg
        split at hg
        · rename_i n2 f2 hr
          cases hg
          exact va_alen X.1 X.2.1 X.2.2.2.2.2.2.1 hw.1 r 0 (rws_get hr) rfl rfl hd (hs ad H locs ls hw hx2 hl hn)
        · cases hg
      · rw [hb] at hg
        simp only [cond_true] at hg
        have hT := hw.2.2.2.2.2.2.2.2.2 _ _ _ hg
        have hr : 1000000 + (r - 1000000) = r := Nat.add_sub_of_le (Nat.le_of_ble_eq_true hb)
        rw [hr] at hT
        exact va_tlen X.1 X.2.1 hT hw.2.2.1 rfl hd (hs ad H locs ls hw hx2 hl hn)
    · exact False.elim hs
  · exact False.elim hs
end RC
end
section
section RC2
variable {p : Program} {l : Launch} {e : Env} {Rm : Room} {s : State} {m : MethodId} {args : Array Value} {below : List Frame} {meth : Method} {cd : Code} {Q : State → Prop}
variable {own : String} {init : Bool} {bytes : ByteArray} {nL : Nat} {D : va_G} {cA : Nat → ClassId} {base MC MS d n0 : Nat} {ro : rQ} {ad0 : Nat → Nat}
variable {call : rCall} {R : rR} {pc pc' k z : Nat} {L st : List Value} {h : rH}
theorem rce_obj {ad : Nat → Nat} {ci : Nat} {fs : List Value} (hc : ci ≠ 100) : rce ad cA (.inr (ci, fs)) = .inr (ci, fs.map (rv ad)) := by
  unfold rce
  split
  · rename_i h; cases h
  · rename_i h; cases h; exact absurd rfl hc
  · rename_i h; cases h; rfl
theorem rCl_lt {ci : Nat} {q : vw_C} (h : rCl[ci]? = some q) : ci ≠ 100 := by
  have h1 : ci < rCl.length := (List.getElem?_eq_some_iff.mp h).1
  have h2 : ci < 10 := h1
  omega
/-- what 'rfieldB' says: the field's link, and that it's the field of that name -/
theorem rfield_spec (X : rCtx p Rm s m args meth cd own init bytes nL D cA base MC MS d) {idx q ci : Nat} {pos : List Nat} (hf : rfieldB own idx q ci pos = true) :
    ∃ (C : String) (T : u_T) (N : Nat) (ref : String), rCl[ci]? = some (C, T, N) ∧ q < N ∧ (Cond.fieldLink own idx ref (T q).2.1 (T q).2.2.1).before args s = true ∧ ∀ x, s.fieldFound? (T q).1 (T q).2.1 (T q).2.2.1 = some x → s.fieldFound? ref (T q).2.1 (T q).2.2.1 = some x := by
  have hts := X.2.2.2.2.1
  unfold rfieldB at hf
  split at hf
  · rename_i C T N p0 hc
    simp only [Bool.and_eq_true] at hf
    exact ⟨C, T, N, _, hc, Nat.le_of_ble_eq_true hf.1, hts _ (rwordB_mem hf.2), fun _ h => h⟩
  · rename_i C T N p0 p2 hc
    simp only [Bool.and_eq_true] at hf
    exact ⟨C, T, N, _, hc, Nat.le_of_ble_eq_true hf.1.1, hts _ (rwordB_mem hf.1.2), fun x h => u_same (hts _ (rwordB_mem hf.2)) x h⟩
  · cases hf
theorem rk_getf (X : rCtx p Rm s m args meth cd own init bytes nL D cA base MC MS d) {idx q : Nat} {cs pos : List Nat} (hck : cs.all (fun ci => rfieldB own idx q ci pos) = true) (hd : decode bytes pc = .ok (.getfield idx, 3)) (hs : rstp call R (rgetf (q :: cs) L st h k z (pc + 3)) (rPr p l e Rm s m args below meth cd Q nL D cA base MC n0 ro ad0)) :
    rPr p l e Rm s m args below meth cd Q nL D cA base MC n0 ro ad0 (pc, L, st, h, k, z) := by
  unfold rgetf at hs
  split at hs
  · rename_i q' cs' r st hq
    cases hq
    split at hs
    · rename_i ci fs hr
      cases hb : cs.contains ci
      · rw [hb] at hs; exact False.elim hs
      · rw [hb] at hs
        simp only [cond_true] at hs
        split at hs
        · rename_i v hv
          obtain ⟨C, T, N, ref, hc, hqN, hlink, hsame⟩ := rfield_spec X (List.all_eq_true.mp hck ci (by simpa using hb))
          intro ad H locs ls hw hx2 hl hn
          have he := rws_get (ad := ad) (cA := cA) hr
          rw [rce_obj (rCl_lt hc)] at he
          exact va_get X.1 X.2.1 X.2.2.2.2.1 (rCl_in hc) X.2.2.2.1 X.2.2.2.2.2.2.1 hw.1 r he hc q hqN hlink hsame (by rw [List.getElem?_map, hv]; rfl) hd (hs ad H locs ls hw hx2 hl hn)
        · exact False.elim hs
    · exact False.elim hs
  · exact False.elim hs
def rtyf (ci : Nat) : Nat → FieldType := match ci with
  | 0 => tyX0 | 1 => tyX1 | 2 => tyX2 | 3 => tyX3 | 4 => tyX4 | 5 => tyX5 | 6 => tyX6 | 7 => tyX8 | 8 => tyX9 | _ => tyX10
theorem rtyf_ok {ci : Nat} {C : String} {T : u_T} {N : Nat} (hc : rCl[ci]? = some (C, T, N)) : ∀ k, k < N → parseFieldDescriptor (T k).2.2.1 = some (rtyf ci k) := by
  have h1 : ci < 10 := (List.getElem?_eq_some_iff.mp hc).1
  rcases (show ci = 0 ∨ ci = 1 ∨ ci = 2 ∨ ci = 3 ∨ ci = 4 ∨ ci = 5 ∨ ci = 6 ∨ ci = 7 ∨ ci = 8 ∨ ci = 9 by omega) with rfl | rfl | rfl | rfl | rfl | rfl | rfl | rfl | rfl | rfl <;> cases hc
  · exact tyX0_ok
  · exact tyX1_ok
  · exact tyX2_ok
  · exact tyX3_ok
  · exact tyX4_ok
  · exact tyX5_ok
  · exact tyX6_ok
  · exact tyX8_ok
  · exact tyX9_ok
  · exact tyX10_ok
theorem rnm_ok {ci : Nat} {C : String} {T : u_T} {N : Nat} (hc : rCl[ci]? = some (C, T, N)) : ∀ a, a < N → ∀ b, b < N → a ≠ b → (T a).2.1 ≠ (T b).2.1 := by
  have h1 : ci < 10 := (List.getElem?_eq_some_iff.mp hc).1
  rcases (show ci = 0 ∨ ci = 1 ∨ ci = 2 ∨ ci = 3 ∨ ci = 4 ∨ ci = 5 ∨ ci = 6 ∨ ci = 7 ∨ ci = 8 ∨ ci = 9 by omega) with rfl | rfl | rfl | rfl | rfl | rfl | rfl | rfl | rfl | rfl <;> cases hc
  · exact nmX0
  · exact nmX1
  · exact nmX2
  · exact nmX3
  · exact nmX4
  · exact nmX5
  · exact nmX6
  · exact nmX8
  · exact nmX9
  · exact nmX10
theorem rnew_ok {ci : Nat} {C : String} {T : u_T} {N : Nat} (hc : rCl[ci]? = some (C, T, N)) : (rnew ci).length = N ∧ ∀ (ad : Nat → Nat) (j : Nat), j < N → defaultValue (rtyf ci j) = vp_V ((rnew ci).map (rv ad)) j := by
  have h1 : ci < 10 := (List.getElem?_eq_some_iff.mp hc).1
  have key : (∀ j, j < N → defaultValue (rtyf ci j) = vp_V (rnew ci) j ∧ (rnew ci).getD j .null ≠ .ref 0 ∧ ∀ a, (rnew ci).getD j .null ≠ .ref a) → ∀ (ad : Nat → Nat) (j : Nat), j < N → defaultValue (rtyf ci j) = vp_V ((rnew ci).map (rv ad)) j := by
    intro hk ad j hj
    rw [(hk j hj).1]
    have h3 := (hk j hj).2.2
    unfold vp_V
    rw [List.getD_eq_getElem?_getD, List.getD_eq_getElem?_getD, List.getElem?_map]
    rw [List.getD_eq_getElem?_getD] at h3
    cases hq : (rnew ci)[j]? with
    | none => rfl
    | some w =>
      rw [hq] at h3
      simp only [Option.map_some, Option.getD_some] at h3 ⊢
      cases w <;> first | rfl | exact absurd rfl (h3 _)
  have all : ∀ (l : List Value), l.all (fun v => match v with | .ref _ => false | _ => true) = true → ∀ (j a : Nat), l.getD j .null ≠ .ref a := by
    intro l hl j a e
    rw [List.getD_eq_getElem?_getD] at e
    cases hq : l[j]? with
    | none => rw [hq] at e; cases e
    | some w =>
      rw [hq] at e
      simp only [Option.getD_some] at e
      have := List.all_eq_true.mp hl w (List.mem_of_getElem? hq)
      rw [e] at this
      cases this
  rcases (show ci = 0 ∨ ci = 1 ∨ ci = 2 ∨ ci = 3 ∨ ci = 4 ∨ ci = 5 ∨ ci = 6 ∨ ci = 7 ∨ ci = 8 ∨ ci = 9 by omega) with rfl | rfl | rfl | rfl | rfl | rfl | rfl | rfl | rfl | rfl <;> cases hc <;> refine ⟨rfl, key (fun j hj => ⟨?_, all _ rfl j 0, all _ rfl j⟩)⟩ <;> revert j <;> decide +kernel
theorem rty_spec {ci q ty : Nat} {C : String} {T : u_T} {N : Nat} (hc : rCl[ci]? = some (C, T, N)) (h : rtyB ci q ty = true) : (ty = 0 ∧ parseFieldDescriptor (T q).2.2.1 = some .int) ∨ (ty = 1 ∧ parseFieldDescriptor (T q).2.2.1 = some .long) ∨ (ty = 2 ∧ ∃ t, parseFieldDescriptor (T q).2.2.1 = some t ∧ ∀ a, narrow t (.ref a) = .ref a ∧ fits t (.ref a) = true) ∨ (ty = 3 ∧ parseFieldDescriptor (T q).2.2.1 = some .boolean) := by
  unfold rtyB at h
  rw [hc] at h
  simp only at h
  split at h
  · rename_i h1; exact Or.inl ⟨rfl, h1⟩
  · rename_i h1; exact Or.inr (Or.inl ⟨rfl, h1⟩)
  · rename_i h1; exact Or.inr (Or.inr (Or.inl ⟨rfl, _, h1, fun a => ⟨rfl, rfl⟩⟩))
  · rename_i h1; exact Or.inr (Or.inr (Or.inl ⟨rfl, _, h1, fun a => ⟨rfl, rfl⟩⟩))
  · rename_i h1; exact Or.inr (Or.inr (Or.inr ⟨rfl, h1⟩))
  · cases h
/-- a field's row, final or not -/
theorem rput_row (X : rCtx p Rm s m args meth cd own init bytes nL D cA base MC MS d) {H : Heap} {locs : List Loc} {ls : Array Slot} {ad : Nat → Nat} {rest : List Value} {idx q fin ci r : Nat} {pos : List Nat} {fs : List Value} {v : Value} {t : FieldType} (hck : rfieldB own idx q ci pos = true) (hi : fin = 0 ∨ init = true) (hfin : rfinB own ci q fin = true) (hty : ∀ (C : String) (T : u_T) (N : Nat), rCl[ci]? = some (C, T, N) → parseFieldDescriptor (T q).2.2.1 = some t) (hn : narrow t (rv ad v) = rv ad v) (hfit : fits t (rv ad v) = true) (hq : q < fs.length) (hw : rwld D cA base ro s H locs ad h) (hr : h[r]? = some (.inr (ci, fs))) (hd : decode bytes pc = .ok (.putfield idx, 3))
    (kk : ∀ (H1 : Heap) (locs1 : List Loc), rwld D cA base ro s H1 locs1 ad (h.set r (.inr (ci, fs.set q v))) → W p l e Rm s m args below meth cd H1 locs1 k z Q (F0 m (pc + 3) ls rest)) :
    W p l e Rm s m args below meth cd H locs k z Q (F0 m pc ls (rv ad v :: .ref (ad r) :: rest)) := by
  obtain ⟨C, T, N, ref, hc, hqN, hlink, hsame⟩ := rfield_spec X hck
  have he := rws_get (ad := ad) (cA := cA) hr
  rw [rce_obj (rCl_lt hc)] at he
  have hnew : rce ad cA (.inr (ci, fs.set q v)) = .inr (ci, (fs.map (rv ad)).set q (rv ad v)) := by
    rw [rce_obj (rCl_lt hc), List.map_set]
  unfold rfinB at hfin
  rw [hc] at hfin
  simp only at hfin
  have fin0 : (T q).2.2.2 = false → W p l e Rm s m args below meth cd H locs k z Q (F0 m pc ls (rv ad v :: .ref (ad r) :: rest)) := fun hf =>
    va_put X.1 X.2.1 X.2.2.2.2.1 (rCl_in hc) (rtyf ci) (rtyf_ok hc) (rnm_ok hc) X.2.2.2.1 X.2.2.2.2.2.2.1 hw.1 hw.2.1 hw.2.2.1 r he hc q hqN hlink hsame hf (hty _ _ _ hc) hn hfit (by rw [List.length_map]; exact hq) hd
      (fun H1 locs1 hP hD hS => kk H1 locs1 (rw_put hw (by rw [hnew]; exact hP) (by rw [hnew]; exact hD) hS))
  rcases Nat.eq_zero_or_pos fin with h0 | h0
  · subst h0
    simp only [Bool.not_eq_true'] at hfin
    exact fin0 hfin
  · obtain ⟨j, rfl⟩ : ∃ j, fin = j + 1 := ⟨fin - 1, by omega⟩
    simp only [Bool.and_eq_true, decide_eq_true_eq] at hfin
    have hin : meth.name = "<init>" := X.2.2.2.2.2.1 (hi.resolve_left (by omega))
    exact va_putF X.1 X.2.1 X.2.2.2.2.1 (rCl_in hc) (rtyf ci) (rtyf_ok hc) (rnm_ok hc) X.2.2.2.1 X.2.2.2.2.2.2.1 hw.1 hw.2.1 hw.2.2.1 r he hc q hqN hlink hsame hfin.1 hin hfin.2 (hty _ _ _ hc) hn hfit (by rw [List.length_map]; exact hq) hd
      (fun H1 locs1 hP hD hS => kk H1 locs1 (rw_put hw (by rw [hnew]; exact hP) (by rw [hnew]; exact hD) hS))
theorem rk_putf (X : rCtx p Rm s m args meth cd own init bytes nL D cA base MC MS d) {idx q fin ty : Nat} {cs pos : List Nat} (hi : fin = 0 ∨ init = true) (hck : cs.all (fun ci => rfieldB own idx q ci pos && rtyB ci q ty && rfinB own ci q fin) = true) (hd : decode bytes pc = .ok (.putfield idx, 3)) (hs : rstp call R (rputf (q :: fin :: ty :: cs) L st h k z (pc + 3)) (rPr p l e Rm s m args below meth cd Q nL D cA base MC n0 ro ad0)) :
    rPr p l e Rm s m args below meth cd Q nL D cA base MC n0 ro ad0 (pc, L, st, h, k, z) := by
  unfold rputf at hs
  split at hs
  · rename_i q' fin' ty' cs' v r st hq
    cases hq
    split at hs
    · rename_i ci fs hr
      cases hb : cs.contains ci && Nat.blt q fs.length
      · rw [hb] at hs; exact False.elim hs
      · rw [hb] at hs
        simp only [cond_true] at hs
        simp only [Bool.and_eq_true] at hb
        have hql : q < fs.length := Nat.le_of_ble_eq_true hb.2
        have hc3 := List.all_eq_true.mp hck ci (by simpa using hb.1)
        simp only [Bool.and_eq_true] at hc3
        obtain ⟨C, T, N, ref, hc, -, -, -⟩ := rfield_spec X hc3.1.1
        have hU : ∀ {C' : String} {T' : u_T} {N' : Nat}, rCl[ci]? = some (C', T', N') → T' = T := fun h' => by rw [hc] at h'; cases h'; rfl
        have hsp := rty_spec hc hc3.1.2
        split at hs
        · rename_i x
          intro ad H locs ls hw hx2 hl hn
          rcases hsp with ⟨h', -⟩ | ⟨h', -⟩ | ⟨h', -⟩ | ⟨-, hp⟩
          · cases h'
          · cases h'
          · cases h'
          · exact rput_row X (t := .boolean) (v := .int x) hc3.1.1 hi hc3.2 (fun C' T' N' h' => by rw [hU h']; exact hp) (by rcases hs.1 with rfl | rfl <;> rfl) (by rcases hs.1 with rfl | rfl <;> rfl) hql hw hr hd (fun H1 locs1 hw1 => hs.2 ad H1 locs1 ls hw1 (rx_put hx2) hl hn)
        · rename_i x
          intro ad H locs ls hw hx2 hl hn
          rcases hsp with ⟨-, hp⟩ | ⟨h', -⟩ | ⟨h', -⟩ | ⟨h', -⟩
          · exact rput_row X (t := .int) (v := .int x) hc3.1.1 hi hc3.2 (fun C' T' N' h' => by rw [hU h']; exact hp) rfl rfl hql hw hr hd (fun H1 locs1 hw1 => hs ad H1 locs1 ls hw1 (rx_put hx2) hl hn)
          · cases h'
          · cases h'
          · cases h'
        · rename_i x
          intro ad H locs ls hw hx2 hl hn
          rcases hsp with ⟨h', -⟩ | ⟨-, hp⟩ | ⟨h', -⟩ | ⟨h', -⟩
          · cases h'
          · exact rput_row X (t := .long) (v := .long x) hc3.1.1 hi hc3.2 (fun C' T' N' h' => by rw [hU h']; exact hp) rfl rfl hql hw hr hd (fun H1 locs1 hw1 => hs ad H1 locs1 ls hw1 (rx_put hx2) hl hn)
          · cases h'
          · cases h'
        · rename_i x
          intro ad H locs ls hw hx2 hl hn
          rcases hsp with ⟨h', -⟩ | ⟨h', -⟩ | ⟨-, t, hp, ht⟩ | ⟨h', -⟩
          · cases h'
          · cases h'
          · exact rput_row X (t := t) (v := .ref x) hc3.1.1 hi hc3.2 (fun C' T' N' h' => by rw [hU h']; exact hp) (ht _).1 (ht _).2 hql hw hr hd (fun H1 locs1 hw1 => hs ad H1 locs1 ls hw1 (rx_put hx2) hl hn)
          · cases h'
        · exact False.elim hs
    · exact False.elim hs
  · exact False.elim hs
end RC2
end
section
/-! ===== making cells, calls ===== -/
theorem rv_ext {n : Nat} {ad ad' : Nat → Nat} (he : ∀ k, k < n ∨ 1000000 ≤ k → ad' k = ad k) : ∀ {L : List Value}, rwfv n L = true → L.map (rv ad') = L.map (rv ad) ∧ ∀ i, rprs ad' i L = rprs ad i L
  | [], _ => ⟨rfl, fun _ => rfl⟩
  | v :: L, h => by
    simp only [rwfv, List.all_cons, Bool.and_eq_true] at h
    have ih := rv_ext he (L := L) h.2
    have hv : rv ad' v = rv ad v := by
      cases v with
      | ref k =>
        have h1 := h.1
        simp only [Bool.or_eq_true] at h1
        show Value.ref (ad' k) = Value.ref (ad k)
        rw [he k (h1.elim (fun q => Or.inl (Nat.le_of_ble_eq_true q)) (fun q => Or.inr (Nat.le_of_ble_eq_true q)))]
      | _ => rfl
    refine ⟨by rw [List.map_cons, List.map_cons, hv, ih.1], fun i => ?_⟩
    cases v with
    | null => exact ih.2 (i + 1)
    | _ =>
      show (i, rv ad' _) :: rprs ad' (i + 1) L = (i, rv ad _) :: rprs ad (i + 1) L
      rw [hv, ih.2]
theorem rqf_ext {n : Nat} {ad ad' : Nat → Nat} (he : ∀ k, k < n ∨ 1000000 ≤ k → ad' k = ad k) {fs : List Value} (h : rwfv n fs = true) : rqf ad' fs = rqf ad fs := by
  funext j
  unfold rqf
  cases hj : fs[j]? with
  | none => rfl
  | some v =>
    cases v with
    | ref k =>
      have h1 := List.all_eq_true.mp h _ (List.mem_of_getElem? hj)
      simp only [Bool.or_eq_true] at h1
      show some (ad' k) = some (ad k)
      rw [he k (h1.elim (fun q => Or.inl (Nat.le_of_ble_eq_true q)) (fun q => Or.inr (Nat.le_of_ble_eq_true q)))]
    | _ => rfl
theorem rce_ext {n : Nat} {ad ad' : Nat → Nat} {cA : Nat → ClassId} (he : ∀ k, k < n ∨ 1000000 ≤ k → ad' k = ad k) {e : rE} (h : rwfE n e = true) : rce ad' cA e = rce ad cA e := by
  rcases e with ⟨t, a⟩ | ⟨ci, fs⟩
  · rfl
  · have h1 : rwfv n fs = true := h
    by_cases hc : ci = 100
    · subst hc
      show (Sum.inl (cA 4, fs.length, .inr (.inr (.inr (.inr (rqf ad' fs))))) : va_E) = .inl (cA 4, fs.length, .inr (.inr (.inr (.inr (rqf ad fs)))))
      rw [rqf_ext he h1]
    · rw [rce_obj hc, rce_obj hc, (rv_ext he h1).1]
theorem rws_push {ad : Nat → Nat} {cA : Nat → ClassId} {h : rH} {q : Nat} {e : rE} (hwf : h.all (rwfE h.length) = true) (hl : h.length < 1000000) :
    rws (fun k => if k = h.length then q else ad k) cA (h ++ [e]) = rws ad cA h ++ [(q, rce (fun k => if k = h.length then q else ad k) cA e)] := by
  have he : ∀ k, k < h.length ∨ 1000000 ≤ k → (fun k => if k = h.length then q else ad k) k = ad k := by
    intro k hk
    show (if k = h.length then q else ad k) = ad k
    rw [if_neg (by omega)]
  unfold rws
  rw [List.mapIdx_append]
  congr 1
  · apply List.ext_getElem?
    intro i
    rw [List.getElem?_mapIdx, List.getElem?_mapIdx]
    cases hi : h[i]? with
    | none => rfl
    | some c =>
      have hlt : i < h.length := (List.getElem?_eq_some_iff.mp hi).1
      simp only [Option.map_some]
      rw [rce_ext he (List.all_eq_true.mp hwf _ (List.mem_of_getElem? hi)), if_neg (by omega)]
  · simp
theorem rSt_ext {base : Nat} {ro : rQ} {ad ad' : Nat → Nat} {U : State} {H : Heap} (he : ∀ k, 1000000 ≤ k → ad' k = ad k) (h : rSt base ro ad U H) : rSt base ro ad' U H := by
  obtain ⟨h1, h2, h3, h4, h5, h6, h7⟩ := h
  refine ⟨h1, h2, ?_, ?_, ?_, ?_, fun k n f hk => ?_⟩
  · rw [he _ (Nat.le_refl _)]; exact h3
  · rw [he _ (by decide)]; exact h4
  · rw [he _ (by decide)]; exact h5
  · rw [he _ (by decide)]; exact h6
  · rw [he _ (Nat.le_add_right _ _)]; exact h7 k n f hk
theorem rSt_blind {base : Nat} {ro : rQ} {ad : Nat → Nat} {u U : State} {H : Heap} (hv : u.vm = U.vm) (h : rSt base ro ad u H) : rSt base ro ad U H := by
  obtain ⟨h1, h2, h3, h4, h5, h6, h7⟩ := h
  have ha : u.vm.Alike U.vm := by rw [hv]; exact Vm.Alike.refl U.vm
  refine ⟨fun w hw => va_Nw.same ?_ hv (h1 w hw), h2.moved ha, h3.moved ha, h4.moved ha, h5.moved ha, h6.moved ha, fun k n f hk => (h7 k n f hk).moved ha⟩
  have := (List.mem_filter.mp hw).2
  cases w <;> first | rfl | (simp [risN] at this)
theorem rSt_go {base : Nat} {ro : rQ} {ad : Nat → Nat} {s U : State} {H : Heap} {locs : List Loc} (hW : s.WarmedH U.vm) (hS : va_S (rAA base) s.heap H locs) (hU : U.heap = H) (h : rSt base ro ad s s.heap) : rSt base ro ad U U.heap := by
  obtain ⟨h1, h2, h3, h4, h5, h6, h7⟩ := h
  rw [hU]
  refine ⟨fun w hw => ?_, h2.moved hW.alike, (h3.moved hW.alike).kept hS.2.1, (h4.moved hW.alike).kept hS.2.1, (h5.moved hW.alike).kept hS.2.1, (h6.moved hW.alike).kept hS.2.1, fun k n f hk => ((h7 k n f hk).moved hW.alike).kept hS.2.1⟩
  have hq := (List.mem_filter.mp hw).2
  have hz := h1 w hw
  cases w <;> first | exact va_Nw.warmF hW hz | exact va_Nw.warmM hW hz | exact va_Nw.warmD hW hz | (simp [risN] at hq)
def rM (ro : rQ) : Nat → rCall
  | 0 => fun _ _ _ _ _ _ => False
  | d + 1 => fun f mc ms As h R => match pgm[f]? with
    | some q => (As.all (fun v => match v with | .null => false | _ => true) && Nat.ble ((As.map (fun v => v.category)).sum) q.2.2.1) = true ∧ rT ro (rM ro d) q.2.2.2.2 mc ms R (0, rargs As q.2.2.1, [], h, 0, 0)
    | none => False
theorem rM_mono (ro : rQ) : ∀ d, rMon (rM ro d)
  | 0, _, _, _, _, _, _, _, _, h => h
  | d + 1, f, mc, ms, As, h, R, R', hR, hc => by
    unfold rM at hc ⊢
    split at hc
    · exact ⟨hc.1, rT_mono (rM_mono ro d) hR hc.2⟩
    · exact hc
theorem rstp_call {call call' : rCall} (hcc : ∀ f mc ms As h R, call f mc ms As h R → call' f mc ms As h R) {R : rR} {o : Option rO} {P : rK → Prop} (h : rstp call R o P) : rstp call' R o P := by
  rcases o with _ | (c | ⟨g, c⟩ | ⟨b, c1, c2⟩ | ⟨⟨f, mc, ms, As, hh⟩, kk⟩ | ⟨g, v, hh⟩)
  · exact h
  · exact h
  · exact h
  · exact h
  · exact hcc _ _ _ _ _ _ h
  · exact h
theorem rM_succ (ro : rQ) : ∀ (d f mc ms : Nat) (As : List Value) (h : rH) (R : rR), rM ro d f mc ms As h R → rM ro (d + 1) f mc ms As h R
  | 0, _, _, _, _, _, _, h => False.elim h
  | d + 1, f, mc, ms, As, h, R, hc => by
    unfold rM at hc ⊢
    split at hc
    · rename_i q hq
      refine ⟨hc.1, hc.2 _ (fun c hs => rT_step (rM_mono ro (d + 1)) (rstp_call (rM_succ ro d) hs))⟩
    · exact hc
theorem rM_le (ro : rQ) {a b : Nat} (hab : a ≤ b) {f mc ms : Nat} {As : List Value} {h : rH} {R : rR} (hc : rM ro a f mc ms As h R) : rM ro b f mc ms As h R := by
  induction hab with
  | refl => exact hc
  | step _ ih => exact rM_succ ro _ _ _ _ _ _ _ ih
def rQB (D : va_G) (cA : Nat → ClassId) (base mc n : Nat) (ad : Nat → Nat) (u : rH × (Nat → Nat)) (t : State) : Prop := rwd0 D cA base u.2 u.1 t.heap ∧ rxt mc n ad u.2 u.1
def rQc (D : va_G) (cA : Nat → ClassId) (base mc n : Nat) (ad : Nat → Nat) (R : rR) (ret : Option FieldType) : Array Value → State → Outcome → State → Prop := match ret with
  | none => va_Qv (fun u : rH × (Nat → Nat) => R none u.1) (rQB D cA base mc n ad) (rAA base)
  | some .long => va_Ql (fun x (u : rH × (Nat → Nat)) => R (some (.long x)) u.1) (rQB D cA base mc n ad) (rAA base)
  | some _ => va_Qi (fun x (u : rH × (Nat → Nat)) => R (some (.int x)) u.1) (rQB D cA base mc n ad) (rAA base)
def rPc (D : va_G) (cA : Nat → ClassId) (base : Nat) (ro : rQ) (ad : Nat → Nat) (h : rH) (As : List Value) : Array Value → State → Prop := va_Pc (As.map (rv ad)) (fun U => va_K D rCl (rtys cA) U ∧ rwd0 D cA base ad h U.heap ∧ base ≤ U.heap.size ∧ rSt base ro ad U U.heap)
def rRm (d mc ms : Nat) : Room := { frames := d, cells := mc, slots := ms, locals := 60 * d }
def rMet (l : Launch) (D : va_G) (cA : Nat → ClassId) (base : Nat) (ro : rQ) (d : Nat) : Prop := ∀ (f mc ms : Nat) (As : List Value) (h : rH) (R : rR) (ad : Nat → Nat) (q : rP), pgm[f]? = some q → rM ro d f mc ms As h R → Met l q.1 (.code q.1 q.2.1 q.2.2.1 q.2.2.2.1 :: rBig) (rRm d mc ms) (rPc D cA base ro ad h As) (rQc D cA base mc h.length ad R q.2.2.2.1) mc ms (rAA base)
theorem rBig_good : ∀ w ∈ rBig, (w.onTables && w.keeps) = true ∨ ∃ ty, w = .arrayClass ty := fun w hw => good_of_word (List.mem_filter.mp hw).2
theorem rBig_in {ws : List Cond} (h : ∀ w ∈ ws, w ∈ rBig) : GoodIn rBig ws := fun w hw => ⟨h w hw, rBig_good w (h w hw)⟩
section RD
variable {p : Program} {l : Launch} {e : Env} {Rm : Room} {s : State} {m : MethodId} {args : Array Value} {below : List Frame} {meth : Method} {cd : Code} {Q : State → Prop}
variable {own : String} {init : Bool} {bytes : ByteArray} {nL : Nat} {D : va_G} {cA : Nat → ClassId} {base MC MS d n0 : Nat} {ro : rQ} {ad0 : Nat → Nat}
variable {call : rCall} {R : rR} {pc pc' k z mc ms : Nat} {L st : List Value} {h : rH}
theorem rPc_blind {ad : Nat → Nat} {As : List Value} : FrameBlind (rPc D cA base ro ad h As) := by
  intro a U g mk hp
  obtain ⟨h1, hK, hw, hb, hS⟩ := hp
  exact ⟨h1, va_K.moved (u := U) (U := U.calling g mk a) (Vm.Alike.refl U.vm) hK, hw, hb, rSt_blind (u := U) (U := U.calling g mk a) rfl hS⟩
theorem rPc_pre (X : rCtx p Rm s m args meth cd own init bytes nL D cA base MC MS d) {H : Heap} {locs : List Loc} {ad : Nat → Nat} {As : List Value} (hw : rwld D cA base ro s H locs ad h) : ∀ U : State, U.heap = H → s.WarmedH U.vm → rPc D cA base ro ad h As (As.map (rv ad)).toArray U := by
  intro U hU hW
  refine ⟨rfl, va_K.moved hW.alike X.2.2.2.2.2.2.1, ?_, ?_, rSt_go hW hw.2.2.1 hU hw.2.2.2⟩
  · rw [hU]; exact ⟨hw.1, hw.2.1⟩
  · rw [hU]; exact Nat.le_trans X.2.2.2.2.2.2.2.1 hw.2.2.1.1
/-- behind a call -/
theorem rk_go {H : Heap} {locs : List Loc} {ls : Array Slot} {ad : Nat → Nat} {st0 : List Value} {ret : Option FieldType} {a : Array Value}
    (hr : va_Run p l e Rm s m args below meth cd H locs k z mc ms (F0 m pc ls st0) (st.map (rv ad)) (rQc D cA base mc h.length ad (fun r h' => rPr p l e Rm s m args below meth cd Q nL D cA base MC n0 ro ad0 (pc + 3, L, r.toList ++ st, h', k + mc, z + ms)) ret a) (rAA base))
    (hw : rwld D cA base ro s H locs ad h) (hx2 : rxt MC n0 ad0 ad h) (hl : lv_has ls nL (rprs ad 0 L)) (hn : L.length = nL) (hwf : mc = 0 ∨ (rwfv h.length L = true ∧ rwfv h.length st = true)) (hMC : k + mc ≤ MC) : W p l e Rm s m args below meth cd H locs k z Q (F0 m pc ls st0) := by
  have fin : ∀ (u : rH × (Nat → Nat)) (v : List Value) (t : State) (H1 : Heap) (locs1 : List Loc), (∀ ad : Nat → Nat, v.map (rv ad) = v) → t.heap = H1 → rQB D cA base mc h.length ad u t → va_S (rAA base) s.heap H1 locs1 → rPr p l e Rm s m args below meth cd Q nL D cA base MC n0 ro ad0 (pc + 3, L, v ++ st, u.1, k + mc, z + ms) → W p l e Rm s m args below meth cd H1 locs1 (k + mc) (z + ms) Q (F0 m (pc + 3) ls (v ++ st.map (rv ad))) := by
    intro u v t H1 locs1 hv ht hB hS hp
    obtain ⟨⟨hP1, hD1⟩, hx0, hx1, hxl⟩ := hB
    rw [ht] at hP1
    have hst : st.map (rv u.2) = st.map (rv ad) ∧ rprs u.2 0 L = rprs ad 0 L := by
      rcases hwf with h0 | ⟨h1, h2⟩
      · rw [hx0 h0]; exact ⟨rfl, rfl⟩
      · exact ⟨(rv_ext hx1 h2).1, (rv_ext hx1 h1).2 0⟩
    have key := hp u.2 H1 locs1 ls ⟨hP1, hD1, hS, rSt_ext (fun k hk => hx1 k (Or.inr hk)) hw.2.2.2⟩ ⟨fun h0 => (hx0 (by omega)).trans (hx2.1 h0), fun k hk => (hx1 k (hk.elim (fun q => Or.inl (Nat.lt_of_lt_of_le q hx2.2.2)) Or.inr)).trans (hx2.2.1 k hk), Nat.le_trans hx2.2.2 hxl⟩ (by rw [show ((pc + 3, L, v ++ st, u.1, k + mc, z + ms) : rK).2.1 = L from rfl, hst.2]; exact hl) hn
    have e1 : (v ++ st).map (rv u.2) = v ++ st.map (rv ad) := by rw [List.map_append, hv, hst.1]
    have key2 : W p l e Rm s m args below meth cd H1 locs1 (k + mc) (z + ms) Q (F0 m (pc + 3) ls ((v ++ st).map (rv u.2))) := key
    rw [e1] at key2
    exact key2
  cases ret with
  | none => exact va_callv (a := a) hr hw.2.2.1 (fun q _ h => h) (fun q h => h) (fun u t H1 locs1 ht _ hp hB _ _ hS => fin u [] t H1 locs1 (fun _ => rfl) ht hB hS hp)
  | some ty =>
    cases ty with
    | long => exact va_calll (a := a) hr hw.2.2.1 (fun q _ h => h) (fun q h => h) (fun x u t H1 locs1 ht _ hp hB _ _ hS => fin u [.long x] t H1 locs1 (fun _ => rfl) ht hB hS hp)
    | _ => exact va_calli (a := a) hr hw.2.2.1 (fun q _ h => h) (fun q h => h) (fun x u t H1 locs1 ht _ hp hB _ _ hS => fin u [.int x] t H1 locs1 (fun _ => rfl) ht hB hS hp)
theorem rwd_sum {st : List Value} (h : rwd st = true) (ad : Nat → Nat) : ((st.map (rv ad)).map fun v => v.category).sum ≤ 8 := by
  have e1 : ((st.map (rv ad)).map fun v => v.category) = st.map fun v => v.category := by
    rw [List.map_map]
    apply List.map_congr_left
    intro v _
    exact rv_cat ad v
  rw [e1]
  exact Nat.le_of_ble_eq_true h
end RD
end
section
section RE
variable {p : Program} {l : Launch} {e : Env} {Rm : Room} {s : State} {m : MethodId} {args : Array Value} {below : List Frame} {meth : Method} {cd : Code} {Q : State → Prop}
variable {own : String} {init : Bool} {bytes : ByteArray} {nL : Nat} {D : va_G} {cA : Nat → ClassId} {base MC MS d n0 : Nat} {ro : rQ} {ad0 : Nat → Nat}
variable {R : rR} {pc pc' k z mc ms : Nat} {L st : List Value} {h : rH}
/-- what a call needs, whichever way it is linked -/
theorem rinv_spec {f : Nat} {As : List Value} {P : rK → Prop} {call : rCall} (hs : rstp call R (rinv MC MS f mc ms As L st h k z pc') P) :
    (k + mc ≤ MC ∧ z + ms ≤ MS ∧ rwd st = true ∧ (mc = 0 ∨ (rwfv h.length L = true ∧ rwfv h.length st = true))) ∧ call f mc ms As h (fun r h' => P (pc', L, r.toList ++ st, h', k + mc, z + ms)) := by
  unfold rinv at hs
  cases hb : Nat.ble (k + mc) MC && Nat.ble (z + ms) MS && rwd st && (Nat.beq mc 0 || (rwfv h.length L && rwfv h.length st))
  · rw [hb] at hs; exact False.elim hs
  · rw [hb] at hs
    simp only [Bool.and_eq_true, Bool.or_eq_true] at hb
    exact ⟨⟨Nat.le_of_ble_eq_true hb.1.1.1, Nat.le_of_ble_eq_true hb.1.1.2, hb.1.2, hb.2.elim (fun q => Or.inl (Nat.eq_of_beq_eq_true q)) Or.inr⟩, hs⟩
theorem ry_spec {f : Nat} {g : MethodName → Bool} (h : ryB f g = true) : ∃ q, pgm[f]? = some q ∧ g q.1 = true := by
  unfold ryB at h
  split at h
  · rename_i y b n r t hq
    exact ⟨_, hq, h⟩
  · cases h
theorem rpar_spec {dd : String} {n : Nat} (h : rparB dd n = true) : (parseMethodDescriptor dd).map (fun d => d.parameters.length) = some n := by simpa [rparB] using h
theorem rnot_spec {c : String} (h : rnotMH c = true) : c ≠ "java/lang/invoke/MethodHandle" ∧ c ≠ "java/lang/invoke/VarHandle" := by simpa [rnotMH] using h
theorem pg_max {f : Nat} {q : rP} (hq : pgm[f]? = some q) : q.2.2.1 ≤ 30 := by
  have h := ok_met hq
  obtain ⟨y, b, n, r, t⟩ := q
  simp only [rmetB, Bool.and_eq_true] at h
  exact Nat.le_of_ble_eq_true h.2
theorem rroom (X : rCtx p Rm s m args meth cd own init bytes nL D cA base MC MS d) {f : Nat} {q : rP} (hq : pgm[f]? = some q) : (rRm d mc ms).frames + 1 ≤ Rm.frames ∧ 8 + (q.2.2.1 + 11) + (rRm d mc ms).locals ≤ Rm.locals := by
  have h1 := X.2.2.2.2.2.2.2.2
  have h2 := pg_max hq
  refine ⟨h1.1, ?_⟩
  show 8 + (q.2.2.1 + 11) + 60 * d ≤ Rm.locals
  omega
theorem rwords (X : rCtx p Rm s m args meth cd own init bytes nL D cA base MC MS d) {f : Nat} {q : rP} (hq : pgm[f]? = some q) : ∀ w ∈ Cond.code q.1 q.2.1 q.2.2.1 q.2.2.2.1 :: rBig, w ∈ rBig := by
  intro w hw
  rcases List.mem_cons.mp hw with rfl | h
  · exact ok_code hq
  · exact h
theorem rk_stat (X : rCtx p Rm s m args meth cd own init bytes nL D cA base MC MS d) (IH : rMet l D cA base ro d) {idx f n : Nat} {As : List Value} {q : rP} (hq : pgm[f]? = some q) (hcw : (rm : Room) → rm.cells = mc → rm.slots = ms → rm.frames + 1 ≤ Rm.frames → 8 + (q.2.2.1 + 11) + rm.locals ≤ Rm.locals → (CallB Rm s args own idx q.1 q.2.1 q.2.2.1 q.2.2.2.1 (Cond.code q.1 q.2.1 q.2.2.1 q.2.2.2.1 :: rBig) rm mc ms n ∧ (Cond.static q.1).before args s = true) ∨ (va_CN Rm s args own idx q.1 "LeastAlone" q.2.1 q.2.2.1 q.2.2.2.1 (Cond.code q.1 q.2.1 q.2.2.1 q.2.2.2.1 :: rBig) rm mc ms n ∧ (Cond.static q.1).before args s = true))
    (hAs : As.length = n) (hd : decode bytes pc = .ok (.invokestatic idx, 3)) (hs : rstp (rM ro d) R (rinv MC MS f mc ms As L st h k z (pc + 3)) (rPr p l e Rm s m args below meth cd Q nL D cA base MC n0 ro ad0)) :
    rPr p l e Rm s m args below meth cd Q nL D cA base MC n0 ro ad0 (pc, L, As.reverse ++ st, h, k, z) := by
  obtain ⟨⟨hk, hz, hwd, hwf⟩, hc⟩ := rinv_spec hs
  intro ad H locs ls hw hx2 hl hn
  have hM := IH f mc ms As h _ ad q hq hc
  have hro := rroom X (mc := mc) (ms := ms) hq
  have hst : (As.reverse ++ st).map (rv ad) = (As.map (rv ad)).reverse ++ st.map (rv ad) := by rw [List.map_append, List.map_reverse]
  show W p l e Rm s m args below meth cd H locs k z Q (F0 m pc ls ((As.reverse ++ st).map (rv ad)))
  rw [hst]
  have hf : k + mc ≤ Rm.cells ∧ z + ms ≤ Rm.slots := ⟨Nat.le_trans hk X.2.2.2.2.2.2.2.2.2.2.1, Nat.le_trans hz X.2.2.2.2.2.2.2.2.2.2.2⟩
  rcases hcw (rRm d mc ms) rfl rfl hro.1 hro.2 with cw | cw
  · exact rk_go (va_runS (As := As.map (rv ad)) (rest := st.map (rv ad)) ⟨X.1, X.2.1, X.2.2.1, X.2.2.2.1, X.2.2.2.2.1⟩ hM cw ⟨rPc_blind, rPc_pre X hw⟩ rfl (by rw [List.length_map]; exact hAs) hl.1 rfl (lv_room (rwd_sum hwd ad)) hd hf) hw hx2 hl hn hwf hk
  · exact rk_go (va_runSN (As := As.map (rv ad)) (rest := st.map (rv ad)) ⟨X.1, X.2.1, X.2.2.1, X.2.2.2.1, X.2.2.2.2.1⟩ hM ⟨cw.1, cw.2, trivial⟩ ⟨rPc_blind, rPc_pre X hw⟩ rfl (by rw [List.length_map]; exact hAs) hl.1 rfl (lv_room (rwd_sum hwd ad)) hd hf) hw hx2 hl hn hwf hk
theorem rk_init (X : rCtx p Rm s m args meth cd own init bytes nL D cA base MC MS d) (IH : rMet l D cA base ro d) {idx f n r : Nat} {As : List Value} {q : rP} (hq : pgm[f]? = some q) (hrn : q.2.2.2.1 = none) (hcw : (rm : Room) → rm.cells = mc → rm.slots = ms → rm.frames + 1 ≤ Rm.frames → 8 + (q.2.2.1 + 11) + rm.locals ≤ Rm.locals → (CallB Rm s args own idx q.1 q.2.1 q.2.2.1 none (Cond.code q.1 q.2.1 q.2.2.1 none :: rBig) rm mc ms n ∧ q.1.name = "<init>" ∧ (Cond.instanceMethod q.1).before args s = true) ∨ (va_CN Rm s args own idx q.1 "LeastAlone" q.2.1 q.2.2.1 none (Cond.code q.1 q.2.1 q.2.2.1 none :: rBig) rm mc ms n ∧ q.1.name = "<init>" ∧ (Cond.instanceMethod q.1).before args s = true))
    (hAs : As.length = n) (hd : decode bytes pc = .ok (.invokespecial idx, 3)) (hs : rstp (rM ro d) R (rinv MC MS f mc ms (.ref r :: As) L st h k z (pc + 3)) (rPr p l e Rm s m args below meth cd Q nL D cA base MC n0 ro ad0)) :
    rPr p l e Rm s m args below meth cd Q nL D cA base MC n0 ro ad0 (pc, L, As.reverse ++ .ref r :: st, h, k, z) := by
  obtain ⟨⟨hk, hz, hwd, hwf⟩, hc⟩ := rinv_spec hs
  intro ad H locs ls hw hx2 hl hn
  have hM := IH f mc ms (.ref r :: As) h _ ad q hq hc
  rw [hrn] at hM
  have hro := rroom X (mc := mc) (ms := ms) hq
  have hst : (As.reverse ++ .ref r :: st).map (rv ad) = (As.map (rv ad)).reverse ++ .ref (ad r) :: st.map (rv ad) := by rw [List.map_append, List.map_reverse]; rfl
  show W p l e Rm s m args below meth cd H locs k z Q (F0 m pc ls ((As.reverse ++ .ref r :: st).map (rv ad)))
  rw [hst]
  have hf : k + mc ≤ Rm.cells ∧ z + ms ≤ Rm.slots := ⟨Nat.le_trans hk X.2.2.2.2.2.2.2.2.2.2.1, Nat.le_trans hz X.2.2.2.2.2.2.2.2.2.2.2⟩
  rcases hcw (rRm d mc ms) rfl rfl hro.1 hro.2 with cw | cw
  · exact rk_go (va_runI (As := As.map (rv ad)) (rest := st.map (rv ad)) ⟨X.1, X.2.1, X.2.2.1, X.2.2.2.1, X.2.2.2.2.1⟩ hM cw ⟨rPc_blind, rPc_pre X hw⟩ rfl (by rw [List.length_map]; exact hAs) hl.1 rfl (lv_room (rwd_sum hwd ad)) hd hf) hw hx2 hl hn hwf hk
  · exact rk_go (va_runIN (As := As.map (rv ad)) (rest := st.map (rv ad)) ⟨X.1, X.2.1, X.2.2.1, X.2.2.2.1, X.2.2.2.2.1⟩ hM cw ⟨rPc_blind, rPc_pre X hw⟩ rfl (by rw [List.length_map]; exact hAs) hl.1 rfl (lv_room (rwd_sum hwd ad)) hd hf) hw hx2 hl hn hwf hk
theorem rk_virt (X : rCtx p Rm s m args meth cd own init bytes nL D cA base MC MS d) (IH : rMet l D cA base ro d) {idx f n r ci : Nat} {C : String} {T : u_T} {N : Nat} {fs As : List Value} {q : rP} (hq : pgm[f]? = some q) (hr : h[r]? = some (.inr (ci, fs))) (hC : rCl[ci]? = some (C, T, N)) (hcw : (rm : Room) → rm.cells = mc → rm.slots = ms → rm.frames + 1 ≤ Rm.frames → 8 + (q.2.2.1 + 11) + rm.locals ≤ Rm.locals → CallW Rm s args own C idx q.1 q.2.1 q.2.2.1 q.2.2.2.1 (Cond.code q.1 q.2.1 q.2.2.1 q.2.2.2.1 :: rBig) rm mc ms n ∨ (va_CN Rm s args own idx q.1 "LeastAlone" q.2.1 q.2.2.1 q.2.2.2.1 (Cond.code q.1 q.2.1 q.2.2.1 q.2.2.2.1 :: rBig) rm mc ms n ∧ (Cond.instanceMethod q.1).before args s = true ∧ (Cond.selects C q.1 q.1).before args s = true) ∨ ∃ (owner : String) (x : MethodName), va_CU Rm s args own C owner idx x q.1 q.2.1 q.2.2.1 q.2.2.2.1 (Cond.code q.1 q.2.1 q.2.2.1 q.2.2.2.1 :: rBig) rm mc ms n)
    (hAs : As.length = n) (hd : decode bytes pc = .ok (.invokevirtual idx, 3)) (hs : rstp (rM ro d) R (rinv MC MS f mc ms (.ref r :: As) L st h k z (pc + 3)) (rPr p l e Rm s m args below meth cd Q nL D cA base MC n0 ro ad0)) :
    rPr p l e Rm s m args below meth cd Q nL D cA base MC n0 ro ad0 (pc, L, As.reverse ++ .ref r :: st, h, k, z) := by
  obtain ⟨⟨hk, hz, hwd, hwf⟩, hc⟩ := rinv_spec hs
  intro ad H locs ls hw hx2 hl hn
  have hM := IH f mc ms (.ref r :: As) h _ ad q hq hc
  have hro := rroom X (mc := mc) (ms := ms) hq
  have hst : (As.reverse ++ .ref r :: st).map (rv ad) = (As.map (rv ad)).reverse ++ .ref (ad r) :: st.map (rv ad) := by rw [List.map_append, List.map_reverse]; rfl
  show W p l e Rm s m args below meth cd H locs k z Q (F0 m pc ls ((As.reverse ++ .ref r :: st).map (rv ad)))
  rw [hst]
  have hf : k + mc ≤ Rm.cells ∧ z + ms ≤ Rm.slots := ⟨Nat.le_trans hk X.2.2.2.2.2.2.2.2.2.2.1, Nat.le_trans hz X.2.2.2.2.2.2.2.2.2.2.2⟩
  have he := rws_get (ad := ad) (cA := cA) hr
  rw [rce_obj (rCl_lt hC)] at he
  have hrecv := va_recv X.2.2.2.2.2.2.1 hw.1 hC he
  rcases hcw (rRm d mc ms) rfl rfl hro.1 hro.2 with cw | cw | ⟨owner, x, cw⟩
  · exact rk_go (va_runV (As := As.map (rv ad)) (rest := st.map (rv ad)) ⟨X.1, X.2.1, X.2.2.1, X.2.2.2.1, X.2.2.2.2.1⟩ hM cw ⟨rPc_blind, hrecv, rPc_pre X hw⟩ rfl (by rw [List.length_map]; exact hAs) hl.1 rfl (lv_room (rwd_sum hwd ad)) hd hf) hw hx2 hl hn hwf hk
  · exact rk_go (va_runVN (As := As.map (rv ad)) (rest := st.map (rv ad)) ⟨X.1, X.2.1, X.2.2.1, X.2.2.2.1, X.2.2.2.2.1⟩ hM cw ⟨rPc_blind, hrecv, rPc_pre X hw⟩ rfl (by rw [List.length_map]; exact hAs) hl.1 rfl (lv_room (rwd_sum hwd ad)) hd hf) hw hx2 hl hn hwf hk
  · exact rk_go (va_runU (As := As.map (rv ad)) (rest := st.map (rv ad)) ⟨X.1, X.2.1, X.2.2.1, X.2.2.2.1, X.2.2.2.2.1⟩ hM cw ⟨rPc_blind, hrecv, rPc_pre X hw⟩ rfl (by rw [List.length_map]; exact hAs) hl.1 rfl (lv_room (rwd_sum hwd ad)) hd hf) hw hx2 hl hn hwf hk
/-- a new cell -/
theorem rk_mk {N : Nat} {ee : rE} (X : rCtx p Rm s m args meth cd own init bytes nL D cA base MC MS d) {st0 : List Value} {call : rCall} (hs : rstp call R (rmk MC MS L st h k z pc' N ee) (rPr p l e Rm s m args below meth cd Q nL D cA base MC n0 ro ad0))
    (row : ∀ (ad : Nat → Nat) (H : Heap) (locs : List Loc) (ls : Array Slot), rwld D cA base ro s H locs ad h → k + 1 ≤ Rm.cells → z + N ≤ Rm.slots → (∀ (q : Nat) (H1 : Heap), va_P D rCl (rws ad cA h ++ [(q, rce (fun j => if j = h.length then q else ad j) cA ee)]) H1 → va_D (rAA base) (rws ad cA h ++ [(q, rce (fun j => if j = h.length then q else ad j) cA ee)]) → va_S (rAA base) s.heap H1 locs → W p l e Rm s m args below meth cd H1 locs (k + 1) (z + N) Q (F0 m pc' ls (.ref q :: st.map (rv ad)))) → W p l e Rm s m args below meth cd H locs k z Q (F0 m pc ls (st0.map (rv ad)))) :
    rPr p l e Rm s m args below meth cd Q nL D cA base MC n0 ro ad0 (pc, L, st0, h, k, z) := by
  unfold rmk at hs
  cases hb : Nat.ble (k + 1) MC && Nat.ble (z + N) MS && Nat.ble h.length 900000 && rwfv h.length L && rwfv h.length st && h.all (rwfE h.length)
  · rw [hb] at hs; exact False.elim hs
  · rw [hb] at hs
    simp only [Bool.and_eq_true] at hb
    obtain ⟨⟨⟨⟨⟨b1, b2⟩, b3⟩, b4⟩, b5⟩, b6⟩ := hb
    have hk := Nat.le_of_ble_eq_true b1
    have hz := Nat.le_of_ble_eq_true b2
    have hlen := Nat.le_of_ble_eq_true b3
    intro ad H locs ls hw hx2 hl hn
    refine row ad H locs ls hw (Nat.le_trans hk X.2.2.2.2.2.2.2.2.2.2.1) (Nat.le_trans hz X.2.2.2.2.2.2.2.2.2.2.2) (fun q H1 hP hD hS => ?_)
    have he : ∀ j, j < h.length ∨ 1000000 ≤ j → (fun j => if j = h.length then q else ad j) j = ad j := by
      intro j hj
      show (if j = h.length then q else ad j) = ad j
      rw [if_neg (by omega)]
    have hpush := rws_push (ad := ad) (cA := cA) (q := q) (e := ee) b6 (by omega)
    have key := hs (fun j => if j = h.length then q else ad j) H1 locs ls ⟨by rw [show ((pc', L, .ref h.length :: st, h ++ [ee], k + 1, z + N) : rK).2.2.2.1 = h ++ [ee] from rfl, hpush]; exact hP, by rw [show ((pc', L, .ref h.length :: st, h ++ [ee], k + 1, z + N) : rK).2.2.2.1 = h ++ [ee] from rfl, hpush]; exact hD, hS, rSt_ext (fun j hj => he j (Or.inr hj)) hw.2.2.2⟩
      ⟨fun h0 => by omega, fun j hj => (he j (hj.elim (fun q => Or.inl (Nat.lt_of_lt_of_le q hx2.2.2)) Or.inr)).trans (hx2.2.1 j hj), by show n0 ≤ (h ++ [ee]).length; rw [List.length_append]; exact Nat.le_trans hx2.2.2 (Nat.le_add_right _ _)⟩ (by rw [show ((pc', L, .ref h.length :: st, h ++ [ee], k + 1, z + N) : rK).2.1 = L from rfl, (rv_ext he b4).2]; exact hl) hn
    have e1 : (Value.ref h.length :: st).map (rv (fun j => if j = h.length then q else ad j)) = .ref q :: st.map (rv ad) := by
      rw [List.map_cons, (rv_ext he b5).1]
      show Value.ref (if h.length = h.length then q else ad h.length) :: _ = _
      rw [if_pos rfl]
    have key2 : W p l e Rm s m args below meth cd H1 locs (k + 1) (z + N) Q (F0 m pc' ls ((Value.ref h.length :: st).map (rv (fun j => if j = h.length then q else ad j)))) := key
    rw [e1] at key2
    exact key2
theorem rk_newc (X : rCtx p Rm s m args meth cd own init bytes nL D cA base MC MS d) {call : rCall} {idx ci : Nat} {C : String} {T : u_T} {N : Nat} (hc : rCl[ci]? = some (C, T, N)) (h1 : Cond.classLink own idx C ∈ rBig) (h2 : Cond.instantiable C N ∈ rBig) (h3 : Cond.initialized C ∈ rBig) (hd : decode bytes pc = .ok (.new idx, 3)) (hs : rstp call R (rnewc MC MS L st h k z (pc + 3) [ci]) (rPr p l e Rm s m args below meth cd Q nL D cA base MC n0 ro ad0)) :
    rPr p l e Rm s m args below meth cd Q nL D cA base MC n0 ro ad0 (pc, L, st, h, k, z) := by
  have hts := X.2.2.2.2.1
  have hnew := rnew_ok hc
  refine rk_mk X hs (fun ad H locs ls hw hk hz kk => ?_)
  rw [hnew.1] at hz kk
  refine va_new X.1 X.2.1 hts (rCl_in hc) (rtyf ci) (rtyf_ok hc) X.2.2.2.1 (hts _ h1) (hts _ h2) (hts _ h3) X.2.2.2.2.2.2.1 hw.1 hw.2.1 hw.2.2.1 (fun q hq => Nat.le_trans X.2.2.2.2.2.2.2.1 hq) hc (fs := (rnew ci).map (rv ad)) (hnew.2 ad) hk hz hd (fun q H1 hP hD hS => ?_)
  have e1 : rce (fun j => if j = h.length then q else ad j) cA (.inr (ci, rnew ci)) = .inr (ci, (rnew ci).map (rv ad)) := by
    rw [rce_obj (rCl_lt hc)]
    congr 2
    have h10 : ci < 10 := (List.getElem?_eq_some_iff.mp hc).1
    rcases (show ci = 0 ∨ ci = 1 ∨ ci = 2 ∨ ci = 3 ∨ ci = 4 ∨ ci = 5 ∨ ci = 6 ∨ ci = 7 ∨ ci = 8 ∨ ci = 9 by omega) with rfl | rfl | rfl | rfl | rfl | rfl | rfl | rfl | rfl | rfl <;> rfl
  exact kk q H1 (by rw [e1]; exact hP) (by rw [e1]; exact hD) hS
theorem rcA_eq (X : rCtx p Rm s m args meth cd own init bytes nL D cA base MC MS d) {c1 : ClassId} {ty : FieldType} {t : Nat} (ht : (rtys cA)[t]? = some (cA t, ty)) (hp : ∀ C, ty ≠ .object C) (hK : va_K D rCl (rtys cA ++ [(c1, ty)]) s) : c1 = cA t := by
  have h1 := (X.2.2.2.2.2.2.1.2 t _ ht).2
  have h2 := (hK.2 (rtys cA).length (c1, ty) (by simp)).2
  cases ty with
  | object C => exact absurd rfl (hp C)
  | _ =>
    unfold va_RA at h1 h2
    simp only at h1 h2
    exact Option.some.inj (h2.symm.trans h1)
theorem rk_newa (X : rCtx p Rm s m args meth cd own init bytes nL D cA base MC MS d) {call : rCall} {aty : ArrayType} {aux : List Nat} (h1 : Cond.arrayClass (newarray.typeOf aty) ∈ rBig) (hd : decode bytes pc = .ok (.newarray aty, 2)) (hs : rstp call R (rnewa MC MS aty L st h k z (pc + 2) aux) (rPr p l e Rm s m args below meth cd Q nL D cA base MC n0 ro ad0)) :
    rPr p l e Rm s m args below meth cd Q nL D cA base MC n0 ro ad0 (pc, L, st, h, k, z) := by
  have hts := X.2.2.2.2.1
  unfold rnewa at hs
  split at hs
  · rename_i n st N
    cases hb : decide (n = nI N) && Nat.ble N 1000000
    · rw [hb] at hs; exact False.elim hs
    · rw [hb] at hs
      simp only [Bool.and_eq_true, decide_eq_true_eq] at hb
      obtain ⟨rfl, hN⟩ := hb
      have hN := Nat.le_of_ble_eq_true hN
      simp only [cond_true] at hs
      have hA : ∀ q, s.heap.size ≤ q → rAA base q := fun q hq => Nat.le_trans X.2.2.2.2.2.2.2.1 hq
      split at hs
      · refine rk_mk X hs (fun ad H locs ls hw hk hz kk => ?_)
        refine va_newa X.1 X.2.1 (hts _ h1) rfl X.2.2.2.2.2.2.1 hw.1 hw.2.1 hw.2.2.1 hA (a0 := (N, .inl (fun _ => 0))) (fun _ => rfl) (nI_pos (by omega)) (nI_clamp (by omega)) (by show N * 4 ≤ _; omega) hk hz hd (fun q c1 H1 hK hP hD hS => ?_)
        cases rcA_eq X (t := 0) rfl (fun _ => by simp [newarray.typeOf]) hK
        exact kk q H1 hP hD hS
      · refine rk_mk X hs (fun ad H locs ls hw hk hz kk => ?_)
        refine va_newa X.1 X.2.1 (hts _ h1) rfl X.2.2.2.2.2.2.1 hw.1 hw.2.1 hw.2.2.1 hA (a0 := (N, .inr (.inl (fun _ => 0)))) (fun _ => rfl) (nI_pos (by omega)) (nI_clamp (by omega)) (by show N * 8 ≤ _; omega) hk hz hd (fun q c1 H1 hK hP hD hS => ?_)
        cases rcA_eq X (t := 1) rfl (fun _ => by simp [newarray.typeOf]) hK
        exact kk q H1 hP hD hS
      · refine rk_mk X hs (fun ad H locs ls hw hk hz kk => ?_)
        refine va_newa X.1 X.2.1 (hts _ h1) rfl X.2.2.2.2.2.2.1 hw.1 hw.2.1 hw.2.2.1 hA (a0 := (N, .inl (fun _ => 0))) (fun _ => rfl) (nI_pos (by omega)) (nI_clamp (by omega)) (by show N * 1 ≤ _; omega) hk hz hd (fun q c1 H1 hK hP hD hS => ?_)
        cases rcA_eq X (t := 2) rfl (fun _ => by simp [newarray.typeOf]) hK
        exact kk q H1 hP hD hS
      · refine rk_mk X hs (fun ad H locs ls hw hk hz kk => ?_)
        refine va_newa X.1 X.2.1 (hts _ h1) rfl X.2.2.2.2.2.2.1 hw.1 hw.2.1 hw.2.2.1 hA (a0 := (N, .inl (fun _ => 0))) (fun _ => rfl) (nI_pos (by omega)) (nI_clamp (by omega)) (by show N * 1 ≤ _; omega) hk hz hd (fun q c1 H1 hK hP hD hS => ?_)
        cases rcA_eq X (t := 3) rfl (fun _ => by simp [newarray.typeOf]) hK
        exact kk q H1 hP hD hS
      · exact False.elim hs
  · exact False.elim hs
theorem rk_newq (X : rCtx p Rm s m args meth cd own init bytes nL D cA base MC MS d) {call : rCall} {idx : Nat} {aux : List Nat} (h1 : Cond.classLink own idx "LeastAlone$Table" ∈ rBig) (hd : decode bytes pc = .ok (.anewarray idx, 3)) (hs : rstp call R (rnewq MC MS L st h k z (pc + 3) aux) (rPr p l e Rm s m args below meth cd Q nL D cA base MC n0 ro ad0)) :
    rPr p l e Rm s m args below meth cd Q nL D cA base MC n0 ro ad0 (pc, L, st, h, k, z) := by
  have hts := X.2.2.2.2.1
  unfold rnewq at hs
  split at hs
  · rename_i n st N
    cases hb : decide (n = nI N) && Nat.ble N 1000000
    · rw [hb] at hs; exact False.elim hs
    · rw [hb] at hs
      simp only [Bool.and_eq_true, decide_eq_true_eq] at hb
      obtain ⟨rfl, hN⟩ := hb
      have hN := Nat.le_of_ble_eq_true hN
      simp only [cond_true] at hs
      have hA : ∀ q, s.heap.size ≤ q → rAA base q := fun q hq => Nat.le_trans X.2.2.2.2.2.2.2.1 hq
      refine rk_mk X hs (fun ad H locs ls hw hk hz kk => ?_)
      refine va_newq X.1 X.2.1 X.2.2.2.1 (hts _ h1) hw.2.2.2.2.1 X.2.2.2.2.2.2.1 hw.1 hw.2.1 hw.2.2.1 hA (nI_pos (by omega)) (nI_clamp (by omega)) (by omega) hk hz hd (fun q c1 H1 hK hP hD hS => ?_)
      have hc1 : c1 = cA 4 := by
        have g1 := (X.2.2.2.2.2.2.1.2 4 _ rfl).2
        have g2 := (hK.2 (rtys cA).length (c1, FieldType.object "LeastAlone$Table") (by simp)).2
        obtain ⟨_, _, _, _, _, e1⟩ := g1
        obtain ⟨_, _, _, _, _, e2⟩ := g2
        exact Option.some.inj (e2.symm.trans e1)
      subst hc1
      have e1 : rce (fun j => if j = h.length then q else ad j) cA (.inr (100, List.replicate N .null)) = .inl (cA 4, N, .inr (.inr (.inr (.inr (fun _ => none))))) := by
        show (Sum.inl (cA 4, (List.replicate N Value.null).length, .inr (.inr (.inr (.inr (rqf _ (List.replicate N Value.null)))))) : va_E) = _
        rw [List.length_replicate]
        congr 7
        funext j
        unfold rqf
        rw [List.getElem?_replicate]
        by_cases hj : j < N <;> simp [hj]
      exact kk q H1 (by rw [e1]; exact hP) (by rw [e1]; exact hD) hS
  · exact False.elim hs
theorem rk_astA (X : rCtx p Rm s m args meth cd own init bytes nL D cA base MC MS d) {call : rCall} (hd : decode bytes pc = .ok (.aastore, 1)) (hs : rstp call R (rastA L st h k z (pc + 1)) (rPr p l e Rm s m args below meth cd Q nL D cA base MC n0 ro ad0)) :
    rPr p l e Rm s m args below meth cd Q nL D cA base MC n0 ro ad0 (pc, L, st, h, k, z) := by
  unfold rastA at hs
  split at hs
  · rename_i v i r st
    split at hs
    · rename_i fs fv hr hv
      intro ad H locs ls hw hx2 hl hn
      have hlt : i.toNatClampNeg < fs.length := by
        have h1 : ¬ (i < 0 ∨ fs.length ≤ i.toNatClampNeg) := hs.1
        exact Nat.not_le.mp fun q => h1 (Or.inr q)
      have he := rws_get (ad := ad) (cA := cA) hv
      rw [rce_obj (by decide)] at he
      refine va_astq X.1 X.2.1 X.2.2.2.2.2.2.1 hw.1 hw.2.1 hw.2.2.1 r 4 v 6 (r := (RX6, TX6, 9)) (rws_get hr) rfl he rfl hs.1 hd (fun H1 locs1 hP hD hS => ?_)
      have e1 : rce ad cA (.inr (100, fs.set i.toNatClampNeg (.ref v))) = .inl (cA 4, fs.length, .inr (.inr (.inr (.inr (va_up (rqf ad fs) i.toNatClampNeg (some (ad v))))))) := by
        show (Sum.inl (cA 4, (fs.set i.toNatClampNeg (.ref v)).length, .inr (.inr (.inr (.inr (rqf ad (fs.set i.toNatClampNeg (.ref v))))))) : va_E) = _
        rw [List.length_set]
        congr 7
        funext j
        unfold rqf va_up
        by_cases hj : j = i.toNatClampNeg
        · subst hj
          rw [List.getElem?_set_self hlt, if_pos rfl]
        · rw [List.getElem?_set_ne (fun q => hj q.symm), if_neg hj]
      exact hs.2 ad H1 locs1 ls (rw_put hw (by rw [e1]; exact hP) (by rw [e1]; exact hD) hS) (rx_put hx2) hl hn
    · exact False.elim hs
  · exact False.elim hs
theorem rk_copy (X : rCtx p Rm s m args meth cd own init bytes nL D cA base MC MS d) {call : rCall} {idx : Nat} (h1 : Cond.methodLink own idx arraycopyName ∈ rBig) (h2 : Cond.native arraycopyName ∈ rBig) (h3 : Cond.static arraycopyName ∈ rBig) (h4 : Cond.initialized "java/lang/System" ∈ rBig) (hd : decode bytes pc = .ok (.invokestatic idx, 3)) (hs : rstp call R (rcopy L st h k z (pc + 3)) (rPr p l e Rm s m args below meth cd Q nL D cA base MC n0 ro ad0)) :
    rPr p l e Rm s m args below meth cd Q nL D cA base MC n0 ro ad0 (pc, L, st, h, k, z) := by
  have hts := X.2.2.2.2.1
  unfold rcopy at hs
  split at hs
  · rename_i n dp a sp b st
    split at hs
    · rename_i n0 f n1 g hb ha
      cases hwd : rwd st
      · rw [hwd] at hs; exact False.elim hs
      · rw [hwd] at hs
        obtain ⟨⟨g1, g2, g3, g4, g5⟩, hs⟩ := hs
        intro ad H locs ls hw hx2 hl hn
        exact va_copyi X.1 X.2.1 (by rw [X.2.2.1, hl.1]) X.2.2.2.1 (hts _ h1) (hts _ h2) (hts _ h3) (hts _ h4) X.2.2.2.2.2.2.1 hw.1 hw.2.1 hw.2.2.1 b a 0 0 (rws_get hb) (rws_get ha) rfl rfl rfl g1 g2 g3 g4 g5 (fun _ _ => rfl) (by have := X.2.2.2.2.2.2.2.2.1; omega) (by
          have e1 := rwd_sum hwd ad
          have e2 : nativeFrameWords "java/lang/System" "arraycopy" 5 ≤ 40 := by decide +kernel
          have e3 := X.2.2.2.2.2.2.2.2.2.1
          omega) hd (fun H1 locs1 hP hD hS => hs ad H1 locs1 ls (rw_put hw hP hD hS) (rx_put hx2) hl hn)
    · exact False.elim hs
  · exact False.elim hs
end RE
end
section
/-! ===== every instruction, every method ===== -/
theorem rUB_spec {own : String} {idx n : Nat} {x : MethodName} : ∀ {ps pos : List Nat}, rUB own idx n x ps pos = true → ∀ {ci f : Nat}, rlook ps ci = some f → ∃ (C : String) (T : u_T) (N : Nat) (q : rP), rCl[ci]? = some (C, T, N) ∧ pgm[f]? = some q ∧ Cond.selects C x q.1 ∈ rBig ∧ Cond.instanceMethod q.1 ∈ rBig ∧ Cond.initialized q.1.cls ∈ rBig
  | [], _, _, ci, f, hl => by cases hl
  | [_], _, _, ci, f, hl => by cases hl
  | a :: b :: ps, [], h, _, _, _ => by cases h
  | a :: b :: ps, [_], h, _, _, _ => by cases h
  | a :: b :: ps, [_, _], h, _, _, _ => by cases h
  | a :: b :: ps, p1 :: p2 :: p3 :: pos, h, ci, f, hl => by
    rw [rUB] at h
    simp only [Bool.and_eq_true] at h
    rw [rlook] at hl
    cases hb : Nat.beq a ci
    · rw [hb] at hl
      exact rUB_spec (ps := ps) (pos := pos) h.2 hl
    · rw [hb] at hl
      have e1 := Nat.eq_of_beq_eq_true hb
      cases hl
      subst e1
      have h1 := h.1
      split at h1
      · rename_i C T N hC
        obtain ⟨q, hq, hg⟩ := ry_spec h1
        simp only [Bool.and_eq_true] at hg
        exact ⟨C, T, N, q, hC, hq, rwordB_mem hg.1.1, rwordB_mem hg.1.2, rwordB_mem hg.2⟩
      · cases h1
section RF
variable {p : Program} {l : Launch} {e : Env} {Rm : Room} {s : State} {m : MethodId} {args : Array Value} {below : List Frame} {meth : Method} {cd : Code} {Q : State → Prop}
variable {own : String} {init : Bool} {bytes : ByteArray} {nL : Nat} {D : va_G} {cA : Nat → ClassId} {base MC MS d n0 : Nat} {ro : rQ} {ad0 : Nat → Nat}
variable {R : rR} {pc pc' k z mc ms : Nat} {L st : List Value} {h : rH}
theorem rk_istat (X : rCtx p Rm s m args meth cd own init bytes nL D cA base MC MS d) (IH : rMet l D cA base ro d) {idx : Nat} {aux pos : List Nat} (hck : (match aux, pos with
      | [2], [p1, p2, p3, p4] => rwordB p1 (.methodLink own idx arraycopyName) && rwordB p2 (.native arraycopyName) && rwordB p3 (.static arraycopyName) && rwordB p4 (.initialized "java/lang/System")
      | [0, f, n, _, _], [p1, p2, p3] => ryB f (fun y => rwordB p1 (.methodLink own idx y) && rwordB p2 (.static y) && rwordB p3 (.initialized y.cls) && rnotMH y.cls && rparB y.desc n)
      | [1, f, n, _, _], [p1, p2, p3] => ryB f (fun y => rnestB p1 (.methodLinkNest own idx y "LeastAlone") && rwordB p2 (.static y) && rwordB p3 (.initialized y.cls) && rnotMH y.cls && rparB y.desc n)
      | _, _ => false) = true) (hnst : ∀ w ∈ rNst, va_Nw w s) (hd : decode bytes pc = .ok (.invokestatic idx, 3)) (hs : rstp (rM ro d) R (rstat MC MS aux L st h k z (pc + 3)) (rPr p l e Rm s m args below meth cd Q nL D cA base MC n0 ro ad0)) :
    rPr p l e Rm s m args below meth cd Q nL D cA base MC n0 ro ad0 (pc, L, st, h, k, z) := by
  have hts := X.2.2.2.2.1
  split at hck
  · simp only [Bool.and_eq_true] at hck
    exact rk_copy X (rwordB_mem hck.1.1.1) (rwordB_mem hck.1.1.2) (rwordB_mem hck.1.2) (rwordB_mem hck.2) hd hs
  · rename_i f n mc ms p1 p2 p3
    obtain ⟨q, hq, hg⟩ := ry_spec hck
    simp only [Bool.and_eq_true] at hg
    obtain ⟨⟨⟨⟨g1, g2⟩, g3⟩, g4⟩, g5⟩ := hg
    unfold rstat at hs
    simp only at hs
    split at hs
    · rename_i As st' hpop
      obtain ⟨Bs, hA, hlen, rfl⟩ := rpop_spec hpop
      rw [List.append_nil] at hA
      subst hA
      refine rk_stat X IH hq (fun rm r1 r2 r3 r4 => Or.inl (va_cwS n hts (rBig_in ?_) rfl r1 r2 ⟨(rnot_spec g4).1, (rnot_spec g4).2, rpar_spec g5⟩ ⟨r3, r4⟩)) hlen hd hs
      intro w hw
      rcases List.mem_append.mp hw with h1 | h1
      · simp only [List.mem_cons, List.not_mem_nil, or_false] at h1
        rcases h1 with rfl | rfl | rfl
        · exact rwordB_mem g1
        · exact rwordB_mem g2
        · exact rwordB_mem g3
      · exact rwords X hq w h1
    · exact False.elim hs
  · rename_i f n mc ms p1 p2 p3
    obtain ⟨q, hq, hg⟩ := ry_spec hck
    simp only [Bool.and_eq_true] at hg
    obtain ⟨⟨⟨⟨g1, g2⟩, g3⟩, g4⟩, g5⟩ := hg
    unfold rstat at hs
    simp only at hs
    split at hs
    · rename_i As st' hpop
      obtain ⟨Bs, hA, hlen, rfl⟩ := rpop_spec hpop
      rw [List.append_nil] at hA
      subst hA
      exact rk_stat X IH hq (fun rm r1 r2 r3 r4 => Or.inr ⟨va_cnB n hts (rBig_in (rwords X hq)) rfl r1 r2 (hnst _ (rnestB_mem g1)) (hts _ (rwordB_mem g3)) ⟨(rnot_spec g4).1, (rnot_spec g4).2, rpar_spec g5⟩ ⟨r3, r4⟩, hts _ (rwordB_mem g2)⟩) hlen hd hs
    · exact False.elim hs
  · cases hck
theorem rk_ispec (X : rCtx p Rm s m args meth cd own init bytes nL D cA base MC MS d) (IH : rMet l D cA base ro d) {idx : Nat} {aux pos : List Nat} (hck : (match aux, pos with
      | [0], [p1, p2, p3] => rwordB p1 (.methodLink own idx Lib.objectInit) && rwordB p2 (.instanceMethod Lib.objectInit) && rwordB p3 (.code Lib.objectInit ⟨#[0xb1]⟩ 1 none)
      | [1, f, n, _, _], [p1, p2, p3] => ryB f (fun y => rwordB p1 (.methodLink own idx y) && rwordB p2 (.instanceMethod y) && rwordB p3 (.initialized y.cls) && rnotMH y.cls && rparB y.desc n && decide (y.name = "<init>"))
      | [2, f, n, _, _], [p1, p2, p3] => ryB f (fun y => rnestB p1 (.methodLinkNest own idx y "LeastAlone") && rwordB p2 (.instanceMethod y) && rwordB p3 (.initialized y.cls) && rnotMH y.cls && rparB y.desc n && decide (y.name = "<init>"))
      | _, _ => false) = true) (hnst : ∀ w ∈ rNst, va_Nw w s) (hvoid : ∀ (f : Nat) (q : rP), pgm[f]? = some q → q.1.name = "<init>" → q.2.2.2.1 = none) (hd : decode bytes pc = .ok (.invokespecial idx, 3)) (hs : rstp (rM ro d) R (rspec MC MS aux L st h k z (pc + 3)) (rPr p l e Rm s m args below meth cd Q nL D cA base MC n0 ro ad0)) :
    rPr p l e Rm s m args below meth cd Q nL D cA base MC n0 ro ad0 (pc, L, st, h, k, z) := by
  have hts := X.2.2.2.2.1
  split at hck
  · simp only [Bool.and_eq_true] at hck
    unfold rspec at hs
    simp only at hs
    split at hs
    · rename_i r st'
      cases hwd : rwd st'
      · rw [hwd] at hs; exact False.elim hs
      · rw [hwd] at hs
        intro ad H locs ls hw hx2 hl hn
        exact W.objInit X.1 X.2.1 X.2.2.2.1 (hts _ (rwordB_mem hck.1.1)) (hts _ (rwordB_mem hck.1.2)) (hts _ (rwordB_mem hck.2)) rfl (by rw [X.2.2.1]; exact hl.1) rfl hd (by have := X.2.2.2.2.2.2.2.2.1; omega) (by
          have e1 : 2 * (F0 m pc ls ((.ref r :: st').map (rv ad))).monitorRoom + ((st'.map (rv ad)).map fun v => v.category).sum ≤ 8 := lv_room (rwd_sum hwd ad)
          have e3 := X.2.2.2.2.2.2.2.2.2.1
          have e4 : 2 * (F0 m pc ls ((.ref r :: st').map (rv ad))).monitorRoom + ((st'.map (rv ad)).map fun v => v.category).sum + 12 ≤ Rm.locals := by omega
          exact e4) (hs ad H locs ls hw hx2 hl hn)
    · exact False.elim hs
  · rename_i f n mc ms p1 p2 p3
    obtain ⟨q, hq, hg⟩ := ry_spec hck
    simp only [Bool.and_eq_true, decide_eq_true_eq] at hg
    obtain ⟨⟨⟨⟨⟨g1, g2⟩, g3⟩, g4⟩, g5⟩, g6⟩ := hg
    have hr := hvoid f q hq g6
    unfold rspec at hs
    simp only at hs
    split at hs
    · rename_i As r st' hpop
      obtain ⟨Bs, hA, hlen, rfl⟩ := rpop_spec hpop
      rw [List.append_nil] at hA
      subst hA
      exact rk_init X IH hq hr (fun rm r1 r2 r3 r4 => Or.inl (cwI n hts (rBig_in (by have := rwords X hq; rw [hr] at this; exact this)) rfl r1 r2 (hts _ (rwordB_mem g3)) (hts _ (rwordB_mem g1)) (hts _ (rwordB_mem g2)) g6 ⟨(rnot_spec g4).1, (rnot_spec g4).2, rpar_spec g5⟩ ⟨r3, r4⟩)) hlen hd hs
    · exact False.elim hs
  · rename_i f n mc ms p1 p2 p3
    obtain ⟨q, hq, hg⟩ := ry_spec hck
    simp only [Bool.and_eq_true, decide_eq_true_eq] at hg
    obtain ⟨⟨⟨⟨⟨g1, g2⟩, g3⟩, g4⟩, g5⟩, g6⟩ := hg
    have hr := hvoid f q hq g6
    unfold rspec at hs
    simp only at hs
    split at hs
    · rename_i As r st' hpop
      obtain ⟨Bs, hA, hlen, rfl⟩ := rpop_spec hpop
      rw [List.append_nil] at hA
      subst hA
      exact rk_init X IH hq hr (fun rm r1 r2 r3 r4 => Or.inr ⟨va_cnB n hts (rBig_in (by have := rwords X hq; rw [hr] at this; exact this)) rfl r1 r2 (hnst _ (rnestB_mem g1)) (hts _ (rwordB_mem g3)) ⟨(rnot_spec g4).1, (rnot_spec g4).2, rpar_spec g5⟩ ⟨r3, r4⟩, g6, hts _ (rwordB_mem g2)⟩) hlen hd hs
    · exact False.elim hs
  · cases hck
theorem rk_ivirt (X : rCtx p Rm s m args meth cd own init bytes nL D cA base MC MS d) (IH : rMet l D cA base ro d) {idx : Nat} {aux pos : List Nat} (hck : (match aux, pos with
      | [0, n, ci, f], [p1, p2, p3, p4] => ryB f (fun y => rwordB p1 (.methodLink own idx y) && rwordB p2 (.instanceMethod y) && rwordB p3 (.selects y.cls y y) && rwordB p4 (.initialized y.cls) && rnotMH y.cls && rparB y.desc n && (match rCl[ci]? with
        | some (C, _, _) => decide (C = y.cls)
        | none => false))
      | [1, n, ci, f], [p1, p2, p3, p4] => ryB f (fun y => rnestB p1 (.methodLinkNest own idx y "LeastAlone") && rwordB p2 (.instanceMethod y) && rwordB p3 (.selects y.cls y y) && rwordB p4 (.initialized y.cls) && rnotMH y.cls && rparB y.desc n && (match rCl[ci]? with
        | some (C, _, _) => decide (C = y.cls)
        | none => false))
      | 2 :: n :: ps, p1 :: p2 :: p3 :: pos => (match lw_tbl[p1]? with
        | some (.methodLink _ _ q) => rwordB p1 (.methodLink own idx q) && rwordB p2 (.sameMethod q.cls "LeastAlone$Tally" q.name q.desc) && rnestB p3 (.declares ⟨"LeastAlone$Tally", q.name, q.desc⟩) && rparB q.desc n && rUB own idx n q ps pos
        | _ => false)
      | _, _ => false) = true) (hnst : ∀ w ∈ rNst, va_Nw w s) (hd : decode bytes pc = .ok (.invokevirtual idx, 3)) (hs : rstp (rM ro d) R (rvirt MC MS aux L st h k z (pc + 3)) (rPr p l e Rm s m args below meth cd Q nL D cA base MC n0 ro ad0)) :
    rPr p l e Rm s m args below meth cd Q nL D cA base MC n0 ro ad0 (pc, L, st, h, k, z) := by
  have hts := X.2.2.2.2.1
  have look1 : ∀ {ci f ci' f' : Nat}, rlook [ci, f] ci' = some f' → ci' = ci ∧ f' = f := by
    intro ci f ci' f' hl
    rw [rlook] at hl
    cases hb : Nat.beq ci ci'
    · rw [hb] at hl; cases hl
    · rw [hb] at hl
      cases hl
      exact ⟨(Nat.eq_of_beq_eq_true hb).symm, rfl⟩
  split at hck
  · rename_i n ci f p1 p2 p3 p4
    obtain ⟨q, hq, hg⟩ := ry_spec hck
    simp only [Bool.and_eq_true] at hg
    obtain ⟨⟨⟨⟨⟨⟨g1, g2⟩, g3⟩, g3b⟩, g4⟩, g5⟩, g6⟩ := hg
    unfold rvirt at hs
    simp only at hs
    split at hs
    · rename_i As r st' hpop
      obtain ⟨Bs, hA, hlen, rfl⟩ := rpop_spec hpop
      rw [List.append_nil] at hA
      subst hA
      split at hs
      · rename_i ci' fs hr
        split at hs
        · rename_i f' hlk
          obtain ⟨rfl, rfl⟩ := look1 hlk
          split at g6
          · rename_i C T N hC
            simp only [decide_eq_true_eq] at g6
            refine rk_virt X IH hq hr hC (fun rm r1 r2 r3 r4 => Or.inl (cwV n hts (rBig_in ?_) rfl r1 r2 ⟨g6.symm, (rnot_spec g4).1, (rnot_spec g4).2, rpar_spec g5⟩ ⟨r3, r4⟩)) hlen hd hs
            intro w hw
            rcases List.mem_append.mp hw with h1 | h1
            · simp only [List.mem_cons, List.not_mem_nil, or_false] at h1
              rcases h1 with rfl | rfl | rfl | rfl
              · exact rwordB_mem g1
              · exact rwordB_mem g2
              · rw [g6]; exact rwordB_mem g3
              · rw [g6]; exact rwordB_mem g3b
            · exact rwords X hq w h1
          · cases g6
        · exact False.elim hs
      · exact False.elim hs
    · exact False.elim hs
  · rename_i n ci f p1 p2 p3 p4
    obtain ⟨q, hq, hg⟩ := ry_spec hck
    simp only [Bool.and_eq_true] at hg
    obtain ⟨⟨⟨⟨⟨⟨g1, g2⟩, g3⟩, g3b⟩, g4⟩, g5⟩, g6⟩ := hg
    unfold rvirt at hs
    simp only at hs
    split at hs
    · rename_i As r st' hpop
      obtain ⟨Bs, hA, hlen, rfl⟩ := rpop_spec hpop
      rw [List.append_nil] at hA
      subst hA
      split at hs
      · rename_i ci' fs hr
        split at hs
        · rename_i f' hlk
          obtain ⟨rfl, rfl⟩ := look1 hlk
          split at g6
          · rename_i C T N hC
            simp only [decide_eq_true_eq] at g6
            subst g6
            exact rk_virt X IH hq hr hC (fun rm r1 r2 r3 r4 => Or.inr (Or.inl ⟨va_cnB n hts (rBig_in (rwords X hq)) rfl r1 r2 (hnst _ (rnestB_mem g1)) (hts _ (rwordB_mem g3b)) ⟨(rnot_spec g4).1, (rnot_spec g4).2, rpar_spec g5⟩ ⟨r3, r4⟩, hts _ (rwordB_mem g2), hts _ (rwordB_mem g3)⟩)) hlen hd hs
          · cases g6
        · exact False.elim hs
      · exact False.elim hs
    · exact False.elim hs
  · rename_i n ps p1 p2 p3 pos
    split at hck
    · rename_i o1 o2 x hx1
      simp only [Bool.and_eq_true] at hck
      obtain ⟨⟨⟨⟨g1, g2⟩, g3⟩, g4⟩, g5⟩ := hck
      unfold rvirt at hs
      simp only at hs
      split at hs
      · rename_i As r st' hpop
        obtain ⟨Bs, hA, hlen, rfl⟩ := rpop_spec hpop
        rw [List.append_nil] at hA
        subst hA
        split at hs
        · rename_i ci' fs hr
          split at hs
          · rename_i f' hlk
            obtain ⟨C, T, N, q, hC, hq, w1, w2, w3⟩ := rUB_spec g5 hlk
            refine rk_virt X IH hq hr hC (fun rm r1 r2 r3 r4 => Or.inr (Or.inr ⟨"LeastAlone$Tally", x, va_cwA n hts (rBig_in ?_) rfl r1 r2 (hnst _ (rnestB_mem g3)) ⟨by decide, by decide, rpar_spec g4⟩ ⟨r3, r4⟩⟩)) hlen hd hs
            intro w hw
            rcases List.mem_append.mp hw with h1 | h1
            · simp only [List.mem_cons, List.not_mem_nil, or_false] at h1
              rcases h1 with rfl | rfl | rfl | rfl | rfl
              · exact rwordB_mem g1
              · exact rwordB_mem g2
              · exact w1
              · exact w2
              · exact w3
            · exact rwords X hq w h1
          · exact False.elim hs
        · exact False.elim hs
      · exact False.elim hs
    · cases hck
  · cases hck
theorem rk_br {call : rCall} {cdn : Jvm.ClassFile.Cond} {x y : Int32} {a b : rK} {P : rK → Prop} (hs : rstp call R (some (rbr cdn x y a b)) P) : match cdn with
    | .eq => (x = y → P a) ∧ (¬ x = y → P b)
    | .ne => (¬ x = y → P a) ∧ (x = y → P b)
    | .lt => (x < y → P a) ∧ (¬ x < y → P b)
    | .ge => (y ≤ x → P a) ∧ (¬ y ≤ x → P b)
    | .gt => (y < x → P a) ∧ (¬ y < x → P b)
    | .le => (x ≤ y → P a) ∧ (¬ x ≤ y → P b) := by
  cases cdn <;> first | exact hs | exact ⟨hs.2, hs.1⟩
end RF
end
section
section RG
variable {p : Program} {l : Launch} {e : Env} {Rm : Room} {s : State} {m : MethodId} {args : Array Value} {below : List Frame} {meth : Method} {cd : Code} {Q : State → Prop}
variable {own : String} {init : Bool} {bytes : ByteArray} {nL : Nat} {D : va_G} {cA : Nat → ClassId} {base MC MS d n0 : Nat} {ro : rQ} {ad0 : Nat → Nat}
variable {R : rR}
/-- what a return gives, to be shown once for a method, once for the law -/
def rRet (p : Program) (l : Launch) (e : Env) (Rm : Room) (s : State) (m : MethodId) (args : Array Value) (below : List Frame) (meth : Method) (cd : Code) (Q : State → Prop) (bytes : ByteArray) (D : va_G) (cA : Nat → ClassId) (base MC MS n0 : Nat) (ro : rQ) (ad0 : Nat → Nat) (R : rR) (ret : Option FieldType) : Prop :=
  ∀ (i : Instr) (aux : List Nat) (v : Option Value) (pc k z : Nat) (h : rH) (ad : Nat → Nat) (H : Heap) (locs : List Loc) (ls : Array Slot), ((i = .ireturn ∧ ∃ x : Int32, v = some (.int x) ∧ ((ret = some .int ∧ aux = [0]) ∨ (ret = some .boolean ∧ aux = [1] ∧ (x = 0 ∨ x = 1)))) ∨ (i = .lreturn ∧ ret = some .long ∧ ∃ x : Int64, v = some (.long x)) ∨ (i = .return_ ∧ ret = none ∧ v = none)) →
    decode bytes pc = .ok (i, 1) → R v h → k ≤ MC → z ≤ MS → rwld D cA base ro s H locs ad h → rxt MC n0 ad0 ad h → W p l e Rm s m args below meth cd H locs k z Q (F0 m pc ls v.toList)
theorem rclose {tb : List (Nat × rI)} {ret : Option FieldType} (X : rCtx p Rm s m args meth cd own init bytes nL D cA base MC MS d) (IH : rMet l D cA base ro d) (hok : tb.all (rchk own init bytes) = true) (hrt : rretB ret tb = true) (hnst : ∀ w ∈ rNst, va_Nw w s) (hvoid : ∀ (f : Nat) (q : rP), pgm[f]? = some q → q.1.name = "<init>" → q.2.2.2.1 = none)
    (hret : rRet p l e Rm s m args below meth cd Q bytes D cA base MC MS n0 ro ad0 R ret) (c : rK) (hs : rstp (rM ro d) R (rnext ro tb MC MS c) (rPr p l e Rm s m args below meth cd Q nL D cA base MC n0 ro ad0)) : rPr p l e Rm s m args below meth cd Q nL D cA base MC n0 ro ad0 c := by
  obtain ⟨pc, L, st, h, k, z⟩ := c
  unfold rnext at hs
  split at hs
  case h_2 => exact False.elim hs
  rename_i ee hf
  have hmem := rfind_mem hf
  have hck := List.all_eq_true.mp hok _ hmem
  have hr0 := List.all_eq_true.mp hrt _ hmem
  obtain ⟨i, aux, pos⟩ := ee
  unfold rchk at hck
  simp only [Bool.and_eq_true, decide_eq_true_eq] at hck
  obtain ⟨hd, hck⟩ := hck
  have hx := X.1
  have hb := X.2.1
  have hts := X.2.2.2.2.1
  have hown := X.2.2.2.1
  cases i with
  | iconst n => exact rk_push hs (fun ad H locs ls hl kk => lv_iconst hx hb hd (by simpa using hck) kk)
  | bipush n => exact rk_push hs (fun ad H locs ls hl kk => lv_bipush hx hb hd (by simpa using hck) kk)
  | sipush n => exact rk_push hs (fun ad H locs ls hl kk => lv_sipush hx hb hd (by simpa using hck) kk)
  | lconst n => exact rk_push hs (fun ad H locs ls hl kk => lv_lconst hx hb hd (by simpa using hck) kk)
  | ldc x =>
    dsimp only at hck
    split at hck
    · exact rk_push hs (fun ad H locs ls hl kk => lv_ldc hx hb hown (hts _ (rwordB_mem hck)) hd kk)
    · cases hck
  | ldc_w x =>
    dsimp only at hck
    split at hck
    · exact rk_push hs (fun ad H locs ls hl kk => lv_ldcw hx hb hown (hts _ (rwordB_mem hck)) hd kk)
    · cases hck
  | ldc2_w x =>
    dsimp only at hck
    split at hck
    · exact rk_push hs (fun ad H locs ls hl kk => lv_ldc2 hx hb hown (hts _ (rwordB_mem hck)) hd kk)
    · cases hck
  | iload_n n => exact rk_load hs (fun x rest H locs ls hl kk => lv_iload_n hx hb hd rfl hl kk)
  | iload n => exact rk_load hs (fun x rest H locs ls hl kk => lv_iload hx hb hd hl kk)
  | lload_n n => exact rk_loadL hs (fun x rest H locs ls hl kk => lv_lload_n hx hb hd rfl hl kk)
  | lload n => exact rk_loadL hs (fun x rest H locs ls hl kk => lv_lload hx hb hd hl kk)
  | aload_n n => exact rk_loadA hs (fun x rest H locs ls hl kk => lv_aload_n hx hb hd rfl hl kk)
  | istore_n n => exact rk_store hs (fun x rest H locs ls lv hl hi kk => lv_istore_n hx hb hd rfl hl hi rfl kk)
  | istore n => exact rk_store hs (fun x rest H locs ls lv hl hi kk => lv_istore hx hb hd hl hi rfl kk)
  | lstore_n n => exact rk_storeL hs (fun x rest H locs ls lv hl hi kk => lv_lstore_n hx hb hd rfl hl hi rfl kk)
  | lstore n => exact rk_storeL hs (fun x rest H locs ls lv hl hi kk => lv_lstore hx hb hd hl hi rfl kk)
  | astore_n n => exact rk_storeA hs (fun x rest H locs ls lv hl hi kk => lv_astore_n hx hb hd rfl hl hi rfl kk)
  | iinc n q =>
    have hc : Int32.ofInt q = rc aux := by simpa using hck
    exact rk_inc hs (fun x rest H locs ls lv j hl hj hi kk => lv_iinc hx hb hd hl hj (by rw [hc]) hi rfl kk)
  | iadd => exact rk_bin hs (fun x y rest H locs ls kk => lv_iadd hx hb hd kk)
  | isub => exact rk_bin hs (fun x y rest H locs ls kk => lv_isub hx hb hd kk)
  | imul => exact rk_bin hs (fun x y rest H locs ls kk => lv_imul hx hb hd kk)
  | iand => exact rk_bin hs (fun x y rest H locs ls kk => lv_iand hx hb hd kk)
  | ior => exact rk_bin hs (fun x y rest H locs ls kk => lv_ior hx hb hd kk)
  | ishl => exact rk_bin hs (fun x y rest H locs ls kk => lv_ishl hx hb hd kk)
  | ishr => exact rk_bin hs (fun x y rest H locs ls kk => lv_ishr hx hb hd kk)
  | iushr => exact rk_bin hs (fun x y rest H locs ls kk => lv_iushr hx hb hd rfl kk)
  | idiv => exact rk_div hs (fun x y rest H locs ls hy kk => lv_idiv hx hb hd hy kk)
  | irem => exact rk_div hs (fun x y rest H locs ls hy kk => lv_irem hx hb hd hy kk)
  | ladd => exact rk_binL hs (fun x y rest H locs ls kk => lv_ladd hx hb hd kk)
  | lsub => exact rk_binL hs (fun x y rest H locs ls kk => lv_lsub hx hb hd kk)
  | lmul => exact rk_binL hs (fun x y rest H locs ls kk => lv_lmul hx hb hd kk)
  | ldiv => exact rk_divL hs (fun x y rest H locs ls hy kk => lv_ldiv hx hb hd hy kk)
  | lrem => exact rk_divL hs (fun x y rest H locs ls hy kk => lv_lrem hx hb hd hy kk)
  | lcmp =>
    simp only [rop] at hs
    split at hs
    · exact fun ad H locs ls hw hx2 hl hn => W.lcmp hx hb hd (hs ad H locs ls hw hx2 hl hn)
    · exact False.elim hs
  | i2l =>
    simp only [rop] at hs
    split at hs
    · exact fun ad H locs ls hw hx2 hl hn => lv_i2l hx hb hd rfl (hs ad H locs ls hw hx2 hl hn)
    · exact False.elim hs
  | l2i =>
    simp only [rop] at hs
    split at hs
    · exact fun ad H locs ls hw hx2 hl hn => lv_l2i hx hb hd rfl (hs ad H locs ls hw hx2 hl hn)
    · exact False.elim hs
  | i2b =>
    simp only [rop] at hs
    split at hs
    · exact fun ad H locs ls hw hx2 hl hn => lv_i2b hx hb hd rfl (hs ad H locs ls hw hx2 hl hn)
    · exact False.elim hs
  | dup =>
    simp only [rop] at hs
    split at hs
    · exact fun ad H locs ls hw hx2 hl hn => lv_dup hx hb hd rfl (hs ad H locs ls hw hx2 hl hn)
    · exact fun ad H locs ls hw hx2 hl hn => lv_dup hx hb hd rfl (hs ad H locs ls hw hx2 hl hn)
    · exact False.elim hs
  | dup2 =>
    simp only [rop] at hs
    split at hs
    · exact fun ad H locs ls hw hx2 hl hn => lv_dup2_11 hx hb hd rfl rfl (hs ad H locs ls hw hx2 hl hn)
    · exact fun ad H locs ls hw hx2 hl hn => lv_dup2_2 hx hb hd rfl (hs ad H locs ls hw hx2 hl hn)
    · exact False.elim hs
  | iaload => exact rk_aldI X hd hs
  | laload => exact rk_aldL X hd hs
  | baload => exact rk_aldB X hd hs
  | aaload => exact rk_aldA X hd hs
  | iastore => exact rk_astI X hd hs
  | lastore => exact rk_astL X hd hs
  | bastore => exact rk_astB X hd hs
  | aastore => exact rk_astA X hd hs
  | arraylength => exact rk_alen X hd hs
  | getfield x =>
    dsimp only at hck
    split at hck
    · exact rk_getf X hck hd hs
    · cases hck
  | putfield x =>
    dsimp only at hck
    split at hck
    · simp only [Bool.and_eq_true, Bool.or_eq_true, decide_eq_true_eq] at hck
      exact rk_putf X hck.1 hck.2 hd hs
    · cases hck
  | getstatic x =>
    dsimp only at hck
    split at hck
    · rename_i r kd pp
      split at hck
      · simp only [Bool.and_eq_true] at hck
        exact fun ad H locs ls hw hx2 hl hn => va_gets hx hb hw.2.2.2.2.2.1 hw.2.2.1 hown (hts _ (rwordB_mem hck.2)) (fun _ h => h) hd (hs ad H locs ls hw hx2 hl hn)
      · simp only [Bool.and_eq_true] at hck
        exact fun ad H locs ls hw hx2 hl hn => va_gets hx hb hw.2.2.2.2.2.2.1 hw.2.2.1 hown (hts _ (rwordB_mem hck.2)) (fun _ h => h) hd (hs ad H locs ls hw hx2 hl hn)
      · simp only [Bool.and_eq_true] at hck
        exact fun ad H locs ls hw hx2 hl hn => va_getsN hx hb hw.2.2.2.2.2.2.2.1 hw.2.2.1 hown (va_Nw.use rfl (hnst _ (rnestB_mem hck.2))) (fun _ h => h) hd (hs ad H locs ls hw hx2 hl hn)
      · simp only [Bool.and_eq_true] at hck
        exact fun ad H locs ls hw hx2 hl hn => va_getsN hx hb hw.2.2.2.2.2.2.2.2.1 hw.2.2.1 hown (va_Nw.use rfl (hnst _ (rnestB_mem hck.2))) (fun _ h => h) hd (hs ad H locs ls hw hx2 hl hn)
      · cases hck
    · cases hck
  | new x =>
    dsimp only at hck
    split at hck
    · split at hck
      · rename_i C T N hC
        simp only [Bool.and_eq_true] at hck
        exact rk_newc X hC (rwordB_mem hck.1.1) (rwordB_mem hck.1.2) (rwordB_mem hck.2) hd hs
      · cases hck
    · cases hck
  | newarray a =>
    dsimp only at hck
    split at hck
    · exact rk_newa X (rwordB_mem hck) hd hs
    · cases hck
  | anewarray x =>
    dsimp only at hck
    split at hck
    · exact rk_newq X (rwordB_mem hck) hd hs
    · cases hck
  | ifCond cdn o =>
    dsimp only at hck
    split at hck
    · rename_i t
      have ht : (pc : Int) + o = (t : Int) := by simpa using hck
      simp only [rop, rjump] at hs
      split at hs
      · rename_i x st
        have hs2 := rk_br hs
        cases cdn with
        | eq => exact fun ad H locs ls hw hx2 hl hn => lv_if_eq hx hb hd ht (fun g => hs2.1 g ad H locs ls hw hx2 hl hn) (fun g => hs2.2 g ad H locs ls hw hx2 hl hn)
        | ne => exact fun ad H locs ls hw hx2 hl hn => lv_if_ne hx hb hd ht (fun g => hs2.1 g ad H locs ls hw hx2 hl hn) (fun g => hs2.2 g ad H locs ls hw hx2 hl hn)
        | lt => exact fun ad H locs ls hw hx2 hl hn => lv_if_lt hx hb hd ht (fun g => hs2.1 g ad H locs ls hw hx2 hl hn) (fun g => hs2.2 g ad H locs ls hw hx2 hl hn)
        | ge => exact fun ad H locs ls hw hx2 hl hn => lv_if_ge hx hb hd ht (fun g => hs2.1 g ad H locs ls hw hx2 hl hn) (fun g => hs2.2 g ad H locs ls hw hx2 hl hn)
        | gt => exact fun ad H locs ls hw hx2 hl hn => lv_if_gt hx hb hd ht (fun g => hs2.1 g ad H locs ls hw hx2 hl hn) (fun g => hs2.2 g ad H locs ls hw hx2 hl hn)
        | le => exact fun ad H locs ls hw hx2 hl hn => lv_if_le hx hb hd ht (fun g => hs2.1 g ad H locs ls hw hx2 hl hn) (fun g => hs2.2 g ad H locs ls hw hx2 hl hn)
      · exact False.elim hs
    · cases hck
  | if_icmp cdn o =>
    dsimp only at hck
    split at hck
    · rename_i t
      have ht : (pc : Int) + o = (t : Int) := by simpa using hck
      simp only [rop, rjump] at hs
      split at hs
      · rename_i y x st
        have hs2 := rk_br hs
        cases cdn with
        | eq => exact fun ad H locs ls hw hx2 hl hn => lv_icmp_eq hx hb hd ht (fun g => hs2.1 g ad H locs ls hw hx2 hl hn) (fun g => hs2.2 g ad H locs ls hw hx2 hl hn)
        | ne => exact fun ad H locs ls hw hx2 hl hn => lv_icmp_ne hx hb hd ht (fun g => hs2.1 g ad H locs ls hw hx2 hl hn) (fun g => hs2.2 g ad H locs ls hw hx2 hl hn)
        | lt => exact fun ad H locs ls hw hx2 hl hn => lv_icmp_lt hx hb hd ht (fun g => hs2.1 g ad H locs ls hw hx2 hl hn) (fun g => hs2.2 g ad H locs ls hw hx2 hl hn)
        | ge => exact fun ad H locs ls hw hx2 hl hn => lv_icmp_ge hx hb hd ht (fun g => hs2.1 g ad H locs ls hw hx2 hl hn) (fun g => hs2.2 g ad H locs ls hw hx2 hl hn)
        | gt => exact fun ad H locs ls hw hx2 hl hn => lv_icmp_gt hx hb hd ht (fun g => hs2.1 g ad H locs ls hw hx2 hl hn) (fun g => hs2.2 g ad H locs ls hw hx2 hl hn)
        | le => exact fun ad H locs ls hw hx2 hl hn => lv_icmp_le hx hb hd ht (fun g => hs2.1 g ad H locs ls hw hx2 hl hn) (fun g => hs2.2 g ad H locs ls hw hx2 hl hn)
      · exact False.elim hs
    · cases hck
  | goto o =>
    dsimp only at hck
    split at hck
    · rename_i t
      have ht : (pc : Int) + o = (t : Int) := by simpa using hck
      exact fun ad H locs ls hw hx2 hl hn => lv_goto hx hb hd ht (hs ad H locs ls hw hx2 hl hn)
    · cases hck
  | tableswitch dd lo hi os =>
    dsimp only at hck
    split at hck
    · rename_i len t ts
      simp only [Bool.and_eq_true, decide_eq_true_eq] at hck
      obtain ⟨⟨⟨ht, hlh⟩, hlen⟩, hts2⟩ := hck
      simp only [rop] at hs
      split at hs
      · rename_i d' ts' x st' heq
        cases heq
        intro ad H locs ls hw hx2 hl hn
        have hs3 := hs ad H locs ls hw hx2 hl hn
        by_cases hc : x.toInt < lo ∨ hi < x.toInt
        · have e1 : rsw t lo hi ts x = t := if_pos hc
          have hs4 : W p l e Rm s m args below meth cd H locs k z Q (F0 m (rsw t lo hi ts x) ls (st'.map (rv ad))) := hs3
          rw [e1] at hs4
          exact lv_tableOut hx hb hd hc ht hs4
        · have e1 : rsw t lo hi ts x = ts.getD (x.toInt - lo).toNat 0 := if_neg hc
          have hs4 : W p l e Rm s m args below meth cd H locs k z Q (F0 m (rsw t lo hi ts x) ls (st'.map (rv ad))) := hs3
          rw [e1] at hs4
          have h1 : ¬ x.toInt < lo := fun q => hc (Or.inl q)
          have h2 : ¬ hi < x.toInt := fun q => hc (Or.inr q)
          have hj : (x.toInt - lo).toNat < os.toList.length := by rw [hlen]; omega
          have hg : os[(x.toInt - lo).toNat]? = some (os.toList[(x.toInt - lo).toNat]) := by
            rw [← Array.getElem?_toList, List.getElem?_eq_getElem hj]
          refine lv_tableIn hx hb hd h1 h2 hg ?_ hs4
          have e2 := congrArg (fun l : List Int => l[(x.toInt - lo).toNat]?) hts2
          simp only [List.getElem?_map, List.getElem?_eq_getElem hj, Option.map_some] at e2
          rw [List.getD_eq_getElem?_getD]
          cases hq : ts[(x.toInt - lo).toNat]? with
          | none => rw [hq] at e2; cases e2
          | some w =>
            rw [hq] at e2
            simp only [Option.map_some, Option.some.injEq] at e2
            simpa using e2
      · exact False.elim hs
    · cases hck
  | invokestatic x => exact rk_istat X IH hck hnst hd hs
  | invokespecial x => exact rk_ispec X IH hck hnst hvoid hd hs
  | invokevirtual x => exact rk_ivirt X IH hck hnst hd hs
  | ireturn =>
    simp only [rop, rret] at hs
    cases hbb : Nat.ble k MC && Nat.ble z MS
    · rw [hbb] at hs; exact False.elim hs
    · rw [hbb] at hs
      simp only [Bool.and_eq_true] at hbb
      have hk := Nat.le_of_ble_eq_true hbb.1
      have hz := Nat.le_of_ble_eq_true hbb.2
      simp only [cond_true] at hs
      simp only [Bool.or_eq_true, Bool.and_eq_true, decide_eq_true_eq] at hr0
      split at hs
      · rename_i v
        exact fun ad H locs ls hw hx2 hl hn => hret .ireturn [0] (some (.int v)) pc k z h ad H locs ls (Or.inl ⟨rfl, v, rfl, Or.inl ⟨hr0.elim (fun q => q.1) (fun q => absurd q.2 (by decide)), rfl⟩⟩) hd hs.2 hk hz hw hx2
      · rename_i v
        exact fun ad H locs ls hw hx2 hl hn => hret .ireturn [1] (some (.int v)) pc k z h ad H locs ls (Or.inl ⟨rfl, v, rfl, Or.inr ⟨hr0.elim (fun q => absurd q.2 (by decide)) (fun q => q.1), rfl, hs.1⟩⟩) hd hs.2 hk hz hw hx2
      · rcases hr0 with q | q <;> cases q.2
      · rcases hr0 with q | q <;> cases q.2
      · exact False.elim hs
  | lreturn =>
    simp only [rop, rret] at hs
    cases hbb : Nat.ble k MC && Nat.ble z MS
    · rw [hbb] at hs; exact False.elim hs
    · rw [hbb] at hs
      simp only [Bool.and_eq_true] at hbb
      have hk := Nat.le_of_ble_eq_true hbb.1
      have hz := Nat.le_of_ble_eq_true hbb.2
      simp only [cond_true] at hs
      simp only [decide_eq_true_eq] at hr0 hck
      split at hs
      · cases hck
      · cases hck
      · rename_i v
        exact fun ad H locs ls hw hx2 hl hn => hret .lreturn [2] (some (.long v)) pc k z h ad H locs ls (Or.inr (Or.inl ⟨rfl, hr0, v, rfl⟩)) hd hs.2 hk hz hw hx2
      · cases hck
      · exact False.elim hs
  | return_ =>
    simp only [rop, rret] at hs
    cases hbb : Nat.ble k MC && Nat.ble z MS
    · rw [hbb] at hs; exact False.elim hs
    · rw [hbb] at hs
      simp only [Bool.and_eq_true] at hbb
      have hk := Nat.le_of_ble_eq_true hbb.1
      have hz := Nat.le_of_ble_eq_true hbb.2
      simp only [cond_true] at hs
      simp only [decide_eq_true_eq] at hr0 hck
      split at hs
      · cases hck
      · cases hck
      · cases hck
      · exact fun ad H locs ls hw hx2 hl hn => hret .return_ [3] none pc k z h ad H locs ls (Or.inr (Or.inr ⟨rfl, hr0, rfl⟩)) hd hs.2 hk hz hw hx2
      · exact False.elim hs
  | _ => exact False.elim hs
end RG
end
section
theorem rsl_len : ∀ (vs : List Value), (lg_sl vs).length = (vs.map fun v => v.category).sum
  | [] => rfl
  | v :: vs => by
    have ih := rsl_len vs
    rw [show lg_sl (v :: vs) = (if v.category = 2 then [.val v, .second] else [.val v]) ++ lg_sl vs from rfl, List.length_append, ih, List.map_cons, List.sum_cons]
    cases v <;> rfl
theorem pgm_void : ∀ (f : Nat) (q : rP), pgm[f]? = some q → q.1.name = "<init>" → q.2.2.2.1 = none := by
  have h : pgm.all (fun q => !(decide (q.1.name = "<init>")) || decide (q.2.2.2.1 = none)) = true := by decide +kernel
  intro f q hq hn
  have h1 := List.all_eq_true.mp h q (List.mem_of_getElem? hq)
  simpa [hn] using h1
set_option maxHeartbeats 1000000 in
theorem rsound (l : Launch) (D : va_G) (cA : Nat → ClassId) (base : Nat) (ro : rQ) : ∀ d, rMet l D cA base ro d
  | 0 => fun f mc ms As h R ad q hq hM => False.elim hM
  | d + 1 => by
    intro f mc ms As h R ad q hq hM
    have IH := rsound l D cA base ro d
    unfold rM at hM
    rw [hq] at hM
    obtain ⟨hargs, hT⟩ := hM
    have hmet := ok_met hq
    obtain ⟨y, bytes, n, ret, tb⟩ := q
    simp only [rmetB, Bool.and_eq_true] at hmet
    obtain ⟨⟨⟨hok, hrt⟩, hpl⟩, -⟩ := hmet
    simp only [Bool.and_eq_true] at hargs
    refine Met.ofW (cc := bytes) (maxL := n) (ret := ret) hpl rfl ?_
    intro p e s m args below meth c s₁ B hml hv
    obtain ⟨rfl, hK, hw0, hbase, hSt⟩ := hv
    have hts : ∀ w ∈ Cond.code y bytes n ret :: rBig, w.before (As.map (rv ad)).toArray s = true := atoms_spec (ws := Cond.code y bytes n ret :: rBig) B.pre
    have hown : s.vm.findClass y.cls = some m.cls := findClass_of_methodNamed B.named
    have hname := name_of_methodNamed B.named B.method
    have X : rCtx p (rRm (d + 1) mc ms) s m (As.map (rv ad)).toArray meth c y.cls (decide (y.name = "<init>")) bytes n D cA base mc ms d := ⟨B.exec, B.bytes, hml, hown, fun w hw => hts w (List.mem_cons_of_mem _ hw), fun hi => by rw [hname.1]; simpa using hi, hK, hbase, Nat.le_refl _, Nat.le_refl _, Nat.le_refl _, Nat.le_refl _⟩
    have hret : rRet p l e (rRm (d + 1) mc ms) s m (As.map (rv ad)).toArray below meth c (MQ below (rQc D cA base mc h.length ad R ret) (As.map (rv ad)).toArray s mc ms (rAA base)) bytes D cA base mc ms h.length ro ad R ret := by
      intro i aux v pc k z h' ad' H locs ls hi hd hR hk hz hw hx2
      refine W.widen hk hz ?_
      have hB : ∀ t : State, t.heap = H → rQB D cA base mc h.length ad (h', ad') t := fun t ht => ⟨by rw [ht]; exact ⟨hw.1, hw.2.1⟩, hx2⟩
      rcases hi with ⟨rfl, x, rfl, ⟨hr, -⟩ | ⟨hr, -, hx01⟩⟩ | ⟨rfl, hr, x, rfl⟩ | ⟨rfl, hr, rfl⟩
      · subst hr
        exact W.iret B.exec B.bytes B.returns (fun t ht hW => ⟨⟨x, (h', ad'), rfl, hR, hB t ht⟩, hw.2.2.1.F ht⟩) hw.2.2.1.2.2 hd B.notSynchronized
      · subst hr
        exact W.zret B.exec B.bytes B.returns (by rcases hx01 with rfl | rfl <;> rfl) (fun t ht hW => ⟨⟨x, (h', ad'), rfl, hR, hB t ht⟩, hw.2.2.1.F ht⟩) hw.2.2.1.2.2 hd B.notSynchronized
      · subst hr
        exact W.lret B.exec B.bytes B.returns (fun t ht hW => ⟨⟨x, (h', ad'), rfl, hR, hB t ht⟩, hw.2.2.1.F ht⟩) hw.2.2.1.2.2 hd B.notSynchronized
      · subst hr
        exact W.vret B.exec B.bytes B.returns (fun t ht hW => ⟨⟨(h', ad'), rfl, hR, hB t ht⟩, hw.2.2.1.F ht⟩) hw.2.2.1.2.2 hd B.notSynchronized
    have key := hT (rPr p l e (rRm (d + 1) mc ms) s m (As.map (rv ad)).toArray below meth c (MQ below (rQc D cA base mc h.length ad R ret) (As.map (rv ad)).toArray s mc ms (rAA base)) n D cA base mc h.length ro ad) (rclose X IH hok hrt hSt.1 pgm_void hret)
    have hnn : ∀ v ∈ As, v ≠ .null := fun v hv e => by
      have := List.all_eq_true.mp hargs.1 v hv
      rw [e] at this
      cases this
    have hsl : (lg_sl (As.map (rv ad))).length ≤ n := by
      rw [rsl_len, List.map_map, show (As.map ((fun v : Value => v.category) ∘ rv ad)) = As.map (fun v => v.category) from List.map_congr_left (fun v _ => rv_cat ad v)]
      exact Nat.le_of_ble_eq_true hargs.2
    have hra := rargs_has ad As n 0 hnn hsl
    have hl := lv_entry (As.map (rv ad)) (n := n) hsl
    rw [lg_entry_eq]
    exact key ad s.heap [] _ ⟨hw0.1, hw0.2, va_S.rf, hSt⟩ ⟨fun _ => rfl, fun _ _ => rfl, Nat.le_refl _⟩ (by rw [show ((0, rargs As n, [], h, 0, 0) : rK).2.1 = rargs As n from rfl, hra.1]; exact hl) hra.2
end
section
/-! ===== the static rows of the class, and the script ===== -/
def rTW : List Nat := [0, 1, 1, 1, 1, 1, 1, 1, 0, 1, 2, 3, 4, 5, 6, 7, 0, 1, 1, 2, 2, 3, 3, 4, 0, 1, 1, 1, 1, 1, 1, 1]
def rTC : List Nat := [1, 0, 0, 0, 0, 0, 0, 1, 1, 0, 0, 0, 0, 0, 1, 2, 1, 0, 0, 0, 0, 1, 3, 3, 1, 0, 0, 0, 1, 4, 6, 4, 1, 0, 0, 1, 5, 10, 10, 5, 1, 0, 1, 6, 15, 20, 15, 6, 1]
def rTB : List Nat := [0, 0, 0, 0, 0, 0, 0, 0, 1, 2, 3, 4, 5, 6, 0, 1, 3, 6, 10, 15, 21, 0, 1, 4, 10, 20, 35, 56, 0, 1, 5, 15, 35, 70, 126, 0, 1, 6, 21, 56, 126, 252, 0, 1, 7, 28, 84, 210, 462]
def rTO : List Nat := [0, 1, 1, 1, 1, 1, 1]
def rRo (L : Nat) (xs : Nat → Int32) : rQ
  | 0 => some (32, fun k => nI (rTW.getD k 0))
  | 1 => some (49, fun k => nI (rTC.getD k 0))
  | 2 => some (49, fun k => nI (rTB.getD k 0))
  | 3 => some (7, fun k => nI (rTO.getD k 0))
  | 4 => some (L, xs)
  | _ => none
end
section
/-! THE CLAIM OUT OF ONE WALK OF THE LAW'S BODY. Your part is whole_start (and what it stands on); all else here is the same for every law, but numbers. -/
def R_law : String := "LeastAloneLaw"
def lw_P (b : Addr) (xs : List Int32) (args : Array Value) (s : State) : Prop := args = #[.ref b] ∧ s.IntsAt b xs ∧ xs.length ≤ 2048 ∧ (Jvm.Cond.and given_1 narrow_1).before args s = true
def lw_Q (_ : Array Value) (s : State) (o : Outcome) (t : State) : Prop := o = .returned (some (.int 1)) ∧ Framed s o t [] 600000 7302250
def lw_Z (below : List Frame) (a : Array Value) (s : State) : State → Prop := fun t => ∃ o, t.status = .running ∧ Ended t below o ∧ lw_Q a s o t
/-- the law's own end, with 1 on the stack, nothing written that was there before, its room as the claim has it -/
theorem lw_ret {p : Program} {l : Launch} {e : Env} {s : State} {m : MethodId} {below : List Frame} {meth : Method} {c : Code} {b : Nat} (hx : p.tables.exec = Jvm.exec) (hb : c.code = code) (hr : meth.sig.returnType = ret) (hlocks : meth.locks = false) {pc : Nat} {H : Heap} {ls : Array Slot} (hdg : decode code pc = .ok (.ireturn, 1)) : W p l e room_1 s m #[Value.ref b] below meth c H [] 600000 7302250 (lw_Z below #[Value.ref b] s) (F0 m pc ls [.int 1]) := by
  intro T hT X
  obtain ⟨fs, hret, hrun, hended, hW, hframe⟩ := X.leave (v := some (.int 1)) (hlocks := hlocks) (fun h => by rw [hr] at h; cases h)
  have hmeth' : T.vm.method? m = some meth := X.method'
  refine ⟨T.setFrames fs, ?_, .returned (some (.int 1)), hrun, hended, rfl, ⟨_, rfl⟩, hW, hframe⟩
  jvm_step X.here [X.here.top, hx, hb, hdg, hmeth', hr, ret, narrow_b1]
  (try refine ⟨rfl, ?_⟩); (try refine ⟨rfl, ?_⟩)
  first | (intro acts; rw [hret _ acts rfl rfl rfl]) | rw [hret _ _ rfl rfl rfl]
  exact Steps.refl _
/-- what holds at the law's entry: the machine, the code, the tables' words (any of lw_tbl by 'hts w (by decide +kernel)'), the script of L ints xs at the cell b, what the Statement gives of the start (any of its parts by flat_of_before) -/
def lw_At (p : Program) (s : State) (m : MethodId) (meth : Method) (c : Code) (b L : Nat) (xs : Nat → Int32) : Prop :=
  p.tables.exec = Jvm.exec ∧ c.code = code ∧ meth.sig.returnType = ret ∧ c.maxLocals = 4 ∧ s.vm.findClass R_law = some m.cls ∧ (∀ w ∈ lw_tbl, w.before #[Value.ref b] s = true) ∧ va_X b L xs s s.heap ∧ b < s.heap.size ∧ meth.locks = false ∧ (Jvm.Cond.and given_1 narrow_1).before #[Value.ref b] s = true
/-- a static row of ints, as the Statement gives it -/
theorem rtab {args : Array Value} {s : State} {nm : String} {N : Nat} {tb : List Nat} (hs : ∀ c ∈ flatC (Jvm.Cond.and given_1 narrow_1), c.before args s = true) (hts : ∀ w ∈ lw_tbl, w.before args s = true) (hN : N < 2 ^ 31)
    (h1 : Cond.arrayOf (.static "LeastAlone" nm "[I") .int ∈ flatC (Jvm.Cond.and given_1 narrow_1)) (h2 : Cond.eq (.length (.static "LeastAlone" nm "[I")) (.int (Int32.ofNat N)) ∈ flatC (Jvm.Cond.and given_1 narrow_1))
    (h3 : (List.range N).all (fun j => decide (Cond.eq (.elem (.static "LeastAlone" nm "[I") (.int (Int32.ofNat j))) (.int (nI (tb.getD j 0))) ∈ flatC (Jvm.Cond.and given_1 narrow_1))) = true)
    (h4 : Cond.laysStatic "LeastAlone" nm "[I" ∈ lw_tbl) (h5 : Cond.initialized "LeastAlone" ∈ lw_tbl) :
    ∃ t : Nat, va_Z "LeastAlone" nm "[I" (.ref t) (rAA s.heap.size) s s.heap ∧ va_T .int t N (fun j => .int (nI (tb.getD j 0))) (rAA s.heap.size) s s.heap := by
  obtain ⟨t, ht, hT⟩ := va_Tof (A := rAA s.heap.size) (f := fun j => .int (nI (tb.getD j 0))) hN (hs _ h1) (va_eqt (hs _ h2)) (fun j hj => va_eqt (hs _ (by simpa using List.all_eq_true.mp h3 j (List.mem_range.mpr hj)))) (fun a ha => Nat.not_le.mpr ha)
  exact ⟨t, va_Zof (hts _ h4) (hts _ h5) ht (fun a ha => Nat.not_le.mpr ha), hT⟩
theorem rarr {args : Array Value} {s : State} {ty : FieldType} (h : (Cond.arrayClass ty).before args s = true) (hp : ∀ C, ty ≠ .object C) : ∃ c : ClassId, ArrOfT s c ty ∧ va_RA s c ty := by
  obtain ⟨c, k, comp, h1, h2, h3⟩ := Cond.arrayClass_spec h
  refine ⟨c, fun n z => ⟨fun k h => (by cases h), k, h2, comp, h3⟩, ?_⟩
  cases ty with
  | object C => exact absurd rfl (hp C)
  | _ => exact h1
theorem rarrQ {args : Array Value} {s : State} {C : String} (h : (Cond.arrayOver (.object C)).before args s = true) : ∃ c : ClassId, ArrOfT s c (.object C) ∧ va_RA s c (.object C) := by
  obtain ⟨comp, c, k, h1, h2, h3, h4, h5⟩ := Cond.arrayOver_spec h
  exact ⟨c, fun n z => ⟨fun k h => (by cases h), k, h3, comp, h4⟩, k, comp, h3, h4, h1, h5⟩
theorem rcls {args : Array Value} {s : State} (hts : ∀ w ∈ rBig, w.before args s = true) (hin : ∀ (ci : Nat) (q : vw_C), rCl[ci]? = some q → Cond.instantiable q.1 q.2.2 ∈ rBig) : ∃ (dC : Nat → ClassId) (dI : Nat → Nat → Nat), ∀ (c : Nat) (q : vw_C), rCl[c]? = some q → u_Kn s q.1 q.2.1 q.2.2 (dC c) (dI c) := by
  have h : ∀ c : Nat, ∃ (cC : ClassId) (iS : Nat → Nat), ∀ q : vw_C, rCl[c]? = some q → u_Kn s q.1 q.2.1 q.2.2 cC iS := by
    intro c
    cases hc : rCl[c]? with
    | none => exact ⟨0, fun _ => 0, fun q hq => by cases hq⟩
    | some q =>
      obtain ⟨cC, iS, hK⟩ := u_known (C := q.1) (T := q.2.1) (N := q.2.2) (n := q.2.2) hts (rCl_in hc) (hts _ (hin c q hc))
      exact ⟨cC, iS, fun q' hq' => by cases hq'; exact hK⟩
  exact ⟨fun c => (h c).choose, fun c => (h c).choose_spec.choose, fun c q hq => (h c).choose_spec.choose_spec q hq⟩
theorem rinst : ∀ (ci : Nat) (q : vw_C), rCl[ci]? = some q → Cond.instantiable q.1 q.2.2 ∈ rBig := by
  have h : (rCl.zip [278, 215, 133, 294, 149, 246, 70, 203, 62, 768]).all (fun q => rwordB q.2 (.instantiable q.1.1 q.1.2.2)) = true := by decide +kernel
  intro ci q hq
  have hl : ci < 10 := (List.getElem?_eq_some_iff.mp hq).1
  obtain ⟨pp, hp⟩ : ∃ pp, (rCl.zip [278, 215, 133, 294, 149, 246, 70, 203, 62, 768])[ci]? = some (q, pp) := by
    refine ⟨[278, 215, 133, 294, 149, 246, 70, 203, 62, 768][ci]'hl, ?_⟩
    rw [List.getElem?_zip_eq_some]
    exact ⟨hq, List.getElem?_eq_getElem hl⟩
  exact rwordB_mem (List.all_eq_true.mp h _ (List.mem_of_getElem? hp))
set_option maxHeartbeats 4000000 in
set_option maxRecDepth 100000 in
/-- THE LAW, out of what the small machine says of it -/
theorem whole_of {p : Program} {e : Env} {s : State} {m : MethodId} {below : List Frame} {meth : Method} {c : Code} (l : Launch) {b L : Nat} {xs : Nat → Int32} (C0 : lw_At p s m meth c b L xs)
    (hT : rT (rRo L xs) (rM (rRo L xs) 1000) tb_L_law 70 94894 (fun v _ => v = some (.int 1)) (0, [.ref 1000004, .null, .null, .null], [], [], 0, 0)) : W p l e room_1 s m #[Value.ref b] below meth c s.heap [] 0 0 (lw_Z below #[Value.ref b] s) (entryFrame m ([Value.ref b] : List Value).toArray 4) := by
  obtain ⟨hx, hb, hr, hml, hown, hts, hX, hbl, hlocks, hgv⟩ := id C0
  have hs := flat_of_before _ hgv
  have htsB : ∀ w ∈ rBig, w.before #[Value.ref b] s = true := fun w hw => hts w (List.mem_filter.mp hw).1
  obtain ⟨dC, dI, hKc⟩ := rcls htsB rinst
  obtain ⟨cI, aI⟩ := rarr (hts (.arrayClass .int) (List.mem_of_getElem? (i := 130) (by decide +kernel))) (fun _ => by simp)
  obtain ⟨cJ, aJ⟩ := rarr (hts (.arrayClass .long) (List.mem_of_getElem? (i := 201) (by decide +kernel))) (fun _ => by simp)
  obtain ⟨cB, aB⟩ := rarr (hts (.arrayClass .byte) (List.mem_of_getElem? (i := 292) (by decide +kernel))) (fun _ => by simp)
  obtain ⟨cZ, aZ⟩ := rarr (hts (.arrayClass .boolean) (List.mem_of_getElem? (i := 147) (by decide +kernel))) (fun _ => by simp)
  have hover : (Cond.arrayOver (.object "LeastAlone$Table")).before #[Value.ref b] s = true := hts _ (List.mem_of_getElem? (i := 131) (by decide +kernel))
  obtain ⟨cQ, aQ⟩ := rarrQ hover
  have hini : Cond.initialized "LeastAlone" ∈ lw_tbl := List.mem_of_getElem? (i := 48) (by decide +kernel)
  obtain ⟨tW, zW, wW⟩ := rtab (nm := "WINNING") (N := 32) (tb := rTW) hs hts (by decide) (by decide +kernel) (by decide +kernel) (by decide +kernel) (List.mem_of_getElem? (i := 425) (by decide +kernel)) hini
  obtain ⟨tC, zC, wC⟩ := rtab (nm := "CHOOSE") (N := 49) (tb := rTC) hs hts (by decide) (by decide +kernel) (by decide +kernel) (by decide +kernel) (List.mem_of_getElem? (i := 498) (by decide +kernel)) hini
  obtain ⟨tB, zB, wB⟩ := rtab (nm := "BELOW") (N := 49) (tb := rTB) hs hts (by decide) (by decide +kernel) (by decide +kernel) (by decide +kernel) (List.mem_of_getElem? (i := 670) (by decide +kernel)) hini
  obtain ⟨tO, zO, wO⟩ := rtab (nm := "ONES") (N := 7) (tb := rTO) hs hts (by decide) (by decide +kernel) (by decide +kernel) (by decide +kernel) (List.mem_of_getElem? (i := 716) (by decide +kernel)) hini
  obtain ⟨cA, e0, e1, e2, e3, e4⟩ : ∃ cA : Nat → ClassId, cA 0 = cI ∧ cA 1 = cJ ∧ cA 2 = cB ∧ cA 3 = cZ ∧ cA 4 = cQ := ⟨fun k => match k with | 0 => cI | 1 => cJ | 2 => cB | 3 => cZ | _ => cQ, rfl, rfl, rfl, rfl, rfl⟩
  have hK : va_K (dC, dI) rCl (rtys cA) s := by
    refine ⟨hKc, ?_⟩
    intro k q hq
    have hlt : k < 5 := (List.getElem?_eq_some_iff.mp hq).1
    rcases (show k = 0 ∨ k = 1 ∨ k = 2 ∨ k = 3 ∨ k = 4 by omega) with rfl | rfl | rfl | rfl | rfl <;> cases hq
    · rw [e0]; exact aI
    · rw [e1]; exact aJ
    · rw [e2]; exact aB
    · rw [e3]; exact aZ
    · rw [e4]; exact aQ
  obtain ⟨ad, d0, d1, d2, d3, d4⟩ : ∃ ad : Nat → Nat, ad 1000000 = tW ∧ ad 1000001 = tC ∧ ad 1000002 = tB ∧ ad 1000003 = tO ∧ ad 1000004 = b := by
    refine ⟨fun k => if k = 1000000 then tW else if k = 1000001 then tC else if k = 1000002 then tB else if k = 1000003 then tO else b, ?_, ?_, ?_, ?_, ?_⟩ <;> simp
  have hXT : va_T .int b L (fun j => .int (xs j)) (rAA s.heap.size) s s.heap := by
    obtain ⟨scr, h1, h2, h3, h4, h5⟩ := hX
    exact ⟨scr, h1, h2, h3, Nat.le_of_eq h4.symm, congrArg Nat.toInt32 h4, h5, Nat.not_le.mpr hbl⟩
  have hSt : rSt s.heap.size (rRo L xs) ad s s.heap := by
    refine ⟨fun w hw => ?_, hover, by rw [d0]; exact zW, by rw [d1]; exact zC, by rw [d2]; exact zB, by rw [d3]; exact zO, ?_⟩
    · have hq := (List.mem_filter.mp hw).2
      have hz := hts w (List.mem_filter.mp hw).1
      refine va_Nw.of ?_ hz
      cases w <;> first | rfl | (simp [risN] at hq)
    · intro k n f hk
      unfold rRo at hk
      split at hk
      · cases hk; rw [show 1000000 + 0 = 1000000 from rfl, d0]; exact wW
      · cases hk; rw [show 1000000 + 1 = 1000001 from rfl, d1]; exact wC
      · cases hk; rw [show 1000000 + 2 = 1000002 from rfl, d2]; exact wB
      · cases hk; rw [show 1000000 + 3 = 1000003 from rfl, d3]; exact wO
      · cases hk; rw [show 1000000 + 4 = 1000004 from rfl, d4]; exact hXT
      · cases hk
  have hok := ok_L_law
  simp only [rmetB, Bool.and_eq_true] at hok
  obtain ⟨⟨⟨hok, hrt⟩, -⟩, -⟩ := hok
  have X : rCtx p room_1 s m #[Value.ref b] meth c yL_law.cls (decide (yL_law.name = "<init>")) cL_law 4 (dC, dI) cA s.heap.size 70 94894 1000 := ⟨hx, hb, hml, hown, htsB, fun hi => absurd hi (by decide), hK, Nat.le_refl _, Nat.le_of_ble_eq_true rfl, Nat.le_of_ble_eq_true rfl, Nat.le_of_ble_eq_true rfl, Nat.le_of_ble_eq_true rfl⟩
  have hret : rRet p l e room_1 s m #[Value.ref b] below meth c (lw_Z below #[Value.ref b] s) cL_law (dC, dI) cA s.heap.size 70 94894 0 (rRo L xs) ad (fun v _ => v = some (.int 1)) (some .boolean) := by
    intro i aux v pc k z h' ad' H locs ls hi hd hR hk hz hw hx2
    rcases hi with ⟨rfl, x, rfl, hh⟩ | ⟨rfl, hh, -⟩ | ⟨rfl, hh, -⟩
    · cases hR
      refine va_forget hw.2.2.1.2.2 (W.widen (k := 600000) (n := 7302250) (Nat.le_trans hk (by decide)) (Nat.le_trans hz (by decide)) ?_)
      exact lw_ret hx hb hr hlocks hd
    · cases hh
    · cases hh
  have key := hT (rPr p l e room_1 s m #[Value.ref b] below meth c (lw_Z below #[Value.ref b] s) 4 (dC, dI) cA s.heap.size 70 0 (rRo L xs) ad) (rclose X (rsound l (dC, dI) cA s.heap.size (rRo L xs) 1000) hok hrt hSt.1 pgm_void hret)
  have hl := lv_entry ([Value.ref b] : List Value) (n := 4) (Nat.le_of_ble_eq_true rfl)
  rw [lg_entry_eq]
  have hnil : rws ad cA ([] : rH) = [] := rfl
  have hP0 : va_P (dC, dI) rCl (rws ad cA ([] : rH)) s.heap := by rw [hnil]; exact fun k q h => by simp at h
  have hD0 : va_D (rAA s.heap.size) (rws ad cA ([] : rH)) := by rw [hnil]; exact ⟨fun i j p q h => by simp at h, fun k q h => by simp at h⟩
  refine key ad s.heap [] _ ⟨hP0, hD0, va_S.rf, hSt⟩ ⟨fun _ => rfl, fun _ _ => rfl, Nat.le_refl _⟩ ?_ rfl
  have e5 : rprs ad 0 [.ref 1000004, .null, .null, .null] = [(0, Value.ref b)] := by
    show [(0, Value.ref (ad 1000004))] = _
    rw [d4]
  rw [show ((0, [.ref 1000004, .null, .null, .null], [], [], 0, 0) : rK).2.1 = [.ref 1000004, .null, .null, .null] from rfl, e5]
  exact hl
end
section
theorem law_pure (L : Nat) (xs : Nat → Int32) (hL : L ≤ 2048) : rT (rRo L xs) (rM (rRo L xs) 1000) tb_L_law 70 94894 (fun v _ => v = some (.int 1)) (0, [.ref 1000004, .null, .null, .null], [], [], 0, 0) := sorry
theorem whole_start {p : Program} {e : Env} {s : State} {m : MethodId} {below : List Frame} {meth : Method} {c : Code} (l : Launch) {b L : Nat} {xs : Nat → Int32} (hL : L ≤ 2048) (C0 : lw_At p s m meth c b L xs) : W p l e room_1 s m #[Value.ref b] below meth c s.heap [] 0 0 (lw_Z below #[Value.ref b] s) (entryFrame m ([Value.ref b] : List Value).toArray 4) := whole_of l C0 (law_pure L xs hL)
set_option maxHeartbeats 4000000 in
theorem lw_walk (l : Launch) (b : Addr) (xs : List Int32) : MetFree l x (headSpec (Jvm.Cond.code x code maxLocals ret :: tables_1) room_1) (lw_P b xs) (fun _ _ _ _ _ => True) lw_Q := by
  refine MetFree.of_bodyS (code := code) (maxLocals := maxLocals) (ret := ret) (by decide) ?_ ?_
  · intro args s m h hn
    obtain ⟨meth, c, h1, h2, h3, h4, h5, h6, -, -⟩ := Cond.code_spec hn (atoms_spec (ws := Jvm.Cond.code x code maxLocals ret :: tables_1) h _ List.mem_cons_self)
    exact ⟨meth, c, h1, h2, h3, h4, h5, h6⟩
  · intro p e s m args below meth c s₁ B hml0 hP _
    obtain ⟨rfl, hx, hbd, hgv⟩ := hP
    obtain ⟨scr, harrAt, hlist, hof, hsmall⟩ := hx
    obtain ⟨hcb, hkn, -, -⟩ := State.arrayAt?_spec harrAt
    have hown : s.vm.findClass R_law = some m.cls := findClass_of_methodNamed B.named
    have hts0 : ∀ c ∈ (Jvm.Cond.code x code maxLocals ret :: tables_1), c.before #[Value.ref b] s = true := atoms_spec (ws := Jvm.Cond.code x code maxLocals ret :: tables_1) B.pre
    have hts : ∀ w ∈ lw_tbl, w.before #[Value.ref b] s = true := k2_hts_sels lw_privs (fun w hw => hts0 w (List.mem_cons_of_mem _ hw)) lw_privs_ok
    have hml : c.maxLocals = 4 := B.maxLocals_eq (hts0 _ List.mem_cons_self)
    have X₀ : Stand p l e room_1 s m #[Value.ref b] below meth c s₁ [] 0 0 := Stand.of_body B
    have hh0 : s₁.heap = s.heap := by rw [B.state]; rfl
    have hsz : scr.slots.size = xs.length := by rw [← Array.length_toList, hlist, List.length_map]
    have hval : ∀ j : Nat, j < xs.length → scr.slots[j]? = some (.int (xs.getD j 0)) := fun j hj => by
      rw [← Array.getElem?_toList, hlist]
      simp [hj]
    have hbl : b < s.heap.size := (Array.getElem?_eq_some_iff.mp hcb).1
    have hX : va_X b xs.length (fun j => xs.getD j 0) s s.heap := ⟨scr, hcb, hof, hkn, hsz, hval⟩
    have K : W p l e room_1 s m #[Value.ref b] below meth c s₁.heap [] 0 0 (lw_Z below #[Value.ref b] s) (entryFrame m ([Value.ref b] : List Value).toArray 4) := by
      rw [hh0]
      exact whole_start l hbd ⟨B.exec, B.bytes, B.returns, hml, hown, hts, hX, hbl, B.notSynchronized, hgv⟩
    obtain ⟨t, a1, o, b1, b2, b3⟩ := K s₁ rfl X₀
    exact ⟨t, o, a1, b1, b2, b3⟩
theorem lw_pre_spec {args : Array Value} {s : State} (h : (Jvm.Cond.and given_1 narrow_1).before args s = true) (hr : rest_1_c.before args s = true) : ∃ (b : Addr) (xs : List Int32), lw_P b xs args s := by
  have hs := flat_of_before _ h
  have hq := flat_of_before _ hr
  have hc : (Cond.count 1).before args s = true := hs _ (by decide +kernel)
  have harr : (Cond.arrayOf (.arg 0) .int).before args s = true := hs _ (by decide +kernel)
  have hle : (Cond.le (.length (.arg 0)) (.int 2048)).before args s = true := hs _ (by decide +kernel)
  have hlen : (Cond.isInt (.length (.arg 0))).before args s = true := hq _ (by decide +kernel)
  have hall : (Cond.all (.arg 0) (.isInt (.elem (.arg 0) (.index 0)))).before args s = true := hq _ (by decide +kernel)
  obtain ⟨b, xs, hb, hx⟩ := State.ints_of_pre rfl harr hlen hall
  have hsm : xs.length < 2 ^ 31 := hx.choose_spec.2.2.2
  have hev : (Term.length (.arg 0)).eval args s none [] s = some (.int xs.length.toInt32) := hx.length_eval hb
  have hv := Cond.le_ints hev (show (Term.int 2048).eval args s none [] s = some (.int 2048) from rfl)
  have hd : xs.length.toInt32 ≤ 2048 := by
    simpa [Cond.before, Cond.holds, hv] using hle
  have hN : xs.length ≤ 2048 := (Int32.ofNat_le_ofNat hsm (by decide)).mp (show Int32.ofNat xs.length ≤ Int32.ofNat 2048 from hd)
  exact ⟨b, xs, Cond.one_arg hc (show args[0]? = some (.ref b) from hb), hx, hN, h⟩
theorem lw_comes (l : Launch) : Comes l x (Jvm.Cond.code x code maxLocals ret :: tables_1) room_1 (fun tb e args s => Calls_1 tb e args s ∧ rest_1 tb e args s ∧ Pre_1 tb e args s)
    (fun _ _ args s o t => lw_Q args s o t) := by
  intro p e ha hc hk s m args below hf hfit hheap happ hpre
  obtain ⟨b, xs, hP⟩ := lw_pre_spec hpre.2.2 hpre.2.1
  obtain ⟨k, o, h1, h2, h3, hQ⟩ := lw_walk l b xs p e ha hc hk s m args below hf ((Spec.applies_iff_loose hf).mp happ).1 hP trivial
  exact ⟨k, o, h1, h2, h3, hQ⟩
theorem lw_frame {s t : State} {o : Outcome} {args : Array Value} (h : Framed s o t [] 600000 7302250) :
    Framed s o t (fieldLocs frame_1_writes args s ++ arrayLocs frame_1_arrays args s ++ staticLocs frame_1_statics s) 600000 7302250 := h
theorem lw_limb (L : Cond) (hL : ∀ (args : Array Value) (s t : State), L.after args s (.returned (some (.int 1))) t = true) :
    ArmFor flags0 classFile x code maxLocals ret World_1 tables_1 room_1 Calls_1 rest_1 Pre_1
      (fun tb e a s o t => postC L tb e a s o t ∧ Framed s o t (fieldLocs frame_1_writes a s ++ arrayLocs frame_1_arrays a s ++ staticLocs frame_1_statics s) 600000 7302250) := by
  intro l _ _ _ p e ha hc hk s m args below hf hfit hheap happ hpre
  obtain ⟨k, o, h1, h2, h3, rfl, hF⟩ := lw_comes l p e ha hc hk s m args below hf hfit hheap happ hpre
  exact ⟨k, _, h1, h2, h3, hL args s _, lw_frame hF⟩
theorem i_vc : Claimed_1_1 ∧ Claimed_1_2 := ⟨lw_limb limb_1_1 (fun args s t => by simp [limb_1_1, Cond.after, Cond.holds, Cond.value]), lw_limb limb_1_2 (fun args s t => Cond.after_iff.mpr (by
  first | (rw [show limb_1_2 = Cond.eq .result (.int 1) from rfl, Cond.eq_ints (x := 1) (y := 1) rfl rfl]; simp; done) | (simp [limb_1_2, Cond.value, Term.eval]; done)))⟩
end
