section
-- ===== PART A: goes FIRST, ahead of the names: the tables' words, and 'selects' of the private methods out of them =====
/-- a private method of a class that the tables say can be made, by its rows of tables_1 -/
def lw_okq (q : MethodName × Nat) : Prop := (q.1.cls ≠ "java/lang/invoke/MethodHandle" ∧ q.1.cls ≠ "java/lang/invoke/VarHandle") ∧ Cond.instantiable q.1.cls q.2 ∈ tables_1 ∧ Cond.privateMethod q.1 ∈ tables_1 ∧ Cond.instanceMethod q.1 ∈ tables_1
theorem lw_p0 : lw_okq (⟨"AlertEngine$Setup", "sortLabels", "()V"⟩, 8) := ⟨⟨by decide +kernel, by decide +kernel⟩, List.mem_of_getElem? (i := 56) (by decide +kernel), List.mem_of_getElem? (i := 68) (by decide +kernel), List.mem_of_getElem? (i := 69) (by decide +kernel)⟩
theorem lw_p1 : lw_okq (⟨"AlertEngine$Tape", "startsRuleSign", "()Z"⟩, 4) := ⟨⟨by decide +kernel, by decide +kernel⟩, List.mem_of_getElem? (i := 27) (by decide +kernel), List.mem_of_getElem? (i := 273) (by decide +kernel), List.mem_of_getElem? (i := 274) (by decide +kernel)⟩
theorem lw_p2 : lw_okq (⟨"AlertEngine$Tape", "peek", "()I"⟩, 4) := ⟨⟨by decide +kernel, by decide +kernel⟩, List.mem_of_getElem? (i := 27) (by decide +kernel), List.mem_of_getElem? (i := 277) (by decide +kernel), List.mem_of_getElem? (i := 278) (by decide +kernel)⟩
theorem lw_p3 : lw_okq (⟨"AlertEngine$Tape", "readMatchersAhead", "()LAlertEngine$Matchers;"⟩, 4) := ⟨⟨by decide +kernel, by decide +kernel⟩, List.mem_of_getElem? (i := 27) (by decide +kernel), List.mem_of_getElem? (i := 302) (by decide +kernel), List.mem_of_getElem? (i := 303) (by decide +kernel)⟩
theorem lw_p4 : lw_okq (⟨"AlertEngine$Tape", "readMatchers", "(Z)LAlertEngine$Matchers;"⟩, 4) := ⟨⟨by decide +kernel, by decide +kernel⟩, List.mem_of_getElem? (i := 27) (by decide +kernel), List.mem_of_getElem? (i := 306) (by decide +kernel), List.mem_of_getElem? (i := 307) (by decide +kernel)⟩
theorem lw_p5 : lw_okq (⟨"AlertEngine$Tape", "readMatcher", "(LAlertEngine$Matchers;Z)V"⟩, 4) := ⟨⟨by decide +kernel, by decide +kernel⟩, List.mem_of_getElem? (i := 27) (by decide +kernel), List.mem_of_getElem? (i := 310) (by decide +kernel), List.mem_of_getElem? (i := 311) (by decide +kernel)⟩
theorem lw_p6 : lw_okq (⟨"AlertEngine$Tape", "skip", "(I)Z"⟩, 4) := ⟨⟨by decide +kernel, by decide +kernel⟩, List.mem_of_getElem? (i := 27) (by decide +kernel), List.mem_of_getElem? (i := 314) (by decide +kernel), List.mem_of_getElem? (i := 315) (by decide +kernel)⟩
theorem lw_p7 : lw_okq (⟨"AlertEngine$Tape", "readDigit", "(I)I"⟩, 4) := ⟨⟨by decide +kernel, by decide +kernel⟩, List.mem_of_getElem? (i := 27) (by decide +kernel), List.mem_of_getElem? (i := 322) (by decide +kernel), List.mem_of_getElem? (i := 323) (by decide +kernel)⟩
theorem lw_p8 : lw_okq (⟨"AlertEngine$Tape", "expect", "(I)V"⟩, 4) := ⟨⟨by decide +kernel, by decide +kernel⟩, List.mem_of_getElem? (i := 27) (by decide +kernel), List.mem_of_getElem? (i := 327) (by decide +kernel), List.mem_of_getElem? (i := 328) (by decide +kernel)⟩
theorem lw_p9 : lw_okq (⟨"AlertEngine$Tape", "readNumber", "()I"⟩, 4) := ⟨⟨by decide +kernel, by decide +kernel⟩, List.mem_of_getElem? (i := 27) (by decide +kernel), List.mem_of_getElem? (i := 331) (by decide +kernel), List.mem_of_getElem? (i := 332) (by decide +kernel)⟩
theorem lw_p10 : lw_okq (⟨"AlertEngine$Tape", "expectEnd", "()V"⟩, 4) := ⟨⟨by decide +kernel, by decide +kernel⟩, List.mem_of_getElem? (i := 27) (by decide +kernel), List.mem_of_getElem? (i := 335) (by decide +kernel), List.mem_of_getElem? (i := 336) (by decide +kernel)⟩
theorem lw_p11 : lw_okq (⟨"AlertEngine$Setup", "acceptedSeries", "(LAlertEngine$Rule;)J"⟩, 8) := ⟨⟨by decide +kernel, by decide +kernel⟩, List.mem_of_getElem? (i := 56) (by decide +kernel), List.mem_of_getElem? (i := 467) (by decide +kernel), List.mem_of_getElem? (i := 468) (by decide +kernel)⟩
theorem lw_p12 : lw_okq (⟨"AlertEngine$AlertStates", "rise", "(III)V"⟩, 5) := ⟨⟨by decide +kernel, by decide +kernel⟩, List.mem_of_getElem? (i := 113) (by decide +kernel), List.mem_of_getElem? (i := 492) (by decide +kernel), List.mem_of_getElem? (i := 493) (by decide +kernel)⟩
theorem lw_p13 : lw_okq (⟨"AlertEngine$AlertStates", "remember", "(II)V"⟩, 5) := ⟨⟨by decide +kernel, by decide +kernel⟩, List.mem_of_getElem? (i := 113) (by decide +kernel), List.mem_of_getElem? (i := 500) (by decide +kernel), List.mem_of_getElem? (i := 501) (by decide +kernel)⟩
theorem lw_p14 : lw_okq (⟨"AlertEngine$AlertStates", "settle", "(II)V"⟩, 5) := ⟨⟨by decide +kernel, by decide +kernel⟩, List.mem_of_getElem? (i := 113) (by decide +kernel), List.mem_of_getElem? (i := 504) (by decide +kernel), List.mem_of_getElem? (i := 505) (by decide +kernel)⟩
theorem lw_p15 : lw_okq (⟨"AlertEngine$State", "silencedBy", "(I)J"⟩, 5) := ⟨⟨by decide +kernel, by decide +kernel⟩, List.mem_of_getElem? (i := 50) (by decide +kernel), List.mem_of_getElem? (i := 516) (by decide +kernel), List.mem_of_getElem? (i := 517) (by decide +kernel)⟩
def lw_privs_1 : List (MethodName × Nat) := [(⟨"AlertEngine$Setup", "sortLabels", "()V"⟩, 8), (⟨"AlertEngine$Tape", "startsRuleSign", "()Z"⟩, 4), (⟨"AlertEngine$Tape", "peek", "()I"⟩, 4), (⟨"AlertEngine$Tape", "readMatchersAhead", "()LAlertEngine$Matchers;"⟩, 4), (⟨"AlertEngine$Tape", "readMatchers", "(Z)LAlertEngine$Matchers;"⟩, 4), (⟨"AlertEngine$Tape", "readMatcher", "(LAlertEngine$Matchers;Z)V"⟩, 4), (⟨"AlertEngine$Tape", "skip", "(I)Z"⟩, 4), (⟨"AlertEngine$Tape", "readDigit", "(I)I"⟩, 4), (⟨"AlertEngine$Tape", "expect", "(I)V"⟩, 4), (⟨"AlertEngine$Tape", "readNumber", "()I"⟩, 4), (⟨"AlertEngine$Tape", "expectEnd", "()V"⟩, 4), (⟨"AlertEngine$Setup", "acceptedSeries", "(LAlertEngine$Rule;)J"⟩, 8), (⟨"AlertEngine$AlertStates", "rise", "(III)V"⟩, 5), (⟨"AlertEngine$AlertStates", "remember", "(II)V"⟩, 5), (⟨"AlertEngine$AlertStates", "settle", "(II)V"⟩, 5), (⟨"AlertEngine$State", "silencedBy", "(I)J"⟩, 5)]
theorem lw_r1 : ∀ q ∈ lw_privs_1, lw_okq q := List.forall_mem_cons.mpr ⟨lw_p0, List.forall_mem_cons.mpr ⟨lw_p1, List.forall_mem_cons.mpr ⟨lw_p2, List.forall_mem_cons.mpr ⟨lw_p3, List.forall_mem_cons.mpr ⟨lw_p4, List.forall_mem_cons.mpr ⟨lw_p5, List.forall_mem_cons.mpr ⟨lw_p6, List.forall_mem_cons.mpr ⟨lw_p7, List.forall_mem_cons.mpr ⟨lw_p8, List.forall_mem_cons.mpr ⟨lw_p9, List.forall_mem_cons.mpr ⟨lw_p10, List.forall_mem_cons.mpr ⟨lw_p11, List.forall_mem_cons.mpr ⟨lw_p12, List.forall_mem_cons.mpr ⟨lw_p13, List.forall_mem_cons.mpr ⟨lw_p14, List.forall_mem_cons.mpr ⟨lw_p15, fun _ h => absurd h List.not_mem_nil⟩⟩⟩⟩⟩⟩⟩⟩⟩⟩⟩⟩⟩⟩⟩⟩
theorem lw_p16 : lw_okq (⟨"AlertEngine$State", "inhibitedBy", "(LAlertEngine$Inhibition;)J"⟩, 5) := ⟨⟨by decide +kernel, by decide +kernel⟩, List.mem_of_getElem? (i := 50) (by decide +kernel), List.mem_of_getElem? (i := 530) (by decide +kernel), List.mem_of_getElem? (i := 531) (by decide +kernel)⟩
theorem lw_p17 : lw_okq (⟨"AlertEngine$State", "sendGroup", "(II)V"⟩, 5) := ⟨⟨by decide +kernel, by decide +kernel⟩, List.mem_of_getElem? (i := 50) (by decide +kernel), List.mem_of_getElem? (i := 580) (by decide +kernel), List.mem_of_getElem? (i := 581) (by decide +kernel)⟩
theorem lw_p18 : lw_okq (⟨"AlertEngine", "parameterOrNone", "(I)I"⟩, 5) := ⟨⟨by decide +kernel, by decide +kernel⟩, List.mem_of_getElem? (i := 19) (by decide +kernel), List.mem_of_getElem? (i := 745) (by decide +kernel), List.mem_of_getElem? (i := 746) (by decide +kernel)⟩
theorem lw_p19 : lw_okq (⟨"AlertEngineModel", "many", "(I)I"⟩, 12) := ⟨⟨by decide +kernel, by decide +kernel⟩, List.mem_of_getElem? (i := 749) (by decide +kernel), List.mem_of_getElem? (i := 815) (by decide +kernel), List.mem_of_getElem? (i := 816) (by decide +kernel)⟩
theorem lw_p20 : lw_okq (⟨"AlertEngineModel", "isOne", "(II)Z"⟩, 12) := ⟨⟨by decide +kernel, by decide +kernel⟩, List.mem_of_getElem? (i := 749) (by decide +kernel), List.mem_of_getElem? (i := 822) (by decide +kernel), List.mem_of_getElem? (i := 823) (by decide +kernel)⟩
theorem lw_p21 : lw_okq (⟨"AlertEngineModel", "rule", "()V"⟩, 12) := ⟨⟨by decide +kernel, by decide +kernel⟩, List.mem_of_getElem? (i := 749) (by decide +kernel), List.mem_of_getElem? (i := 832) (by decide +kernel), List.mem_of_getElem? (i := 833) (by decide +kernel)⟩
theorem lw_p22 : lw_okq (⟨"AlertEngineModel", "here", "()I"⟩, 12) := ⟨⟨by decide +kernel, by decide +kernel⟩, List.mem_of_getElem? (i := 749) (by decide +kernel), List.mem_of_getElem? (i := 836) (by decide +kernel), List.mem_of_getElem? (i := 837) (by decide +kernel)⟩
theorem lw_p23 : lw_okq (⟨"AlertEngineModel", "matchers", "(IZ)V"⟩, 12) := ⟨⟨by decide +kernel, by decide +kernel⟩, List.mem_of_getElem? (i := 749) (by decide +kernel), List.mem_of_getElem? (i := 840) (by decide +kernel), List.mem_of_getElem? (i := 841) (by decide +kernel)⟩
theorem lw_p24 : lw_okq (⟨"AlertEngineModel", "matcher", "(Z)I"⟩, 12) := ⟨⟨by decide +kernel, by decide +kernel⟩, List.mem_of_getElem? (i := 749) (by decide +kernel), List.mem_of_getElem? (i := 844) (by decide +kernel), List.mem_of_getElem? (i := 845) (by decide +kernel)⟩
theorem lw_p25 : lw_okq (⟨"AlertEngineModel", "digit", "(I)I"⟩, 12) := ⟨⟨by decide +kernel, by decide +kernel⟩, List.mem_of_getElem? (i := 749) (by decide +kernel), List.mem_of_getElem? (i := 848) (by decide +kernel), List.mem_of_getElem? (i := 849) (by decide +kernel)⟩
theorem lw_p26 : lw_okq (⟨"AlertEngineModel", "sign", "(I)V"⟩, 12) := ⟨⟨by decide +kernel, by decide +kernel⟩, List.mem_of_getElem? (i := 749) (by decide +kernel), List.mem_of_getElem? (i := 852) (by decide +kernel), List.mem_of_getElem? (i := 853) (by decide +kernel)⟩
theorem lw_p27 : lw_okq (⟨"AlertEngineModel", "number", "()I"⟩, 12) := ⟨⟨by decide +kernel, by decide +kernel⟩, List.mem_of_getElem? (i := 749) (by decide +kernel), List.mem_of_getElem? (i := 856) (by decide +kernel), List.mem_of_getElem? (i := 857) (by decide +kernel)⟩
theorem lw_p28 : lw_okq (⟨"AlertEngineModel", "silence", "()V"⟩, 12) := ⟨⟨by decide +kernel, by decide +kernel⟩, List.mem_of_getElem? (i := 749) (by decide +kernel), List.mem_of_getElem? (i := 860) (by decide +kernel), List.mem_of_getElem? (i := 861) (by decide +kernel)⟩
theorem lw_p29 : lw_okq (⟨"AlertEngineModel", "inhibition", "()V"⟩, 12) := ⟨⟨by decide +kernel, by decide +kernel⟩, List.mem_of_getElem? (i := 749) (by decide +kernel), List.mem_of_getElem? (i := 864) (by decide +kernel), List.mem_of_getElem? (i := 865) (by decide +kernel)⟩
theorem lw_p30 : lw_okq (⟨"AlertEngineModel", "step", "()I"⟩, 12) := ⟨⟨by decide +kernel, by decide +kernel⟩, List.mem_of_getElem? (i := 749) (by decide +kernel), List.mem_of_getElem? (i := 881) (by decide +kernel), List.mem_of_getElem? (i := 882) (by decide +kernel)⟩
theorem lw_p31 : lw_okq (⟨"AlertEngineModel", "goesOn", "(I)V"⟩, 12) := ⟨⟨by decide +kernel, by decide +kernel⟩, List.mem_of_getElem? (i := 749) (by decide +kernel), List.mem_of_getElem? (i := 885) (by decide +kernel), List.mem_of_getElem? (i := 886) (by decide +kernel)⟩
def lw_privs_2 : List (MethodName × Nat) := [(⟨"AlertEngine$State", "inhibitedBy", "(LAlertEngine$Inhibition;)J"⟩, 5), (⟨"AlertEngine$State", "sendGroup", "(II)V"⟩, 5), (⟨"AlertEngine", "parameterOrNone", "(I)I"⟩, 5), (⟨"AlertEngineModel", "many", "(I)I"⟩, 12), (⟨"AlertEngineModel", "isOne", "(II)Z"⟩, 12), (⟨"AlertEngineModel", "rule", "()V"⟩, 12), (⟨"AlertEngineModel", "here", "()I"⟩, 12), (⟨"AlertEngineModel", "matchers", "(IZ)V"⟩, 12), (⟨"AlertEngineModel", "matcher", "(Z)I"⟩, 12), (⟨"AlertEngineModel", "digit", "(I)I"⟩, 12), (⟨"AlertEngineModel", "sign", "(I)V"⟩, 12), (⟨"AlertEngineModel", "number", "()I"⟩, 12), (⟨"AlertEngineModel", "silence", "()V"⟩, 12), (⟨"AlertEngineModel", "inhibition", "()V"⟩, 12), (⟨"AlertEngineModel", "step", "()I"⟩, 12), (⟨"AlertEngineModel", "goesOn", "(I)V"⟩, 12)]
theorem lw_r2 : ∀ q ∈ lw_privs_2, lw_okq q := List.forall_mem_cons.mpr ⟨lw_p16, List.forall_mem_cons.mpr ⟨lw_p17, List.forall_mem_cons.mpr ⟨lw_p18, List.forall_mem_cons.mpr ⟨lw_p19, List.forall_mem_cons.mpr ⟨lw_p20, List.forall_mem_cons.mpr ⟨lw_p21, List.forall_mem_cons.mpr ⟨lw_p22, List.forall_mem_cons.mpr ⟨lw_p23, List.forall_mem_cons.mpr ⟨lw_p24, List.forall_mem_cons.mpr ⟨lw_p25, List.forall_mem_cons.mpr ⟨lw_p26, List.forall_mem_cons.mpr ⟨lw_p27, List.forall_mem_cons.mpr ⟨lw_p28, List.forall_mem_cons.mpr ⟨lw_p29, List.forall_mem_cons.mpr ⟨lw_p30, List.forall_mem_cons.mpr ⟨lw_p31, fun _ h => absurd h List.not_mem_nil⟩⟩⟩⟩⟩⟩⟩⟩⟩⟩⟩⟩⟩⟩⟩⟩
theorem lw_p32 : lw_okq (⟨"AlertEngineModel", "holds", "(I)Z"⟩, 12) := ⟨⟨by decide +kernel, by decide +kernel⟩, List.mem_of_getElem? (i := 749) (by decide +kernel), List.mem_of_getElem? (i := 889) (by decide +kernel), List.mem_of_getElem? (i := 890) (by decide +kernel)⟩
theorem lw_p33 : lw_okq (⟨"AlertEngineModel", "matches", "(II)Z"⟩, 12) := ⟨⟨by decide +kernel, by decide +kernel⟩, List.mem_of_getElem? (i := 749) (by decide +kernel), List.mem_of_getElem? (i := 893) (by decide +kernel), List.mem_of_getElem? (i := 894) (by decide +kernel)⟩
theorem lw_p34 : lw_okq (⟨"AlertEngineModel", "turns", "(I)V"⟩, 12) := ⟨⟨by decide +kernel, by decide +kernel⟩, List.mem_of_getElem? (i := 749) (by decide +kernel), List.mem_of_getElem? (i := 897) (by decide +kernel), List.mem_of_getElem? (i := 898) (by decide +kernel)⟩
theorem lw_p35 : lw_okq (⟨"AlertEngineModel", "actives", "()J"⟩, 12) := ⟨⟨by decide +kernel, by decide +kernel⟩, List.mem_of_getElem? (i := 749) (by decide +kernel), List.mem_of_getElem? (i := 901) (by decide +kernel), List.mem_of_getElem? (i := 902) (by decide +kernel)⟩
theorem lw_p36 : lw_okq (⟨"AlertEngineModel", "isActive", "(I)Z"⟩, 12) := ⟨⟨by decide +kernel, by decide +kernel⟩, List.mem_of_getElem? (i := 749) (by decide +kernel), List.mem_of_getElem? (i := 905) (by decide +kernel), List.mem_of_getElem? (i := 906) (by decide +kernel)⟩
theorem lw_p37 : lw_okq (⟨"AlertEngineModel", "state", "(I)I"⟩, 12) := ⟨⟨by decide +kernel, by decide +kernel⟩, List.mem_of_getElem? (i := 749) (by decide +kernel), List.mem_of_getElem? (i := 909) (by decide +kernel), List.mem_of_getElem? (i := 910) (by decide +kernel)⟩
theorem lw_p38 : lw_okq (⟨"AlertEngineModel", "silenceOf", "(I)I"⟩, 12) := ⟨⟨by decide +kernel, by decide +kernel⟩, List.mem_of_getElem? (i := 749) (by decide +kernel), List.mem_of_getElem? (i := 913) (by decide +kernel), List.mem_of_getElem? (i := 914) (by decide +kernel)⟩
theorem lw_p39 : lw_okq (⟨"AlertEngineModel", "isSilencedBy", "(II)Z"⟩, 12) := ⟨⟨by decide +kernel, by decide +kernel⟩, List.mem_of_getElem? (i := 749) (by decide +kernel), List.mem_of_getElem? (i := 917) (by decide +kernel), List.mem_of_getElem? (i := 918) (by decide +kernel)⟩
theorem lw_p40 : lw_okq (⟨"AlertEngineModel", "isFlapping", "(I)Z"⟩, 12) := ⟨⟨by decide +kernel, by decide +kernel⟩, List.mem_of_getElem? (i := 749) (by decide +kernel), List.mem_of_getElem? (i := 921) (by decide +kernel), List.mem_of_getElem? (i := 922) (by decide +kernel)⟩
theorem lw_p41 : lw_okq (⟨"AlertEngineModel", "flaps", "(I)I"⟩, 12) := ⟨⟨by decide +kernel, by decide +kernel⟩, List.mem_of_getElem? (i := 749) (by decide +kernel), List.mem_of_getElem? (i := 925) (by decide +kernel), List.mem_of_getElem? (i := 926) (by decide +kernel)⟩
theorem lw_p42 : lw_okq (⟨"AlertEngineModel", "inhibitorOf", "(I)I"⟩, 12) := ⟨⟨by decide +kernel, by decide +kernel⟩, List.mem_of_getElem? (i := 749) (by decide +kernel), List.mem_of_getElem? (i := 929) (by decide +kernel), List.mem_of_getElem? (i := 930) (by decide +kernel)⟩
theorem lw_p43 : lw_okq (⟨"AlertEngineModel", "isInhibitedBy", "(II)Z"⟩, 12) := ⟨⟨by decide +kernel, by decide +kernel⟩, List.mem_of_getElem? (i := 749) (by decide +kernel), List.mem_of_getElem? (i := 933) (by decide +kernel), List.mem_of_getElem? (i := 934) (by decide +kernel)⟩
theorem lw_p44 : lw_okq (⟨"AlertEngineModel", "withKey", "(JI)J"⟩, 12) := ⟨⟨by decide +kernel, by decide +kernel⟩, List.mem_of_getElem? (i := 749) (by decide +kernel), List.mem_of_getElem? (i := 937) (by decide +kernel), List.mem_of_getElem? (i := 938) (by decide +kernel)⟩
theorem lw_p45 : lw_okq (⟨"AlertEngineModel", "keyOf", "(I)I"⟩, 12) := ⟨⟨by decide +kernel, by decide +kernel⟩, List.mem_of_getElem? (i := 749) (by decide +kernel), List.mem_of_getElem? (i := 941) (by decide +kernel), List.mem_of_getElem? (i := 942) (by decide +kernel)⟩
theorem lw_p46 : lw_okq (⟨"AlertEngineModel", "sends", "(IIJ)V"⟩, 12) := ⟨⟨by decide +kernel, by decide +kernel⟩, List.mem_of_getElem? (i := 749) (by decide +kernel), List.mem_of_getElem? (i := 945) (by decide +kernel), List.mem_of_getElem? (i := 946) (by decide +kernel)⟩
theorem lw_p47 : lw_okq (⟨"AlertEngineModel", "greatest", "(J)I"⟩, 12) := ⟨⟨by decide +kernel, by decide +kernel⟩, List.mem_of_getElem? (i := 749) (by decide +kernel), List.mem_of_getElem? (i := 952) (by decide +kernel), List.mem_of_getElem? (i := 953) (by decide +kernel)⟩
def lw_privs_3 : List (MethodName × Nat) := [(⟨"AlertEngineModel", "holds", "(I)Z"⟩, 12), (⟨"AlertEngineModel", "matches", "(II)Z"⟩, 12), (⟨"AlertEngineModel", "turns", "(I)V"⟩, 12), (⟨"AlertEngineModel", "actives", "()J"⟩, 12), (⟨"AlertEngineModel", "isActive", "(I)Z"⟩, 12), (⟨"AlertEngineModel", "state", "(I)I"⟩, 12), (⟨"AlertEngineModel", "silenceOf", "(I)I"⟩, 12), (⟨"AlertEngineModel", "isSilencedBy", "(II)Z"⟩, 12), (⟨"AlertEngineModel", "isFlapping", "(I)Z"⟩, 12), (⟨"AlertEngineModel", "flaps", "(I)I"⟩, 12), (⟨"AlertEngineModel", "inhibitorOf", "(I)I"⟩, 12), (⟨"AlertEngineModel", "isInhibitedBy", "(II)Z"⟩, 12), (⟨"AlertEngineModel", "withKey", "(JI)J"⟩, 12), (⟨"AlertEngineModel", "keyOf", "(I)I"⟩, 12), (⟨"AlertEngineModel", "sends", "(IIJ)V"⟩, 12), (⟨"AlertEngineModel", "greatest", "(J)I"⟩, 12)]
theorem lw_r3 : ∀ q ∈ lw_privs_3, lw_okq q := List.forall_mem_cons.mpr ⟨lw_p32, List.forall_mem_cons.mpr ⟨lw_p33, List.forall_mem_cons.mpr ⟨lw_p34, List.forall_mem_cons.mpr ⟨lw_p35, List.forall_mem_cons.mpr ⟨lw_p36, List.forall_mem_cons.mpr ⟨lw_p37, List.forall_mem_cons.mpr ⟨lw_p38, List.forall_mem_cons.mpr ⟨lw_p39, List.forall_mem_cons.mpr ⟨lw_p40, List.forall_mem_cons.mpr ⟨lw_p41, List.forall_mem_cons.mpr ⟨lw_p42, List.forall_mem_cons.mpr ⟨lw_p43, List.forall_mem_cons.mpr ⟨lw_p44, List.forall_mem_cons.mpr ⟨lw_p45, List.forall_mem_cons.mpr ⟨lw_p46, List.forall_mem_cons.mpr ⟨lw_p47, fun _ h => absurd h List.not_mem_nil⟩⟩⟩⟩⟩⟩⟩⟩⟩⟩⟩⟩⟩⟩⟩⟩
theorem lw_p48 : lw_okq (⟨"AlertEngineModel", "severity", "(I)I"⟩, 12) := ⟨⟨by decide +kernel, by decide +kernel⟩, List.mem_of_getElem? (i := 749) (by decide +kernel), List.mem_of_getElem? (i := 956) (by decide +kernel), List.mem_of_getElem? (i := 957) (by decide +kernel)⟩
theorem lw_p49 : lw_okq (⟨"AlertEngineModel", "isOf", "(II)Z"⟩, 12) := ⟨⟨by decide +kernel, by decide +kernel⟩, List.mem_of_getElem? (i := 749) (by decide +kernel), List.mem_of_getElem? (i := 969) (by decide +kernel), List.mem_of_getElem? (i := 970) (by decide +kernel)⟩
theorem lw_p50 : lw_okq (⟨"AlertEngineModel", "later", "(I)I"⟩, 12) := ⟨⟨by decide +kernel, by decide +kernel⟩, List.mem_of_getElem? (i := 749) (by decide +kernel), List.mem_of_getElem? (i := 977) (by decide +kernel), List.mem_of_getElem? (i := 978) (by decide +kernel)⟩
theorem lw_p51 : lw_okq (⟨"AlertEngineModel", "looks", "(IZ)I"⟩, 12) := ⟨⟨by decide +kernel, by decide +kernel⟩, List.mem_of_getElem? (i := 749) (by decide +kernel), List.mem_of_getElem? (i := 993) (by decide +kernel), List.mem_of_getElem? (i := 994) (by decide +kernel)⟩
theorem lw_p52 : lw_okq (⟨"AlertEngineModel", "silencing", "()I"⟩, 12) := ⟨⟨by decide +kernel, by decide +kernel⟩, List.mem_of_getElem? (i := 749) (by decide +kernel), List.mem_of_getElem? (i := 1020) (by decide +kernel), List.mem_of_getElem? (i := 1021) (by decide +kernel)⟩
def lw_privs_4 : List (MethodName × Nat) := [(⟨"AlertEngineModel", "severity", "(I)I"⟩, 12), (⟨"AlertEngineModel", "isOf", "(II)Z"⟩, 12), (⟨"AlertEngineModel", "later", "(I)I"⟩, 12), (⟨"AlertEngineModel", "looks", "(IZ)I"⟩, 12), (⟨"AlertEngineModel", "silencing", "()I"⟩, 12)]
theorem lw_r4 : ∀ q ∈ lw_privs_4, lw_okq q := List.forall_mem_cons.mpr ⟨lw_p48, List.forall_mem_cons.mpr ⟨lw_p49, List.forall_mem_cons.mpr ⟨lw_p50, List.forall_mem_cons.mpr ⟨lw_p51, List.forall_mem_cons.mpr ⟨lw_p52, fun _ h => absurd h List.not_mem_nil⟩⟩⟩⟩⟩
def lw_privs : List (MethodName × Nat) := lw_privs_1 ++ (lw_privs_2 ++ (lw_privs_3 ++ (lw_privs_4)))
def lw_tbl : List Cond := k2_sels lw_privs ++ tables_1
theorem lw_privs_ok : ∀ q ∈ lw_privs, lw_okq q := by
  show ∀ q ∈ lw_privs_1 ++ (lw_privs_2 ++ (lw_privs_3 ++ (lw_privs_4))), lw_okq q
  exact List.forall_mem_append.mpr ⟨lw_r1, List.forall_mem_append.mpr ⟨lw_r2, List.forall_mem_append.mpr ⟨lw_r3, lw_r4⟩⟩⟩
-- ===== end of PART A; then your names; then what follows =====
end
section
def RX0 : String := "AlertEngine$AlertStates"
def TX0 : u_T := fun k => match k with
  | 0 => ("AlertEngine$AlertStates", "pending", "J", false)
  | 1 => ("AlertEngine$AlertStates", "firing", "J", false)
  | 2 => ("AlertEngine$AlertStates", "since", "[I", true)
  | 3 => ("AlertEngine$AlertStates", "transitions", "[I", true)
  | _ => ("AlertEngine$AlertStates", "transitionCount", "[I", true)
def tyX0 : Nat → FieldType := fun k => match k with
  | 0 => .long
  | 1 => .long
  | 2 => .array .int
  | 3 => .array .int
  | _ => .array .int
theorem nmX0 : ∀ a, a < 5 → ∀ b, b < 5 → a ≠ b → (TX0 a).2.1 ≠ (TX0 b).2.1 := by decide +kernel
theorem tyX0_ok : ∀ k, k < 5 → parseFieldDescriptor (TX0 k).2.2.1 = some (tyX0 k) := by decide +kernel
abbrev cX0_init : ByteArray := prog_2_method_1_code
def yX0_init : MethodName := ⟨RX0, "<init>", "()V"⟩
abbrev cX0_copyFrom : ByteArray := prog_2_method_2_code
def yX0_copyFrom : MethodName := ⟨RX0, "copyFrom", "(LAlertEngine$AlertStates;)V"⟩
abbrev cX0_stateOf : ByteArray := prog_2_method_3_code
def yX0_stateOf : MethodName := ⟨RX0, "stateOf", "(I)I"⟩
abbrev cX0_sinceOf : ByteArray := prog_2_method_4_code
def yX0_sinceOf : MethodName := ⟨RX0, "sinceOf", "(I)I"⟩
abbrev cX0_advance : ByteArray := prog_2_method_5_code
def yX0_advance : MethodName := ⟨RX0, "advance", "(IJLAlertEngine$Setup;)V"⟩
abbrev cX0_rise : ByteArray := prog_2_method_6_code
def yX0_rise : MethodName := ⟨RX0, "rise", "(III)V"⟩
abbrev cX0_settle : ByteArray := prog_2_method_7_code
def yX0_settle : MethodName := ⟨RX0, "settle", "(II)V"⟩
abbrev cX0_remember : ByteArray := prog_2_method_8_code
def yX0_remember : MethodName := ⟨RX0, "remember", "(II)V"⟩
abbrev cX0_transitionsAfter : ByteArray := prog_2_method_9_code
def yX0_transitionsAfter : MethodName := ⟨RX0, "transitionsAfter", "(II)I"⟩
abbrev cX0_flapping : ByteArray := prog_2_method_10_code
def yX0_flapping : MethodName := ⟨RX0, "flapping", "(JII)J"⟩
abbrev cX0_forgetRule : ByteArray := prog_2_method_11_code
def yX0_forgetRule : MethodName := ⟨RX0, "forgetRule", "(I)V"⟩
def RX1 : String := "AlertEngine$Entry"
def TX1 : u_T := fun k => match k with
  | _ => ("", "", "", false)
def tyX1 : Nat → FieldType := fun k => match k with
  | _ => .int
theorem nmX1 : ∀ a, a < 0 → ∀ b, b < 0 → a ≠ b → (TX1 a).2.1 ≠ (TX1 b).2.1 := by decide +kernel
theorem tyX1_ok : ∀ k, k < 0 → parseFieldDescriptor (TX1 k).2.2.1 = some (tyX1 k) := by decide +kernel
abbrev cX1_init : ByteArray := prog_3_method_1_code
def yX1_init : MethodName := ⟨RX1, "<init>", "()V"⟩
def RX2 : String := "AlertEngine$Groups"
def TX2 : u_T := fun k => match k with
  | 0 => ("AlertEngine$Groups", "open", "[Z", true)
  | 1 => ("AlertEngine$Groups", "sentAt", "[I", true)
  | 2 => ("AlertEngine$Groups", "sentMembers", "[J", true)
  | _ => ("AlertEngine$Groups", "members", "[J", true)
def tyX2 : Nat → FieldType := fun k => match k with
  | 0 => .array .boolean
  | 1 => .array .int
  | 2 => .array .long
  | _ => .array .long
theorem nmX2 : ∀ a, a < 4 → ∀ b, b < 4 → a ≠ b → (TX2 a).2.1 ≠ (TX2 b).2.1 := by decide +kernel
theorem tyX2_ok : ∀ k, k < 4 → parseFieldDescriptor (TX2 k).2.2.1 = some (tyX2 k) := by decide +kernel
abbrev cX2_init : ByteArray := prog_4_method_1_code
def yX2_init : MethodName := ⟨RX2, "<init>", "()V"⟩
abbrev cX2_copyFrom : ByteArray := prog_4_method_2_code
def yX2_copyFrom : MethodName := ⟨RX2, "copyFrom", "(LAlertEngine$Groups;)V"⟩
abbrev cX2_forgetAll : ByteArray := prog_4_method_3_code
def yX2_forgetAll : MethodName := ⟨RX2, "forgetAll", "()V"⟩
abbrev cX2_sort : ByteArray := prog_4_method_4_code
def yX2_sort : MethodName := ⟨RX2, "sort", "(JLAlertEngine$Setup;)V"⟩
abbrev cX2_newcomers : ByteArray := prog_4_method_5_code
def yX2_newcomers : MethodName := ⟨RX2, "newcomers", "(I)J"⟩
abbrev cX2_dueKind : ByteArray := prog_4_method_6_code
def yX2_dueKind : MethodName := ⟨RX2, "dueKind", "(IILAlertEngine$Setup;)I"⟩
abbrev cX2_nextMinute : ByteArray := prog_4_method_7_code
def yX2_nextMinute : MethodName := ⟨RX2, "nextMinute", "(IILAlertEngine$Setup;)I"⟩
abbrev cX2_markSent : ByteArray := prog_4_method_8_code
def yX2_markSent : MethodName := ⟨RX2, "markSent", "(III)V"⟩
abbrev cX2_countOpen : ByteArray := prog_4_method_9_code
def yX2_countOpen : MethodName := ⟨RX2, "countOpen", "()I"⟩
abbrev cX2_countNonEmpty : ByteArray := prog_4_method_10_code
def yX2_countNonEmpty : MethodName := ⟨RX2, "countNonEmpty", "()I"⟩
abbrev cX2_keyAt : ByteArray := prog_4_method_11_code
def yX2_keyAt : MethodName := ⟨RX2, "keyAt", "(I)I"⟩
def RX3 : String := "AlertEngine$Inhibition"
def TX3 : u_T := fun k => match k with
  | 0 => ("AlertEngine$Inhibition", "causes", "LAlertEngine$Matchers;", true)
  | 1 => ("AlertEngine$Inhibition", "targets", "LAlertEngine$Matchers;", true)
  | _ => ("AlertEngine$Inhibition", "sameLabels", "I", true)
def tyX3 : Nat → FieldType := fun k => match k with
  | 0 => .object "AlertEngine$Matchers"
  | 1 => .object "AlertEngine$Matchers"
  | _ => .int
theorem nmX3 : ∀ a, a < 3 → ∀ b, b < 3 → a ≠ b → (TX3 a).2.1 ≠ (TX3 b).2.1 := by decide +kernel
theorem tyX3_ok : ∀ k, k < 3 → parseFieldDescriptor (TX3 k).2.2.1 = some (tyX3 k) := by decide +kernel
abbrev cX3_init : ByteArray := prog_5_method_1_code
def yX3_init : MethodName := ⟨RX3, "<init>", "(LAlertEngine$Matchers;LAlertEngine$Matchers;I)V"⟩
def RX4 : String := "AlertEngine$Log"
def TX4 : u_T := fun k => match k with
  | 0 => ("AlertEngine$Log", "rows", "[I", true)
  | _ => ("AlertEngine$Log", "total", "I", false)
def tyX4 : Nat → FieldType := fun k => match k with
  | 0 => .array .int
  | _ => .int
theorem nmX4 : ∀ a, a < 2 → ∀ b, b < 2 → a ≠ b → (TX4 a).2.1 ≠ (TX4 b).2.1 := by decide +kernel
theorem tyX4_ok : ∀ k, k < 2 → parseFieldDescriptor (TX4 k).2.2.1 = some (tyX4 k) := by decide +kernel
abbrev cX4_init : ByteArray := prog_6_method_1_code
def yX4_init : MethodName := ⟨RX4, "<init>", "()V"⟩
abbrev cX4_copyFrom : ByteArray := prog_6_method_2_code
def yX4_copyFrom : MethodName := ⟨RX4, "copyFrom", "(LAlertEngine$Log;)V"⟩
abbrev cX4_write : ByteArray := prog_6_method_3_code
def yX4_write : MethodName := ⟨RX4, "write", "(IIIII)V"⟩
abbrev cX4_keeps : ByteArray := prog_6_method_4_code
def yX4_keeps : MethodName := ⟨RX4, "keeps", "(I)Z"⟩
abbrev cX4_read : ByteArray := prog_6_method_5_code
def yX4_read : MethodName := ⟨RX4, "read", "(II)I"⟩
def RX5 : String := "AlertEngine$Matchers"
def TX5 : u_T := fun k => match k with
  | 0 => ("AlertEngine$Matchers", "labelSets", "[I", true)
  | 1 => ("AlertEngine$Matchers", "not", "[Z", true)
  | _ => ("AlertEngine$Matchers", "size", "I", false)
def tyX5 : Nat → FieldType := fun k => match k with
  | 0 => .array .int
  | 1 => .array .boolean
  | _ => .int
theorem nmX5 : ∀ a, a < 3 → ∀ b, b < 3 → a ≠ b → (TX5 a).2.1 ≠ (TX5 b).2.1 := by decide +kernel
theorem tyX5_ok : ∀ k, k < 3 → parseFieldDescriptor (TX5 k).2.2.1 = some (tyX5 k) := by decide +kernel
abbrev cX5_init : ByteArray := prog_7_method_1_code
def yX5_init : MethodName := ⟨RX5, "<init>", "()V"⟩
def RX6 : String := "AlertEngine$Rule"
def TX6 : u_T := fun k => match k with
  | 0 => ("AlertEngine$Rule", "matchers", "LAlertEngine$Matchers;", true)
  | 1 => ("AlertEngine$Rule", "sign", "I", true)
  | 2 => ("AlertEngine$Rule", "bound", "I", true)
  | 3 => ("AlertEngine$Rule", "wait", "I", true)
  | _ => ("AlertEngine$Rule", "severity", "I", true)
def tyX6 : Nat → FieldType := fun k => match k with
  | 0 => .object "AlertEngine$Matchers"
  | 1 => .int
  | 2 => .int
  | 3 => .int
  | _ => .int
theorem nmX6 : ∀ a, a < 5 → ∀ b, b < 5 → a ≠ b → (TX6 a).2.1 ≠ (TX6 b).2.1 := by decide +kernel
theorem tyX6_ok : ∀ k, k < 5 → parseFieldDescriptor (TX6 k).2.2.1 = some (tyX6 k) := by decide +kernel
abbrev cX6_init : ByteArray := prog_8_method_1_code
def yX6_init : MethodName := ⟨RX6, "<init>", "(LAlertEngine$Matchers;IIII)V"⟩
abbrev cX6_accepts : ByteArray := prog_8_method_2_code
def yX6_accepts : MethodName := ⟨RX6, "accepts", "(I)Z"⟩
def RX7 : String := "AlertEngine$Setup"
def TX7 : u_T := fun k => match k with
  | 0 => ("AlertEngine$Setup", "labels", "[I", true)
  | 1 => ("AlertEngine$Setup", "values", "[I", true)
  | 2 => ("AlertEngine$Setup", "hasValue", "[Z", true)
  | 3 => ("AlertEngine$Setup", "rules", "[LAlertEngine$Rule;", true)
  | 4 => ("AlertEngine$Setup", "silences", "[LAlertEngine$Silence;", true)
  | 5 => ("AlertEngine$Setup", "inhibitions", "[LAlertEngine$Inhibition;", true)
  | 6 => ("AlertEngine$Setup", "parameters", "[I", true)
  | _ => ("AlertEngine$Setup", "labelSets", "[J", true)
def tyX7 : Nat → FieldType := fun k => match k with
  | 0 => .array .int
  | 1 => .array .int
  | 2 => .array .boolean
  | 3 => .array (.object "AlertEngine$Rule")
  | 4 => .array (.object "AlertEngine$Silence")
  | 5 => .array (.object "AlertEngine$Inhibition")
  | 6 => .array .int
  | _ => .array .long
theorem nmX7 : ∀ a, a < 8 → ∀ b, b < 8 → a ≠ b → (TX7 a).2.1 ≠ (TX7 b).2.1 := by decide +kernel
theorem tyX7_ok : ∀ k, k < 8 → parseFieldDescriptor (TX7 k).2.2.1 = some (tyX7 k) := by decide +kernel
abbrev cX7_init : ByteArray := prog_9_method_1_code
def yX7_init : MethodName := ⟨RX7, "<init>", "()V"⟩
abbrev cX7_copyFrom : ByteArray := prog_9_method_2_code
def yX7_copyFrom : MethodName := ⟨RX7, "copyFrom", "(LAlertEngine$Setup;)V"⟩
abbrev cX7_slots : ByteArray := prog_9_method_3_code
def yX7_slots : MethodName := ⟨RX7, "slots", "(I)[LAlertEngine$Entry;"⟩
abbrev cX7_putRule : ByteArray := prog_9_method_4_code
def yX7_putRule : MethodName := ⟨RX7, "putRule", "(ILAlertEngine$Rule;)V"⟩
abbrev cX7_relabel : ByteArray := prog_9_method_5_code
def yX7_relabel : MethodName := ⟨RX7, "relabel", "(III)I"⟩
abbrev cX7_sortLabels : ByteArray := prog_9_method_6_code
def yX7_sortLabels : MethodName := ⟨RX7, "sortLabels", "()V"⟩
abbrev cX7_countValues : ByteArray := prog_9_method_7_code
def yX7_countValues : MethodName := ⟨RX7, "countValues", "()I"⟩
abbrev cX7_keyOf : ByteArray := prog_9_method_8_code
def yX7_keyOf : MethodName := ⟨RX7, "keyOf", "(I)I"⟩
abbrev cX7_matched : ByteArray := prog_9_method_9_code
def yX7_matched : MethodName := ⟨RX7, "matched", "(LAlertEngine$Matchers;)J"⟩
abbrev cX7_alike : ByteArray := prog_9_method_10_code
def yX7_alike : MethodName := ⟨RX7, "alike", "(II)J"⟩
abbrev cX7_holding : ByteArray := prog_9_method_11_code
def yX7_holding : MethodName := ⟨RX7, "holding", "()J"⟩
abbrev cX7_acceptedSeries : ByteArray := prog_9_method_12_code
def yX7_acceptedSeries : MethodName := ⟨RX7, "acceptedSeries", "(LAlertEngine$Rule;)J"⟩
abbrev cX7_waitOf : ByteArray := prog_9_method_13_code
def yX7_waitOf : MethodName := ⟨RX7, "waitOf", "(I)I"⟩
abbrev cX7_greatestSeverity : ByteArray := prog_9_method_14_code
def yX7_greatestSeverity : MethodName := ⟨RX7, "greatestSeverity", "(J)I"⟩
def RX8 : String := "AlertEngine$Silence"
def TX8 : u_T := fun k => match k with
  | 0 => ("AlertEngine$Silence", "matchers", "LAlertEngine$Matchers;", true)
  | 1 => ("AlertEngine$Silence", "from", "I", true)
  | _ => ("AlertEngine$Silence", "length", "I", true)
def tyX8 : Nat → FieldType := fun k => match k with
  | 0 => .object "AlertEngine$Matchers"
  | 1 => .int
  | _ => .int
theorem nmX8 : ∀ a, a < 3 → ∀ b, b < 3 → a ≠ b → (TX8 a).2.1 ≠ (TX8 b).2.1 := by decide +kernel
theorem tyX8_ok : ∀ k, k < 3 → parseFieldDescriptor (TX8 k).2.2.1 = some (tyX8 k) := by decide +kernel
abbrev cX8_init : ByteArray := prog_10_method_1_code
def yX8_init : MethodName := ⟨RX8, "<init>", "(LAlertEngine$Matchers;II)V"⟩
abbrev cX8_isOn : ByteArray := prog_10_method_2_code
def yX8_isOn : MethodName := ⟨RX8, "isOn", "(I)Z"⟩
def RX9 : String := "AlertEngine$State"
def TX9 : u_T := fun k => match k with
  | 0 => ("AlertEngine$State", "minute", "I", false)
  | 1 => ("AlertEngine$State", "setup", "LAlertEngine$Setup;", true)
  | 2 => ("AlertEngine$State", "states", "LAlertEngine$AlertStates;", true)
  | 3 => ("AlertEngine$State", "groups", "LAlertEngine$Groups;", true)
  | _ => ("AlertEngine$State", "log", "LAlertEngine$Log;", true)
def tyX9 : Nat → FieldType := fun k => match k with
  | 0 => .int
  | 1 => .object "AlertEngine$Setup"
  | 2 => .object "AlertEngine$AlertStates"
  | 3 => .object "AlertEngine$Groups"
  | _ => .object "AlertEngine$Log"
theorem nmX9 : ∀ a, a < 5 → ∀ b, b < 5 → a ≠ b → (TX9 a).2.1 ≠ (TX9 b).2.1 := by decide +kernel
theorem tyX9_ok : ∀ k, k < 5 → parseFieldDescriptor (TX9 k).2.2.1 = some (tyX9 k) := by decide +kernel
abbrev cX9_init : ByteArray := prog_11_method_1_code
def yX9_init : MethodName := ⟨RX9, "<init>", "()V"⟩
abbrev cX9_copyFrom : ByteArray := prog_11_method_2_code
def yX9_copyFrom : MethodName := ⟨RX9, "copyFrom", "(LAlertEngine$State;)V"⟩
abbrev cX9_steps : ByteArray := prog_11_method_3_code
def yX9_steps : MethodName := ⟨RX9, "steps", "(I)I"⟩
abbrev cX9_step : ByteArray := prog_11_method_4_code
def yX9_step : MethodName := ⟨RX9, "step", "()I"⟩
abbrev cX9_sendGroup : ByteArray := prog_11_method_5_code
def yX9_sendGroup : MethodName := ⟨RX9, "sendGroup", "(II)V"⟩
abbrev cX9_active : ByteArray := prog_11_method_6_code
def yX9_active : MethodName := ⟨RX9, "active", "()J"⟩
abbrev cX9_silencedBy : ByteArray := prog_11_method_7_code
def yX9_silencedBy : MethodName := ⟨RX9, "silencedBy", "(I)J"⟩
abbrev cX9_silenced : ByteArray := prog_11_method_8_code
def yX9_silenced : MethodName := ⟨RX9, "silenced", "()J"⟩
abbrev cX9_lowestSilenceOf : ByteArray := prog_11_method_9_code
def yX9_lowestSilenceOf : MethodName := ⟨RX9, "lowestSilenceOf", "(I)I"⟩
abbrev cX9_countSilencesInUse : ByteArray := prog_11_method_10_code
def yX9_countSilencesInUse : MethodName := ⟨RX9, "countSilencesInUse", "()I"⟩
abbrev cX9_inhibitorsOf : ByteArray := prog_11_method_11_code
def yX9_inhibitorsOf : MethodName := ⟨RX9, "inhibitorsOf", "(I)J"⟩
abbrev cX9_inhibited : ByteArray := prog_11_method_12_code
def yX9_inhibited : MethodName := ⟨RX9, "inhibited", "()J"⟩
abbrev cX9_inhibitedBy : ByteArray := prog_11_method_13_code
def yX9_inhibitedBy : MethodName := ⟨RX9, "inhibitedBy", "(LAlertEngine$Inhibition;)J"⟩
abbrev cX9_windowStart : ByteArray := prog_11_method_14_code
def yX9_windowStart : MethodName := ⟨RX9, "windowStart", "()I"⟩
abbrev cX9_flapping : ByteArray := prog_11_method_15_code
def yX9_flapping : MethodName := ⟨RX9, "flapping", "(J)J"⟩
def RX10 : String := "AlertEngine$Tape"
def TX10 : u_T := fun k => match k with
  | 0 => ("AlertEngine$Tape", "bytes", "[I", true)
  | 1 => ("AlertEngine$Tape", "length", "I", false)
  | 2 => ("AlertEngine$Tape", "at", "I", false)
  | _ => ("AlertEngine$Tape", "wrong", "Z", false)
def tyX10 : Nat → FieldType := fun k => match k with
  | 0 => .array .int
  | 1 => .int
  | 2 => .int
  | _ => .boolean
theorem nmX10 : ∀ a, a < 4 → ∀ b, b < 4 → a ≠ b → (TX10 a).2.1 ≠ (TX10 b).2.1 := by decide +kernel
theorem tyX10_ok : ∀ k, k < 4 → parseFieldDescriptor (TX10 k).2.2.1 = some (tyX10 k) := by decide +kernel
abbrev cX10_init : ByteArray := prog_12_method_1_code
def yX10_init : MethodName := ⟨RX10, "<init>", "()V"⟩
abbrev cX10_hasRoomFor : ByteArray := prog_12_method_2_code
def yX10_hasRoomFor : MethodName := ⟨RX10, "hasRoomFor", "(I)Z"⟩
abbrev cX10_append : ByteArray := prog_12_method_3_code
def yX10_append : MethodName := ⟨RX10, "append", "(I)V"⟩
abbrev cX10_clear : ByteArray := prog_12_method_4_code
def yX10_clear : MethodName := ⟨RX10, "clear", "()V"⟩
abbrev cX10_rewind : ByteArray := prog_12_method_5_code
def yX10_rewind : MethodName := ⟨RX10, "rewind", "()V"⟩
abbrev cX10_readRule : ByteArray := prog_12_method_6_code
def yX10_readRule : MethodName := ⟨RX10, "readRule", "()LAlertEngine$Rule;"⟩
abbrev cX10_readSilence : ByteArray := prog_12_method_7_code
def yX10_readSilence : MethodName := ⟨RX10, "readSilence", "()LAlertEngine$Silence;"⟩
abbrev cX10_readInhibition : ByteArray := prog_12_method_8_code
def yX10_readInhibition : MethodName := ⟨RX10, "readInhibition", "()LAlertEngine$Inhibition;"⟩
abbrev cX10_startsRuleSign : ByteArray := prog_12_method_9_code
def yX10_startsRuleSign : MethodName := ⟨RX10, "startsRuleSign", "()Z"⟩
abbrev cX10_readMatchersAhead : ByteArray := prog_12_method_10_code
def yX10_readMatchersAhead : MethodName := ⟨RX10, "readMatchersAhead", "()LAlertEngine$Matchers;"⟩
abbrev cX10_readMatchers : ByteArray := prog_12_method_11_code
def yX10_readMatchers : MethodName := ⟨RX10, "readMatchers", "(Z)LAlertEngine$Matchers;"⟩
abbrev cX10_readMatcher : ByteArray := prog_12_method_12_code
def yX10_readMatcher : MethodName := ⟨RX10, "readMatcher", "(LAlertEngine$Matchers;Z)V"⟩
abbrev cX10_labelOf : ByteArray := prog_12_method_13_code
def yX10_labelOf : MethodName := ⟨RX10, "labelOf", "(I)I"⟩
abbrev cX10_readNumber : ByteArray := prog_12_method_14_code
def yX10_readNumber : MethodName := ⟨RX10, "readNumber", "()I"⟩
abbrev cX10_readDigit : ByteArray := prog_12_method_15_code
def yX10_readDigit : MethodName := ⟨RX10, "readDigit", "(I)I"⟩
abbrev cX10_peek : ByteArray := prog_12_method_16_code
def yX10_peek : MethodName := ⟨RX10, "peek", "()I"⟩
abbrev cX10_skip : ByteArray := prog_12_method_17_code
def yX10_skip : MethodName := ⟨RX10, "skip", "(I)Z"⟩
abbrev cX10_expect : ByteArray := prog_12_method_18_code
def yX10_expect : MethodName := ⟨RX10, "expect", "(I)V"⟩
abbrev cX10_expectEnd : ByteArray := prog_12_method_19_code
def yX10_expectEnd : MethodName := ⟨RX10, "expectEnd", "()V"⟩
def RX11 : String := "AlertEngine"
def TX11 : u_T := fun k => match k with
  | 0 => ("AlertEngine", "tape", "LAlertEngine$Tape;", true)
  | 1 => ("AlertEngine", "now", "LAlertEngine$State;", true)
  | 2 => ("AlertEngine", "snapshot", "LAlertEngine$State;", true)
  | 3 => ("AlertEngine", "trial", "LAlertEngine$State;", true)
  | _ => ("AlertEngine", "hasSnapshot", "Z", false)
def tyX11 : Nat → FieldType := fun k => match k with
  | 0 => .object "AlertEngine$Tape"
  | 1 => .object "AlertEngine$State"
  | 2 => .object "AlertEngine$State"
  | 3 => .object "AlertEngine$State"
  | _ => .boolean
theorem nmX11 : ∀ a, a < 5 → ∀ b, b < 5 → a ≠ b → (TX11 a).2.1 ≠ (TX11 b).2.1 := by decide +kernel
theorem tyX11_ok : ∀ k, k < 5 → parseFieldDescriptor (TX11 k).2.2.1 = some (tyX11 k) := by decide +kernel
abbrev cX11_init : ByteArray := prog_1_method_1_code
def yX11_init : MethodName := ⟨RX11, "<init>", "()V"⟩
abbrev cX11_label : ByteArray := prog_1_method_2_code
def yX11_label : MethodName := ⟨RX11, "label", "(III)I"⟩
abbrev cX11_sample : ByteArray := prog_1_method_3_code
def yX11_sample : MethodName := ⟨RX11, "sample", "(II)I"⟩
abbrev cX11_drop : ByteArray := prog_1_method_4_code
def yX11_drop : MethodName := ⟨RX11, "drop", "(I)I"⟩
abbrev cX11_feed : ByteArray := prog_1_method_5_code
def yX11_feed : MethodName := ⟨RX11, "feed", "(IIIIII)I"⟩
abbrev cX11_add : ByteArray := prog_1_method_6_code
def yX11_add : MethodName := ⟨RX11, "add", "(I)I"⟩
abbrev cX11_remove : ByteArray := prog_1_method_7_code
def yX11_remove : MethodName := ⟨RX11, "remove", "(II)I"⟩
abbrev cX11_parameter : ByteArray := prog_1_method_8_code
def yX11_parameter : MethodName := ⟨RX11, "parameter", "(II)I"⟩
abbrev cX11_pass : ByteArray := prog_1_method_9_code
def yX11_pass : MethodName := ⟨RX11, "pass", "(I)I"⟩
abbrev cX11_alert : ByteArray := prog_1_method_10_code
def yX11_alert : MethodName := ⟨RX11, "alert", "(III)I"⟩
abbrev cX11_alerts : ByteArray := prog_1_method_11_code
def yX11_alerts : MethodName := ⟨RX11, "alerts", "(I)J"⟩
abbrev cX11_group : ByteArray := prog_1_method_12_code
def yX11_group : MethodName := ⟨RX11, "group", "(II)I"⟩
abbrev cX11_key : ByteArray := prog_1_method_13_code
def yX11_key : MethodName := ⟨RX11, "key", "(I)I"⟩
abbrev cX11_sent : ByteArray := prog_1_method_14_code
def yX11_sent : MethodName := ⟨RX11, "sent", "(II)I"⟩
abbrev cX11_ahead : ByteArray := prog_1_method_15_code
def yX11_ahead : MethodName := ⟨RX11, "ahead", "(I)I"⟩
abbrev cX11_next : ByteArray := prog_1_method_16_code
def yX11_next : MethodName := ⟨RX11, "next", "(I)I"⟩
abbrev cX11_saved : ByteArray := prog_1_method_17_code
def yX11_saved : MethodName := ⟨RX11, "saved", "(II)I"⟩
abbrev cX11_image : ByteArray := prog_1_method_18_code
def yX11_image : MethodName := ⟨RX11, "image", "()I"⟩
abbrev cX11_undo : ByteArray := prog_1_method_19_code
def yX11_undo : MethodName := ⟨RX11, "undo", "()I"⟩
abbrev cX11_count : ByteArray := prog_1_method_20_code
def yX11_count : MethodName := ⟨RX11, "count", "(I)I"⟩
abbrev cX11_parameterOrNone : ByteArray := prog_1_method_21_code
def yX11_parameterOrNone : MethodName := ⟨RX11, "parameterOrNone", "(I)I"⟩
abbrev cX11_isSeries : ByteArray := prog_1_method_22_code
def yX11_isSeries : MethodName := ⟨RX11, "isSeries", "(I)Z"⟩
abbrev cX11_isByte : ByteArray := prog_1_method_23_code
def yX11_isByte : MethodName := ⟨RX11, "isByte", "(I)Z"⟩
abbrev cX11_isKind : ByteArray := prog_1_method_24_code
def yX11_isKind : MethodName := ⟨RX11, "isKind", "(I)Z"⟩
abbrev cX11_isSpan : ByteArray := prog_1_method_25_code
def yX11_isSpan : MethodName := ⟨RX11, "isSpan", "(I)Z"⟩
abbrev cX11_bit : ByteArray := prog_1_method_26_code
def yX11_bit : MethodName := ⟨RX11, "bit", "(Z)I"⟩
abbrev cX11_has : ByteArray := prog_1_method_27_code
def yX11_has : MethodName := ⟨RX11, "has", "(JI)Z"⟩
abbrev cX11_lowest : ByteArray := prog_1_method_28_code
def yX11_lowest : MethodName := ⟨RX11, "lowest", "(J)I"⟩
abbrev cX11_holdsEntry : ByteArray := prog_1_method_29_code
def yX11_holdsEntry : MethodName := ⟨RX11, "holdsEntry", "([LAlertEngine$Entry;I)Z"⟩
abbrev cX11_lowestFree : ByteArray := prog_1_method_30_code
def yX11_lowestFree : MethodName := ⟨RX11, "lowestFree", "([LAlertEngine$Entry;)I"⟩
abbrev cX11_countEntries : ByteArray := prog_1_method_31_code
def yX11_countEntries : MethodName := ⟨RX11, "countEntries", "([LAlertEngine$Entry;)I"⟩
def RX12 : String := "AlertEngineModel"
def TX12 : u_T := fun k => match k with
  | 0 => ("AlertEngineModel", "v", "[I", true)
  | 1 => ("AlertEngineModel", "image", "[I", true)
  | 2 => ("AlertEngineModel", "kept", "[I", true)
  | 3 => ("AlertEngineModel", "sets", "[J", true)
  | 4 => ("AlertEngineModel", "imageSets", "[J", true)
  | 5 => ("AlertEngineModel", "keptSets", "[J", true)
  | 6 => ("AlertEngineModel", "hasImage", "Z", false)
  | 7 => ("AlertEngineModel", "tape", "[I", true)
  | 8 => ("AlertEngineModel", "tapeN", "I", false)
  | 9 => ("AlertEngineModel", "at", "I", false)
  | 10 => ("AlertEngineModel", "isFaulty", "Z", false)
  | _ => ("AlertEngineModel", "made", "[I", true)
def tyX12 : Nat → FieldType := fun k => match k with
  | 0 => .array .int
  | 1 => .array .int
  | 2 => .array .int
  | 3 => .array .long
  | 4 => .array .long
  | 5 => .array .long
  | 6 => .boolean
  | 7 => .array .int
  | 8 => .int
  | 9 => .int
  | 10 => .boolean
  | _ => .array .int
theorem nmX12 : ∀ a, a < 12 → ∀ b, b < 12 → a ≠ b → (TX12 a).2.1 ≠ (TX12 b).2.1 := by decide +kernel
theorem tyX12_ok : ∀ k, k < 12 → parseFieldDescriptor (TX12 k).2.2.1 = some (tyX12 k) := by decide +kernel
abbrev cX12_init : ByteArray := prog_14_method_1_code
def yX12_init : MethodName := ⟨RX12, "<init>", "()V"⟩
abbrev cX12_isIn : ByteArray := prog_14_method_2_code
def yX12_isIn : MethodName := ⟨RX12, "isIn", "(III)Z"⟩
abbrev cX12_copies : ByteArray := prog_14_method_3_code
def yX12_copies : MethodName := ⟨RX12, "copies", "([I[I[J[J)V"⟩
abbrev cX12_label : ByteArray := prog_14_method_4_code
def yX12_label : MethodName := ⟨RX12, "label", "(III)I"⟩
abbrev cX12_sample : ByteArray := prog_14_method_5_code
def yX12_sample : MethodName := ⟨RX12, "sample", "(II)I"⟩
abbrev cX12_drop : ByteArray := prog_14_method_6_code
def yX12_drop : MethodName := ⟨RX12, "drop", "(I)I"⟩
abbrev cX12_feed : ByteArray := prog_14_method_7_code
def yX12_feed : MethodName := ⟨RX12, "feed", "(IIIIII)I"⟩
abbrev cX12_here : ByteArray := prog_14_method_8_code
def yX12_here : MethodName := ⟨RX12, "here", "()I"⟩
abbrev cX12_sign : ByteArray := prog_14_method_9_code
def yX12_sign : MethodName := ⟨RX12, "sign", "(I)V"⟩
abbrev cX12_digit : ByteArray := prog_14_method_10_code
def yX12_digit : MethodName := ⟨RX12, "digit", "(I)I"⟩
abbrev cX12_number : ByteArray := prog_14_method_11_code
def yX12_number : MethodName := ⟨RX12, "number", "()I"⟩
abbrev cX12_matcher : ByteArray := prog_14_method_12_code
def yX12_matcher : MethodName := ⟨RX12, "matcher", "(Z)I"⟩
abbrev cX12_matchers : ByteArray := prog_14_method_13_code
def yX12_matchers : MethodName := ⟨RX12, "matchers", "(IZ)V"⟩
abbrev cX12_rule : ByteArray := prog_14_method_14_code
def yX12_rule : MethodName := ⟨RX12, "rule", "()V"⟩
abbrev cX12_silence : ByteArray := prog_14_method_15_code
def yX12_silence : MethodName := ⟨RX12, "silence", "()V"⟩
abbrev cX12_inhibition : ByteArray := prog_14_method_16_code
def yX12_inhibition : MethodName := ⟨RX12, "inhibition", "()V"⟩
abbrev cX12_first : ByteArray := prog_14_method_17_code
def yX12_first : MethodName := ⟨RX12, "first", "(I)I"⟩
abbrev cX12_wide : ByteArray := prog_14_method_18_code
def yX12_wide : MethodName := ⟨RX12, "wide", "(I)I"⟩
abbrev cX12_most : ByteArray := prog_14_method_19_code
def yX12_most : MethodName := ⟨RX12, "most", "(I)I"⟩
abbrev cX12_isOne : ByteArray := prog_14_method_20_code
def yX12_isOne : MethodName := ⟨RX12, "isOne", "(II)Z"⟩
abbrev cX12_many : ByteArray := prog_14_method_21_code
def yX12_many : MethodName := ⟨RX12, "many", "(I)I"⟩
abbrev cX12_add : ByteArray := prog_14_method_22_code
def yX12_add : MethodName := ⟨RX12, "add", "(I)I"⟩
abbrev cX12_remove : ByteArray := prog_14_method_23_code
def yX12_remove : MethodName := ⟨RX12, "remove", "(II)I"⟩
abbrev cX12_parameter : ByteArray := prog_14_method_24_code
def yX12_parameter : MethodName := ⟨RX12, "parameter", "(II)I"⟩
abbrev cX12_matches : ByteArray := prog_14_method_25_code
def yX12_matches : MethodName := ⟨RX12, "matches", "(II)Z"⟩
abbrev cX12_holds : ByteArray := prog_14_method_26_code
def yX12_holds : MethodName := ⟨RX12, "holds", "(I)Z"⟩
abbrev cX12_state : ByteArray := prog_14_method_27_code
def yX12_state : MethodName := ⟨RX12, "state", "(I)I"⟩
abbrev cX12_isSilencedBy : ByteArray := prog_14_method_28_code
def yX12_isSilencedBy : MethodName := ⟨RX12, "isSilencedBy", "(II)Z"⟩
abbrev cX12_silenceOf : ByteArray := prog_14_method_29_code
def yX12_silenceOf : MethodName := ⟨RX12, "silenceOf", "(I)I"⟩
abbrev cX12_isInhibitedBy : ByteArray := prog_14_method_30_code
def yX12_isInhibitedBy : MethodName := ⟨RX12, "isInhibitedBy", "(II)Z"⟩
abbrev cX12_inhibitorOf : ByteArray := prog_14_method_31_code
def yX12_inhibitorOf : MethodName := ⟨RX12, "inhibitorOf", "(I)I"⟩
abbrev cX12_flaps : ByteArray := prog_14_method_32_code
def yX12_flaps : MethodName := ⟨RX12, "flaps", "(I)I"⟩
abbrev cX12_isFlapping : ByteArray := prog_14_method_33_code
def yX12_isFlapping : MethodName := ⟨RX12, "isFlapping", "(I)Z"⟩
abbrev cX12_isActive : ByteArray := prog_14_method_34_code
def yX12_isActive : MethodName := ⟨RX12, "isActive", "(I)Z"⟩
abbrev cX12_keyOf : ByteArray := prog_14_method_35_code
def yX12_keyOf : MethodName := ⟨RX12, "keyOf", "(I)I"⟩
abbrev cX12_severity : ByteArray := prog_14_method_36_code
def yX12_severity : MethodName := ⟨RX12, "severity", "(I)I"⟩
abbrev cX12_actives : ByteArray := prog_14_method_37_code
def yX12_actives : MethodName := ⟨RX12, "actives", "()J"⟩
abbrev cX12_size : ByteArray := prog_14_method_38_code
def yX12_size : MethodName := ⟨RX12, "size", "(J)I"⟩
abbrev cX12_withKey : ByteArray := prog_14_method_39_code
def yX12_withKey : MethodName := ⟨RX12, "withKey", "(JI)J"⟩
abbrev cX12_greatest : ByteArray := prog_14_method_40_code
def yX12_greatest : MethodName := ⟨RX12, "greatest", "(J)I"⟩
abbrev cX12_turns : ByteArray := prog_14_method_41_code
def yX12_turns : MethodName := ⟨RX12, "turns", "(I)V"⟩
abbrev cX12_goesOn : ByteArray := prog_14_method_42_code
def yX12_goesOn : MethodName := ⟨RX12, "goesOn", "(I)V"⟩
abbrev cX12_sends : ByteArray := prog_14_method_43_code
def yX12_sends : MethodName := ⟨RX12, "sends", "(IIJ)V"⟩
abbrev cX12_step : ByteArray := prog_14_method_44_code
def yX12_step : MethodName := ⟨RX12, "step", "()I"⟩
abbrev cX12_pass : ByteArray := prog_14_method_45_code
def yX12_pass : MethodName := ⟨RX12, "pass", "(I)I"⟩
abbrev cX12_alert : ByteArray := prog_14_method_46_code
def yX12_alert : MethodName := ⟨RX12, "alert", "(III)I"⟩
abbrev cX12_isOf : ByteArray := prog_14_method_47_code
def yX12_isOf : MethodName := ⟨RX12, "isOf", "(II)Z"⟩
abbrev cX12_alerts : ByteArray := prog_14_method_48_code
def yX12_alerts : MethodName := ⟨RX12, "alerts", "(I)J"⟩
abbrev cX12_later : ByteArray := prog_14_method_49_code
def yX12_later : MethodName := ⟨RX12, "later", "(I)I"⟩
abbrev cX12_group : ByteArray := prog_14_method_50_code
def yX12_group : MethodName := ⟨RX12, "group", "(II)I"⟩
abbrev cX12_key : ByteArray := prog_14_method_51_code
def yX12_key : MethodName := ⟨RX12, "key", "(I)I"⟩
abbrev cX12_sent : ByteArray := prog_14_method_52_code
def yX12_sent : MethodName := ⟨RX12, "sent", "(II)I"⟩
abbrev cX12_looks : ByteArray := prog_14_method_53_code
def yX12_looks : MethodName := ⟨RX12, "looks", "(IZ)I"⟩
abbrev cX12_ahead : ByteArray := prog_14_method_54_code
def yX12_ahead : MethodName := ⟨RX12, "ahead", "(I)I"⟩
abbrev cX12_next : ByteArray := prog_14_method_55_code
def yX12_next : MethodName := ⟨RX12, "next", "(I)I"⟩
abbrev cX12_saved : ByteArray := prog_14_method_56_code
def yX12_saved : MethodName := ⟨RX12, "saved", "(II)I"⟩
abbrev cX12_image : ByteArray := prog_14_method_57_code
def yX12_image : MethodName := ⟨RX12, "image", "()I"⟩
abbrev cX12_undo : ByteArray := prog_14_method_58_code
def yX12_undo : MethodName := ⟨RX12, "undo", "()I"⟩
abbrev cX12_silencing : ByteArray := prog_14_method_59_code
def yX12_silencing : MethodName := ⟨RX12, "silencing", "()I"⟩
abbrev cX12_count : ByteArray := prog_14_method_60_code
def yX12_count : MethodName := ⟨RX12, "count", "(I)I"⟩
def RJ6 : String := "java/lang/Integer"
def TJ6 : u_T := fun k => match k with
  | _ => ("", "", "", false)
def tyJ6 : Nat → FieldType := fun k => match k with
  | _ => .int
theorem nmJ6 : ∀ a, a < 0 → ∀ b, b < 0 → a ≠ b → (TJ6 a).2.1 ≠ (TJ6 b).2.1 := by decide +kernel
theorem tyJ6_ok : ∀ k, k < 0 → parseFieldDescriptor (TJ6 k).2.2.1 = some (tyJ6 k) := by decide +kernel
abbrev cJ6_numberOfTrailingZeros_0f7a4 : ByteArray := prog_15_method_48_code
def yJ6_numberOfTrailingZeros_0f7a4 : MethodName := ⟨RJ6, "numberOfTrailingZeros", "(I)I"⟩
def RJ13 : String := "java/lang/Long"
def TJ13 : u_T := fun k => match k with
  | _ => ("", "", "", false)
def tyJ13 : Nat → FieldType := fun k => match k with
  | _ => .int
theorem nmJ13 : ∀ a, a < 0 → ∀ b, b < 0 → a ≠ b → (TJ13 a).2.1 ≠ (TJ13 b).2.1 := by decide +kernel
theorem tyJ13_ok : ∀ k, k < 0 → parseFieldDescriptor (TJ13 k).2.2.1 = some (tyJ13 k) := by decide +kernel
abbrev cJ13_numberOfTrailingZeros_95d88 : ByteArray := prog_16_method_49_code
def yJ13_numberOfTrailingZeros_95d88 : MethodName := ⟨RJ13, "numberOfTrailingZeros", "(J)I"⟩
abbrev cJ13_bitCount_95d88 : ByteArray := prog_16_method_50_code
def yJ13_bitCount_95d88 : MethodName := ⟨RJ13, "bitCount", "(J)I"⟩
def RJ9 : String := "java/lang/Math"
def TJ9 : u_T := fun k => match k with
  | _ => ("", "", "", false)
def tyJ9 : Nat → FieldType := fun k => match k with
  | _ => .int
theorem nmJ9 : ∀ a, a < 0 → ∀ b, b < 0 → a ≠ b → (TJ9 a).2.1 ≠ (TJ9 b).2.1 := by decide +kernel
theorem tyJ9_ok : ∀ k, k < 0 → parseFieldDescriptor (TJ9 k).2.2.1 = some (tyJ9 k) := by decide +kernel
abbrev cJ9_max_7cf53 : ByteArray := prog_17_method_65_code
def yJ9_max_7cf53 : MethodName := ⟨RJ9, "max", "(II)I"⟩
abbrev cJ9_min_7cf53 : ByteArray := prog_17_method_69_code
def yJ9_min_7cf53 : MethodName := ⟨RJ9, "min", "(II)I"⟩
def RJ10 : String := "java/lang/System"
def TJ10 : u_T := fun k => match k with
  | _ => ("", "", "", false)
def tyJ10 : Nat → FieldType := fun k => match k with
  | _ => .int
theorem nmJ10 : ∀ a, a < 0 → ∀ b, b < 0 → a ≠ b → (TJ10 a).2.1 ≠ (TJ10 b).2.1 := by decide +kernel
theorem tyJ10_ok : ∀ k, k < 0 → parseFieldDescriptor (TJ10 k).2.2.1 = some (tyJ10 k) := by decide +kernel
def RL : String := "AlertEngineLaw"
abbrev cL_law : ByteArray := code
def yL_law : MethodName := ⟨RL, "law", "([I)Z"⟩
abbrev vwCl : List vw_C := [(RX0, TX0, 5), (RX2, TX2, 4), (RX3, TX3, 3), (RX4, TX4, 2), (RX5, TX5, 3), (RX6, TX6, 5), (RX7, TX7, 8), (RX8, TX8, 3), (RX9, TX9, 5), (RX10, TX10, 4), (RX11, TX11, 5), (RX12, TX12, 12)]
abbrev gMd : Type := MethodName × ByteArray × Nat × Option FieldType
abbrev kX11_init : gMd := (yX11_init, cX11_init, 1, none)
abbrev kX10_init : gMd := (yX10_init, cX10_init, 1, none)
abbrev kX9_init : gMd := (yX9_init, cX9_init, 1, none)
abbrev kX7_init : gMd := (yX7_init, cX7_init, 1, none)
abbrev kX7_sortLabels : gMd := (yX7_sortLabels, cX7_sortLabels, 4, none)
abbrev kX0_init : gMd := (yX0_init, cX0_init, 1, none)
abbrev kX2_init : gMd := (yX2_init, cX2_init, 1, none)
abbrev kX4_init : gMd := (yX4_init, cX4_init, 1, none)
abbrev kX11_label : gMd := (yX11_label, cX11_label, 4, (some (Jvm.ClassFile.FieldType.int)))
abbrev kX11_isSeries : gMd := (yX11_isSeries, cX11_isSeries, 1, (some (Jvm.ClassFile.FieldType.boolean)))
abbrev kX7_relabel : gMd := (yX7_relabel, cX7_relabel, 5, (some (Jvm.ClassFile.FieldType.int)))
abbrev kX11_sample : gMd := (yX11_sample, cX11_sample, 4, (some (Jvm.ClassFile.FieldType.int)))
abbrev kX11_bit : gMd := (yX11_bit, cX11_bit, 1, (some (Jvm.ClassFile.FieldType.int)))
abbrev kX11_drop : gMd := (yX11_drop, cX11_drop, 3, (some (Jvm.ClassFile.FieldType.int)))
abbrev kX11_feed : gMd := (yX11_feed, cX11_feed, 7, (some (Jvm.ClassFile.FieldType.int)))
abbrev kX11_isByte : gMd := (yX11_isByte, cX11_isByte, 1, (some (Jvm.ClassFile.FieldType.boolean)))
abbrev kX10_hasRoomFor : gMd := (yX10_hasRoomFor, cX10_hasRoomFor, 2, (some (Jvm.ClassFile.FieldType.boolean)))
abbrev kX10_append : gMd := (yX10_append, cX10_append, 2, none)
abbrev kX11_add : gMd := (yX11_add, cX11_add, 4, (some (Jvm.ClassFile.FieldType.int)))
abbrev kX11_isKind : gMd := (yX11_isKind, cX11_isKind, 1, (some (Jvm.ClassFile.FieldType.boolean)))
abbrev kX7_slots : gMd := (yX7_slots, cX7_slots, 2, (some ((Jvm.ClassFile.FieldType.array (Jvm.ClassFile.FieldType.object "AlertEngine$Entry")))))
abbrev kX11_lowestFree : gMd := (yX11_lowestFree, cX11_lowestFree, 2, (some (Jvm.ClassFile.FieldType.int)))
abbrev kX10_rewind : gMd := (yX10_rewind, cX10_rewind, 1, none)
abbrev kX10_readRule : gMd := (yX10_readRule, cX10_readRule, 7, (some ((Jvm.ClassFile.FieldType.object "AlertEngine$Rule"))))
abbrev kX10_startsRuleSign : gMd := (yX10_startsRuleSign, cX10_startsRuleSign, 2, (some (Jvm.ClassFile.FieldType.boolean)))
abbrev kX10_peek : gMd := (yX10_peek, cX10_peek, 1, (some (Jvm.ClassFile.FieldType.int)))
abbrev kX5_init : gMd := (yX5_init, cX5_init, 1, none)
abbrev kX10_readMatchersAhead : gMd := (yX10_readMatchersAhead, cX10_readMatchersAhead, 2, (some ((Jvm.ClassFile.FieldType.object "AlertEngine$Matchers"))))
abbrev kX10_readMatchers : gMd := (yX10_readMatchers, cX10_readMatchers, 4, (some ((Jvm.ClassFile.FieldType.object "AlertEngine$Matchers"))))
abbrev kX10_readMatcher : gMd := (yX10_readMatcher, cX10_readMatcher, 6, none)
abbrev kX10_skip : gMd := (yX10_skip, cX10_skip, 2, (some (Jvm.ClassFile.FieldType.boolean)))
abbrev kX10_labelOf : gMd := (yX10_labelOf, cX10_labelOf, 1, (some (Jvm.ClassFile.FieldType.int)))
abbrev kX10_readDigit : gMd := (yX10_readDigit, cX10_readDigit, 3, (some (Jvm.ClassFile.FieldType.int)))
abbrev kX10_expect : gMd := (yX10_expect, cX10_expect, 2, none)
abbrev kX10_readNumber : gMd := (yX10_readNumber, cX10_readNumber, 3, (some (Jvm.ClassFile.FieldType.int)))
abbrev kX10_expectEnd : gMd := (yX10_expectEnd, cX10_expectEnd, 1, none)
abbrev kX6_init : gMd := (yX6_init, cX6_init, 6, none)
abbrev kX1_init : gMd := (yX1_init, cX1_init, 1, none)
abbrev kX7_putRule : gMd := (yX7_putRule, cX7_putRule, 3, none)
abbrev kX10_readSilence : gMd := (yX10_readSilence, cX10_readSilence, 4, (some ((Jvm.ClassFile.FieldType.object "AlertEngine$Silence"))))
abbrev kX8_init : gMd := (yX8_init, cX8_init, 4, none)
abbrev kX10_readInhibition : gMd := (yX10_readInhibition, cX10_readInhibition, 6, (some ((Jvm.ClassFile.FieldType.object "AlertEngine$Inhibition"))))
abbrev kX3_init : gMd := (yX3_init, cX3_init, 4, none)
abbrev kX10_clear : gMd := (yX10_clear, cX10_clear, 1, none)
abbrev kX11_remove : gMd := (yX11_remove, cX11_remove, 4, (some (Jvm.ClassFile.FieldType.int)))
abbrev kX11_holdsEntry : gMd := (yX11_holdsEntry, cX11_holdsEntry, 2, (some (Jvm.ClassFile.FieldType.boolean)))
abbrev kX0_forgetRule : gMd := (yX0_forgetRule, cX0_forgetRule, 5, none)
abbrev kX11_countEntries : gMd := (yX11_countEntries, cX11_countEntries, 3, (some (Jvm.ClassFile.FieldType.int)))
abbrev kX11_parameter : gMd := (yX11_parameter, cX11_parameter, 4, (some (Jvm.ClassFile.FieldType.int)))
abbrev kX2_forgetAll : gMd := (yX2_forgetAll, cX2_forgetAll, 2, none)
abbrev kX11_pass : gMd := (yX11_pass, cX11_pass, 2, (some (Jvm.ClassFile.FieldType.int)))
abbrev kX11_isSpan : gMd := (yX11_isSpan, cX11_isSpan, 1, (some (Jvm.ClassFile.FieldType.boolean)))
abbrev kX9_steps : gMd := (yX9_steps, cX9_steps, 4, (some (Jvm.ClassFile.FieldType.int)))
abbrev kX9_step : gMd := (yX9_step, cX9_step, 4, (some (Jvm.ClassFile.FieldType.int)))
abbrev kX7_holding : gMd := (yX7_holding, cX7_holding, 5, (some (Jvm.ClassFile.FieldType.long)))
abbrev kX7_acceptedSeries : gMd := (yX7_acceptedSeries, cX7_acceptedSeries, 5, (some (Jvm.ClassFile.FieldType.long)))
abbrev kX6_accepts : gMd := (yX6_accepts, cX6_accepts, 2, (some (Jvm.ClassFile.FieldType.boolean)))
abbrev kX7_matched : gMd := (yX7_matched, cX7_matched, 7, (some (Jvm.ClassFile.FieldType.long)))
abbrev kX0_advance : gMd := (yX0_advance, cX0_advance, 6, none)
abbrev kX11_has : gMd := (yX11_has, cX11_has, 3, (some (Jvm.ClassFile.FieldType.boolean)))
abbrev kX7_waitOf : gMd := (yX7_waitOf, cX7_waitOf, 3, (some (Jvm.ClassFile.FieldType.int)))
abbrev kX0_rise : gMd := (yX0_rise, cX0_rise, 4, none)
abbrev kX0_stateOf : gMd := (yX0_stateOf, cX0_stateOf, 2, (some (Jvm.ClassFile.FieldType.int)))
abbrev kX0_remember : gMd := (yX0_remember, cX0_remember, 3, none)
abbrev kX0_settle : gMd := (yX0_settle, cX0_settle, 3, none)
abbrev kX9_active : gMd := (yX9_active, cX9_active, 3, (some (Jvm.ClassFile.FieldType.long)))
abbrev kX9_silenced : gMd := (yX9_silenced, cX9_silenced, 4, (some (Jvm.ClassFile.FieldType.long)))
abbrev kX9_silencedBy : gMd := (yX9_silencedBy, cX9_silencedBy, 3, (some (Jvm.ClassFile.FieldType.long)))
abbrev kX8_isOn : gMd := (yX8_isOn, cX8_isOn, 2, (some (Jvm.ClassFile.FieldType.boolean)))
abbrev kX9_inhibited : gMd := (yX9_inhibited, cX9_inhibited, 5, (some (Jvm.ClassFile.FieldType.long)))
abbrev kX9_inhibitedBy : gMd := (yX9_inhibitedBy, cX9_inhibitedBy, 13, (some (Jvm.ClassFile.FieldType.long)))
abbrev kX7_alike : gMd := (yX7_alike, cX7_alike, 7, (some (Jvm.ClassFile.FieldType.long)))
abbrev kJ13_bitCount_95d88 : gMd := (yJ13_bitCount_95d88, cJ13_bitCount_95d88, 2, (some (Jvm.ClassFile.FieldType.int)))
abbrev kX9_flapping : gMd := (yX9_flapping, cX9_flapping, 3, (some (Jvm.ClassFile.FieldType.long)))
abbrev kX9_windowStart : gMd := (yX9_windowStart, cX9_windowStart, 1, (some (Jvm.ClassFile.FieldType.int)))
abbrev kX0_flapping : gMd := (yX0_flapping, cX0_flapping, 8, (some (Jvm.ClassFile.FieldType.long)))
abbrev kX0_transitionsAfter : gMd := (yX0_transitionsAfter, cX0_transitionsAfter, 5, (some (Jvm.ClassFile.FieldType.int)))
abbrev kX2_sort : gMd := (yX2_sort, cX2_sort, 5, none)
abbrev kX7_keyOf : gMd := (yX7_keyOf, cX7_keyOf, 4, (some (Jvm.ClassFile.FieldType.int)))
abbrev kX2_dueKind : gMd := (yX2_dueKind, cX2_dueKind, 5, (some (Jvm.ClassFile.FieldType.int)))
abbrev kX2_newcomers : gMd := (yX2_newcomers, cX2_newcomers, 2, (some (Jvm.ClassFile.FieldType.long)))
abbrev kX9_sendGroup : gMd := (yX9_sendGroup, cX9_sendGroup, 5, none)
abbrev kX2_markSent : gMd := (yX2_markSent, cX2_markSent, 4, none)
abbrev kX7_greatestSeverity : gMd := (yX7_greatestSeverity, cX7_greatestSeverity, 4, (some (Jvm.ClassFile.FieldType.int)))
abbrev kX4_write : gMd := (yX4_write, cX4_write, 7, none)
abbrev kX11_alert : gMd := (yX11_alert, cX11_alert, 5, (some (Jvm.ClassFile.FieldType.int)))
abbrev kX0_sinceOf : gMd := (yX0_sinceOf, cX0_sinceOf, 2, (some (Jvm.ClassFile.FieldType.int)))
abbrev kX9_inhibitorsOf : gMd := (yX9_inhibitorsOf, cX9_inhibitorsOf, 6, (some (Jvm.ClassFile.FieldType.long)))
abbrev kX9_lowestSilenceOf : gMd := (yX9_lowestSilenceOf, cX9_lowestSilenceOf, 3, (some (Jvm.ClassFile.FieldType.int)))
abbrev kX11_lowest : gMd := (yX11_lowest, cX11_lowest, 2, (some (Jvm.ClassFile.FieldType.int)))
abbrev kJ13_numberOfTrailingZeros_95d88 : gMd := (yJ13_numberOfTrailingZeros_95d88, cJ13_numberOfTrailingZeros_95d88, 3, (some (Jvm.ClassFile.FieldType.int)))
abbrev kJ6_numberOfTrailingZeros_0f7a4 : gMd := (yJ6_numberOfTrailingZeros_0f7a4, cJ6_numberOfTrailingZeros_0f7a4, 2, (some (Jvm.ClassFile.FieldType.int)))
abbrev kX11_alerts : gMd := (yX11_alerts, cX11_alerts, 2, (some (Jvm.ClassFile.FieldType.long)))
abbrev kX11_group : gMd := (yX11_group, cX11_group, 3, (some (Jvm.ClassFile.FieldType.int)))
abbrev kX2_nextMinute : gMd := (yX2_nextMinute, cX2_nextMinute, 6, (some (Jvm.ClassFile.FieldType.int)))
abbrev kJ9_min_7cf53 : gMd := (yJ9_min_7cf53, cJ9_min_7cf53, 2, (some (Jvm.ClassFile.FieldType.int)))
abbrev kJ9_max_7cf53 : gMd := (yJ9_max_7cf53, cJ9_max_7cf53, 2, (some (Jvm.ClassFile.FieldType.int)))
abbrev kX11_key : gMd := (yX11_key, cX11_key, 2, (some (Jvm.ClassFile.FieldType.int)))
abbrev kX2_countNonEmpty : gMd := (yX2_countNonEmpty, cX2_countNonEmpty, 3, (some (Jvm.ClassFile.FieldType.int)))
abbrev kX2_keyAt : gMd := (yX2_keyAt, cX2_keyAt, 4, (some (Jvm.ClassFile.FieldType.int)))
abbrev kX11_sent : gMd := (yX11_sent, cX11_sent, 3, (some (Jvm.ClassFile.FieldType.int)))
abbrev kX4_keeps : gMd := (yX4_keeps, cX4_keeps, 2, (some (Jvm.ClassFile.FieldType.boolean)))
abbrev kX4_read : gMd := (yX4_read, cX4_read, 3, (some (Jvm.ClassFile.FieldType.int)))
abbrev kX11_ahead : gMd := (yX11_ahead, cX11_ahead, 2, (some (Jvm.ClassFile.FieldType.int)))
abbrev kX9_copyFrom : gMd := (yX9_copyFrom, cX9_copyFrom, 2, none)
abbrev kX7_copyFrom : gMd := (yX7_copyFrom, cX7_copyFrom, 3, none)
abbrev kX0_copyFrom : gMd := (yX0_copyFrom, cX0_copyFrom, 2, none)
abbrev kX2_copyFrom : gMd := (yX2_copyFrom, cX2_copyFrom, 3, none)
abbrev kX4_copyFrom : gMd := (yX4_copyFrom, cX4_copyFrom, 2, none)
abbrev kX11_next : gMd := (yX11_next, cX11_next, 3, (some (Jvm.ClassFile.FieldType.int)))
abbrev kX11_saved : gMd := (yX11_saved, cX11_saved, 4, (some (Jvm.ClassFile.FieldType.int)))
abbrev kX11_image : gMd := (yX11_image, cX11_image, 1, (some (Jvm.ClassFile.FieldType.int)))
abbrev kX11_undo : gMd := (yX11_undo, cX11_undo, 1, (some (Jvm.ClassFile.FieldType.int)))
abbrev kX11_count : gMd := (yX11_count, cX11_count, 2, (some (Jvm.ClassFile.FieldType.int)))
abbrev kX7_countValues : gMd := (yX7_countValues, cX7_countValues, 3, (some (Jvm.ClassFile.FieldType.int)))
abbrev kX2_countOpen : gMd := (yX2_countOpen, cX2_countOpen, 3, (some (Jvm.ClassFile.FieldType.int)))
abbrev kX9_countSilencesInUse : gMd := (yX9_countSilencesInUse, cX9_countSilencesInUse, 3, (some (Jvm.ClassFile.FieldType.int)))
abbrev kX11_parameterOrNone : gMd := (yX11_parameterOrNone, cX11_parameterOrNone, 2, (some (Jvm.ClassFile.FieldType.int)))
abbrev kX12_init : gMd := (yX12_init, cX12_init, 1, none)
abbrev kX12_label : gMd := (yX12_label, cX12_label, 5, (some (Jvm.ClassFile.FieldType.int)))
abbrev kX12_isIn : gMd := (yX12_isIn, cX12_isIn, 3, (some (Jvm.ClassFile.FieldType.boolean)))
abbrev kX12_sample : gMd := (yX12_sample, cX12_sample, 4, (some (Jvm.ClassFile.FieldType.int)))
abbrev kX12_drop : gMd := (yX12_drop, cX12_drop, 3, (some (Jvm.ClassFile.FieldType.int)))
abbrev kX12_feed : gMd := (yX12_feed, cX12_feed, 8, (some (Jvm.ClassFile.FieldType.int)))
abbrev kX12_add : gMd := (yX12_add, cX12_add, 4, (some (Jvm.ClassFile.FieldType.int)))
abbrev kX12_many : gMd := (yX12_many, cX12_many, 4, (some (Jvm.ClassFile.FieldType.int)))
abbrev kX12_most : gMd := (yX12_most, cX12_most, 1, (some (Jvm.ClassFile.FieldType.int)))
abbrev kX12_isOne : gMd := (yX12_isOne, cX12_isOne, 3, (some (Jvm.ClassFile.FieldType.boolean)))
abbrev kX12_first : gMd := (yX12_first, cX12_first, 1, (some (Jvm.ClassFile.FieldType.int)))
abbrev kX12_wide : gMd := (yX12_wide, cX12_wide, 1, (some (Jvm.ClassFile.FieldType.int)))
abbrev kX12_rule : gMd := (yX12_rule, cX12_rule, 3, none)
abbrev kX12_here : gMd := (yX12_here, cX12_here, 1, (some (Jvm.ClassFile.FieldType.int)))
abbrev kX12_matchers : gMd := (yX12_matchers, cX12_matchers, 5, none)
abbrev kX12_matcher : gMd := (yX12_matcher, cX12_matcher, 5, (some (Jvm.ClassFile.FieldType.int)))
abbrev kX12_digit : gMd := (yX12_digit, cX12_digit, 3, (some (Jvm.ClassFile.FieldType.int)))
abbrev kX12_sign : gMd := (yX12_sign, cX12_sign, 2, none)
abbrev kX12_number : gMd := (yX12_number, cX12_number, 3, (some (Jvm.ClassFile.FieldType.int)))
abbrev kX12_silence : gMd := (yX12_silence, cX12_silence, 1, none)
abbrev kX12_inhibition : gMd := (yX12_inhibition, cX12_inhibition, 3, none)
abbrev kX12_remove : gMd := (yX12_remove, cX12_remove, 4, (some (Jvm.ClassFile.FieldType.int)))
abbrev kX12_parameter : gMd := (yX12_parameter, cX12_parameter, 5, (some (Jvm.ClassFile.FieldType.int)))
abbrev kX12_pass : gMd := (yX12_pass, cX12_pass, 4, (some (Jvm.ClassFile.FieldType.int)))
abbrev kX12_step : gMd := (yX12_step, cX12_step, 9, (some (Jvm.ClassFile.FieldType.int)))
abbrev kX12_goesOn : gMd := (yX12_goesOn, cX12_goesOn, 3, none)
abbrev kX12_holds : gMd := (yX12_holds, cX12_holds, 5, (some (Jvm.ClassFile.FieldType.boolean)))
abbrev kX12_matches : gMd := (yX12_matches, cX12_matches, 7, (some (Jvm.ClassFile.FieldType.boolean)))
abbrev kX12_turns : gMd := (yX12_turns, cX12_turns, 4, none)
abbrev kX12_actives : gMd := (yX12_actives, cX12_actives, 4, (some (Jvm.ClassFile.FieldType.long)))
abbrev kX12_isActive : gMd := (yX12_isActive, cX12_isActive, 2, (some (Jvm.ClassFile.FieldType.boolean)))
abbrev kX12_state : gMd := (yX12_state, cX12_state, 2, (some (Jvm.ClassFile.FieldType.int)))
abbrev kX12_silenceOf : gMd := (yX12_silenceOf, cX12_silenceOf, 3, (some (Jvm.ClassFile.FieldType.int)))
abbrev kX12_isSilencedBy : gMd := (yX12_isSilencedBy, cX12_isSilencedBy, 4, (some (Jvm.ClassFile.FieldType.boolean)))
abbrev kX12_isFlapping : gMd := (yX12_isFlapping, cX12_isFlapping, 2, (some (Jvm.ClassFile.FieldType.boolean)))
abbrev kX12_flaps : gMd := (yX12_flaps, cX12_flaps, 5, (some (Jvm.ClassFile.FieldType.int)))
abbrev kX12_inhibitorOf : gMd := (yX12_inhibitorOf, cX12_inhibitorOf, 3, (some (Jvm.ClassFile.FieldType.int)))
abbrev kX12_isInhibitedBy : gMd := (yX12_isInhibitedBy, cX12_isInhibitedBy, 7, (some (Jvm.ClassFile.FieldType.boolean)))
abbrev kX12_withKey : gMd := (yX12_withKey, cX12_withKey, 7, (some (Jvm.ClassFile.FieldType.long)))
abbrev kX12_keyOf : gMd := (yX12_keyOf, cX12_keyOf, 4, (some (Jvm.ClassFile.FieldType.int)))
abbrev kX12_sends : gMd := (yX12_sends, cX12_sends, 6, none)
abbrev kX12_size : gMd := (yX12_size, cX12_size, 4, (some (Jvm.ClassFile.FieldType.int)))
abbrev kX12_greatest : gMd := (yX12_greatest, cX12_greatest, 5, (some (Jvm.ClassFile.FieldType.int)))
abbrev kX12_severity : gMd := (yX12_severity, cX12_severity, 2, (some (Jvm.ClassFile.FieldType.int)))
abbrev kX12_alert : gMd := (yX12_alert, cX12_alert, 5, (some (Jvm.ClassFile.FieldType.int)))
abbrev kX12_alerts : gMd := (yX12_alerts, cX12_alerts, 5, (some (Jvm.ClassFile.FieldType.long)))
abbrev kX12_isOf : gMd := (yX12_isOf, cX12_isOf, 3, (some (Jvm.ClassFile.FieldType.boolean)))
abbrev kX12_group : gMd := (yX12_group, cX12_group, 11, (some (Jvm.ClassFile.FieldType.int)))
abbrev kX12_later : gMd := (yX12_later, cX12_later, 2, (some (Jvm.ClassFile.FieldType.int)))
abbrev kX12_key : gMd := (yX12_key, cX12_key, 6, (some (Jvm.ClassFile.FieldType.int)))
abbrev kX12_sent : gMd := (yX12_sent, cX12_sent, 4, (some (Jvm.ClassFile.FieldType.int)))
abbrev kX12_ahead : gMd := (yX12_ahead, cX12_ahead, 2, (some (Jvm.ClassFile.FieldType.int)))
abbrev kX12_looks : gMd := (yX12_looks, cX12_looks, 6, (some (Jvm.ClassFile.FieldType.int)))
abbrev kX12_copies : gMd := (yX12_copies, cX12_copies, 5, none)
abbrev kX12_next : gMd := (yX12_next, cX12_next, 2, (some (Jvm.ClassFile.FieldType.int)))
abbrev kX12_saved : gMd := (yX12_saved, cX12_saved, 5, (some (Jvm.ClassFile.FieldType.int)))
abbrev kX12_image : gMd := (yX12_image, cX12_image, 1, (some (Jvm.ClassFile.FieldType.int)))
abbrev kX12_undo : gMd := (yX12_undo, cX12_undo, 1, (some (Jvm.ClassFile.FieldType.int)))
abbrev kX12_count : gMd := (yX12_count, cX12_count, 4, (some (Jvm.ClassFile.FieldType.int)))
abbrev kX12_silencing : gMd := (yX12_silencing, cX12_silencing, 5, (some (Jvm.ClassFile.FieldType.int)))
abbrev kL_law : gMd := (yL_law, cL_law, 4, some .boolean)
end
section
theorem dX12_init_0 : decode cX12_init 0 = .ok (.aload_n 0, 1) := by decide +kernel
theorem dX12_init_1 : decode cX12_init 1 = .ok (.invokespecial 3, 3) := by decide +kernel
theorem dX12_init_4 : decode cX12_init 4 = .ok (.aload_n 0, 1) := by decide +kernel
theorem dX12_init_5 : decode cX12_init 5 = .ok (.sipush 1999, 3) := by decide +kernel
theorem dX12_init_8 : decode cX12_init 8 = .ok (.newarray .int, 2) := by decide +kernel
theorem dX12_init_10 : decode cX12_init 10 = .ok (.putfield 9, 3) := by decide +kernel
theorem dX12_init_13 : decode cX12_init 13 = .ok (.aload_n 0, 1) := by decide +kernel
theorem dX12_init_14 : decode cX12_init 14 = .ok (.sipush 1999, 3) := by decide +kernel
theorem dX12_init_17 : decode cX12_init 17 = .ok (.newarray .int, 2) := by decide +kernel
theorem dX12_init_19 : decode cX12_init 19 = .ok (.putfield 13, 3) := by decide +kernel
theorem dX12_init_22 : decode cX12_init 22 = .ok (.aload_n 0, 1) := by decide +kernel
theorem dX12_init_23 : decode cX12_init 23 = .ok (.sipush 1999, 3) := by decide +kernel
theorem dX12_init_26 : decode cX12_init 26 = .ok (.newarray .int, 2) := by decide +kernel
theorem dX12_init_28 : decode cX12_init 28 = .ok (.putfield 16, 3) := by decide +kernel
theorem dX12_init_31 : decode cX12_init 31 = .ok (.aload_n 0, 1) := by decide +kernel
theorem dX12_init_32 : decode cX12_init 32 = .ok (.sipush 128, 3) := by decide +kernel
theorem dX12_init_35 : decode cX12_init 35 = .ok (.newarray .long, 2) := by decide +kernel
theorem dX12_init_37 : decode cX12_init 37 = .ok (.putfield 19, 3) := by decide +kernel
theorem dX12_init_40 : decode cX12_init 40 = .ok (.aload_n 0, 1) := by decide +kernel
theorem dX12_init_41 : decode cX12_init 41 = .ok (.sipush 128, 3) := by decide +kernel
theorem dX12_init_44 : decode cX12_init 44 = .ok (.newarray .long, 2) := by decide +kernel
theorem dX12_init_46 : decode cX12_init 46 = .ok (.putfield 23, 3) := by decide +kernel
theorem dX12_init_49 : decode cX12_init 49 = .ok (.aload_n 0, 1) := by decide +kernel
theorem dX12_init_50 : decode cX12_init 50 = .ok (.sipush 128, 3) := by decide +kernel
theorem dX12_init_53 : decode cX12_init 53 = .ok (.newarray .long, 2) := by decide +kernel
theorem dX12_init_55 : decode cX12_init 55 = .ok (.putfield 26, 3) := by decide +kernel
theorem dX12_init_58 : decode cX12_init 58 = .ok (.aload_n 0, 1) := by decide +kernel
theorem dX12_init_59 : decode cX12_init 59 = .ok (.bipush 60, 2) := by decide +kernel
theorem dX12_init_61 : decode cX12_init 61 = .ok (.newarray .int, 2) := by decide +kernel
theorem dX12_init_63 : decode cX12_init 63 = .ok (.putfield 29, 3) := by decide +kernel
theorem dX12_init_66 : decode cX12_init 66 = .ok (.aload_n 0, 1) := by decide +kernel
theorem dX12_init_67 : decode cX12_init 67 = .ok (.bipush 12, 2) := by decide +kernel
theorem dX12_init_69 : decode cX12_init 69 = .ok (.newarray .int, 2) := by decide +kernel
theorem dX12_init_71 : decode cX12_init 71 = .ok (.putfield 32, 3) := by decide +kernel
theorem dX12_init_74 : decode cX12_init 74 = .ok (.aload_n 0, 1) := by decide +kernel
theorem dX12_init_75 : decode cX12_init 75 = .ok (.getfield 9, 3) := by decide +kernel
theorem dX12_init_78 : decode cX12_init 78 = .ok (.sipush 1842, 3) := by decide +kernel
theorem dX12_init_81 : decode cX12_init 81 = .ok (.iconst 5, 1) := by decide +kernel
theorem dX12_init_82 : decode cX12_init 82 = .ok (.iastore, 1) := by decide +kernel
theorem dX12_init_83 : decode cX12_init 83 = .ok (.aload_n 0, 1) := by decide +kernel
theorem dX12_init_84 : decode cX12_init 84 = .ok (.getfield 9, 3) := by decide +kernel
theorem dX12_init_87 : decode cX12_init 87 = .ok (.sipush 1843, 3) := by decide +kernel
theorem dX12_init_90 : decode cX12_init 90 = .ok (.bipush 60, 2) := by decide +kernel
theorem dX12_init_92 : decode cX12_init 92 = .ok (.iastore, 1) := by decide +kernel
theorem dX12_init_93 : decode cX12_init 93 = .ok (.aload_n 0, 1) := by decide +kernel
theorem dX12_init_94 : decode cX12_init 94 = .ok (.getfield 9, 3) := by decide +kernel
theorem dX12_init_97 : decode cX12_init 97 = .ok (.sipush 1844, 3) := by decide +kernel
theorem dX12_init_100 : decode cX12_init 100 = .ok (.bipush 30, 2) := by decide +kernel
theorem dX12_init_102 : decode cX12_init 102 = .ok (.iastore, 1) := by decide +kernel
theorem dX12_init_103 : decode cX12_init 103 = .ok (.aload_n 0, 1) := by decide +kernel
theorem dX12_init_104 : decode cX12_init 104 = .ok (.getfield 9, 3) := by decide +kernel
theorem dX12_init_107 : decode cX12_init 107 = .ok (.sipush 1845, 3) := by decide +kernel
theorem dX12_init_110 : decode cX12_init 110 = .ok (.iconst 4, 1) := by decide +kernel
theorem dX12_init_111 : decode cX12_init 111 = .ok (.iastore, 1) := by decide +kernel
theorem dX12_init_112 : decode cX12_init 112 = .ok (.aload_n 0, 1) := by decide +kernel
theorem dX12_init_113 : decode cX12_init 113 = .ok (.getfield 9, 3) := by decide +kernel
theorem dX12_init_116 : decode cX12_init 116 = .ok (.sipush 1846, 3) := by decide +kernel
theorem dX12_init_119 : decode cX12_init 119 = .ok (.iconst 1, 1) := by decide +kernel
theorem dX12_init_120 : decode cX12_init 120 = .ok (.iastore, 1) := by decide +kernel
theorem dX12_init_121 : decode cX12_init 121 = .ok (.return_, 1) := by decide +kernel
theorem dX12_isIn_0 : decode cX12_isIn 0 = .ok (.iload_n 0, 1) := by decide +kernel
theorem dX12_isIn_1 : decode cX12_isIn 1 = .ok (.iload_n 1, 1) := by decide +kernel
theorem dX12_isIn_2 : decode cX12_isIn 2 = .ok (.if_icmp .lt 12, 3) := by decide +kernel
theorem dX12_isIn_5 : decode cX12_isIn 5 = .ok (.iload_n 0, 1) := by decide +kernel
theorem dX12_isIn_6 : decode cX12_isIn 6 = .ok (.iload_n 2, 1) := by decide +kernel
theorem dX12_isIn_7 : decode cX12_isIn 7 = .ok (.if_icmp .gt 7, 3) := by decide +kernel
theorem dX12_isIn_10 : decode cX12_isIn 10 = .ok (.iconst 1, 1) := by decide +kernel
theorem dX12_isIn_11 : decode cX12_isIn 11 = .ok (.goto 4, 3) := by decide +kernel
theorem dX12_isIn_14 : decode cX12_isIn 14 = .ok (.iconst 0, 1) := by decide +kernel
theorem dX12_isIn_15 : decode cX12_isIn 15 = .ok (.ireturn, 1) := by decide +kernel
theorem dX12_copies_0 : decode cX12_copies 0 = .ok (.iconst 0, 1) := by decide +kernel
theorem dX12_copies_1 : decode cX12_copies 1 = .ok (.istore 4, 2) := by decide +kernel
theorem dX12_copies_3 : decode cX12_copies 3 = .ok (.iload 4, 2) := by decide +kernel
theorem dX12_copies_5 : decode cX12_copies 5 = .ok (.sipush 1999, 3) := by decide +kernel
theorem dX12_copies_8 : decode cX12_copies 8 = .ok (.if_icmp .ge 17, 3) := by decide +kernel
theorem dX12_copies_11 : decode cX12_copies 11 = .ok (.aload_n 1, 1) := by decide +kernel
theorem dX12_copies_12 : decode cX12_copies 12 = .ok (.iload 4, 2) := by decide +kernel
theorem dX12_copies_14 : decode cX12_copies 14 = .ok (.aload_n 0, 1) := by decide +kernel
theorem dX12_copies_15 : decode cX12_copies 15 = .ok (.iload 4, 2) := by decide +kernel
theorem dX12_copies_17 : decode cX12_copies 17 = .ok (.iaload, 1) := by decide +kernel
theorem dX12_copies_18 : decode cX12_copies 18 = .ok (.iastore, 1) := by decide +kernel
theorem dX12_copies_19 : decode cX12_copies 19 = .ok (.iinc 4 1, 3) := by decide +kernel
theorem dX12_copies_22 : decode cX12_copies 22 = .ok (.goto (-19), 3) := by decide +kernel
theorem dX12_copies_25 : decode cX12_copies 25 = .ok (.iconst 0, 1) := by decide +kernel
theorem dX12_copies_26 : decode cX12_copies 26 = .ok (.istore 4, 2) := by decide +kernel
theorem dX12_copies_28 : decode cX12_copies 28 = .ok (.iload 4, 2) := by decide +kernel
theorem dX12_copies_30 : decode cX12_copies 30 = .ok (.sipush 128, 3) := by decide +kernel
theorem dX12_copies_33 : decode cX12_copies 33 = .ok (.if_icmp .ge 17, 3) := by decide +kernel
theorem dX12_copies_36 : decode cX12_copies 36 = .ok (.aload_n 3, 1) := by decide +kernel
theorem dX12_copies_37 : decode cX12_copies 37 = .ok (.iload 4, 2) := by decide +kernel
theorem dX12_copies_39 : decode cX12_copies 39 = .ok (.aload_n 2, 1) := by decide +kernel
theorem dX12_copies_40 : decode cX12_copies 40 = .ok (.iload 4, 2) := by decide +kernel
theorem dX12_copies_42 : decode cX12_copies 42 = .ok (.laload, 1) := by decide +kernel
theorem dX12_copies_43 : decode cX12_copies 43 = .ok (.lastore, 1) := by decide +kernel
theorem dX12_copies_44 : decode cX12_copies 44 = .ok (.iinc 4 1, 3) := by decide +kernel
theorem dX12_copies_47 : decode cX12_copies 47 = .ok (.goto (-19), 3) := by decide +kernel
theorem dX12_copies_50 : decode cX12_copies 50 = .ok (.return_, 1) := by decide +kernel
theorem dX12_label_0 : decode cX12_label 0 = .ok (.iload_n 1, 1) := by decide +kernel
theorem dX12_label_1 : decode cX12_label 1 = .ok (.iconst 0, 1) := by decide +kernel
theorem dX12_label_2 : decode cX12_label 2 = .ok (.bipush 11, 2) := by decide +kernel
theorem dX12_label_4 : decode cX12_label 4 = .ok (.invokestatic 35, 3) := by decide +kernel
theorem dX12_label_7 : decode cX12_label 7 = .ok (.ifCond .eq 12, 3) := by decide +kernel
theorem dX12_label_10 : decode cX12_label 10 = .ok (.iload_n 2, 1) := by decide +kernel
theorem dX12_label_11 : decode cX12_label 11 = .ok (.iconst 0, 1) := by decide +kernel
theorem dX12_label_12 : decode cX12_label 12 = .ok (.iconst 2, 1) := by decide +kernel
theorem dX12_label_13 : decode cX12_label 13 = .ok (.invokestatic 35, 3) := by decide +kernel
theorem dX12_label_16 : decode cX12_label 16 = .ok (.ifCond .ne 5, 3) := by decide +kernel
theorem dX12_label_19 : decode cX12_label 19 = .ok (.iconst (-1), 1) := by decide +kernel
theorem dX12_label_20 : decode cX12_label 20 = .ok (.ireturn, 1) := by decide +kernel
theorem dX12_label_21 : decode cX12_label 21 = .ok (.iload_n 3, 1) := by decide +kernel
theorem dX12_label_22 : decode cX12_label 22 = .ok (.iconst 0, 1) := by decide +kernel
theorem dX12_label_23 : decode cX12_label 23 = .ok (.iload_n 2, 1) := by decide +kernel
theorem dX12_label_24 : decode cX12_label 24 = .ok (.iconst 1, 1) := by decide +kernel
theorem dX12_label_25 : decode cX12_label 25 = .ok (.if_icmp .ne 8, 3) := by decide +kernel
theorem dX12_label_28 : decode cX12_label 28 = .ok (.bipush 7, 2) := by decide +kernel
theorem dX12_label_30 : decode cX12_label 30 = .ok (.goto 4, 3) := by decide +kernel
theorem dX12_label_33 : decode cX12_label 33 = .ok (.iconst 3, 1) := by decide +kernel
theorem dX12_label_34 : decode cX12_label 34 = .ok (.invokestatic 35, 3) := by decide +kernel
theorem dX12_label_37 : decode cX12_label 37 = .ok (.ifCond .ne 6, 3) := by decide +kernel
theorem dX12_label_40 : decode cX12_label 40 = .ok (.bipush (-2), 2) := by decide +kernel
theorem dX12_label_42 : decode cX12_label 42 = .ok (.ireturn, 1) := by decide +kernel
theorem dX12_label_43 : decode cX12_label 43 = .ok (.aload_n 0, 1) := by decide +kernel
theorem dX12_label_44 : decode cX12_label 44 = .ok (.getfield 9, 3) := by decide +kernel
theorem dX12_label_47 : decode cX12_label 47 = .ok (.iconst 0, 1) := by decide +kernel
theorem dX12_label_48 : decode cX12_label 48 = .ok (.iconst 3, 1) := by decide +kernel
theorem dX12_label_49 : decode cX12_label 49 = .ok (.iload_n 1, 1) := by decide +kernel
theorem dX12_label_50 : decode cX12_label 50 = .ok (.imul, 1) := by decide +kernel
theorem dX12_label_51 : decode cX12_label 51 = .ok (.iadd, 1) := by decide +kernel
theorem dX12_label_52 : decode cX12_label 52 = .ok (.iload_n 2, 1) := by decide +kernel
theorem dX12_label_53 : decode cX12_label 53 = .ok (.iadd, 1) := by decide +kernel
theorem dX12_label_54 : decode cX12_label 54 = .ok (.iaload, 1) := by decide +kernel
theorem dX12_label_55 : decode cX12_label 55 = .ok (.istore 4, 2) := by decide +kernel
theorem dX12_label_57 : decode cX12_label 57 = .ok (.aload_n 0, 1) := by decide +kernel
theorem dX12_label_58 : decode cX12_label 58 = .ok (.getfield 9, 3) := by decide +kernel
theorem dX12_label_61 : decode cX12_label 61 = .ok (.iconst 0, 1) := by decide +kernel
theorem dX12_label_62 : decode cX12_label 62 = .ok (.iconst 3, 1) := by decide +kernel
theorem dX12_label_63 : decode cX12_label 63 = .ok (.iload_n 1, 1) := by decide +kernel
theorem dX12_label_64 : decode cX12_label 64 = .ok (.imul, 1) := by decide +kernel
theorem dX12_label_65 : decode cX12_label 65 = .ok (.iadd, 1) := by decide +kernel
theorem dX12_label_66 : decode cX12_label 66 = .ok (.iload_n 2, 1) := by decide +kernel
theorem dX12_label_67 : decode cX12_label 67 = .ok (.iadd, 1) := by decide +kernel
theorem dX12_label_68 : decode cX12_label 68 = .ok (.iload_n 3, 1) := by decide +kernel
theorem dX12_label_69 : decode cX12_label 69 = .ok (.iastore, 1) := by decide +kernel
theorem dX12_label_70 : decode cX12_label 70 = .ok (.iload 4, 2) := by decide +kernel
theorem dX12_label_72 : decode cX12_label 72 = .ok (.ireturn, 1) := by decide +kernel
theorem dX12_sample_0 : decode cX12_sample 0 = .ok (.iload_n 1, 1) := by decide +kernel
theorem dX12_sample_1 : decode cX12_sample 1 = .ok (.iconst 0, 1) := by decide +kernel
theorem dX12_sample_2 : decode cX12_sample 2 = .ok (.bipush 11, 2) := by decide +kernel
theorem dX12_sample_4 : decode cX12_sample 4 = .ok (.invokestatic 35, 3) := by decide +kernel
theorem dX12_sample_7 : decode cX12_sample 7 = .ok (.ifCond .ne 5, 3) := by decide +kernel
theorem dX12_sample_10 : decode cX12_sample 10 = .ok (.iconst (-1), 1) := by decide +kernel
theorem dX12_sample_11 : decode cX12_sample 11 = .ok (.ireturn, 1) := by decide +kernel
theorem dX12_sample_12 : decode cX12_sample 12 = .ok (.aload_n 0, 1) := by decide +kernel
theorem dX12_sample_13 : decode cX12_sample 13 = .ok (.getfield 9, 3) := by decide +kernel
theorem dX12_sample_16 : decode cX12_sample 16 = .ok (.bipush 48, 2) := by decide +kernel
theorem dX12_sample_18 : decode cX12_sample 18 = .ok (.iload_n 1, 1) := by decide +kernel
theorem dX12_sample_19 : decode cX12_sample 19 = .ok (.iadd, 1) := by decide +kernel
theorem dX12_sample_20 : decode cX12_sample 20 = .ok (.iaload, 1) := by decide +kernel
theorem dX12_sample_21 : decode cX12_sample 21 = .ok (.istore_n 3, 1) := by decide +kernel
theorem dX12_sample_22 : decode cX12_sample 22 = .ok (.aload_n 0, 1) := by decide +kernel
theorem dX12_sample_23 : decode cX12_sample 23 = .ok (.getfield 9, 3) := by decide +kernel
theorem dX12_sample_26 : decode cX12_sample 26 = .ok (.bipush 48, 2) := by decide +kernel
theorem dX12_sample_28 : decode cX12_sample 28 = .ok (.iload_n 1, 1) := by decide +kernel
theorem dX12_sample_29 : decode cX12_sample 29 = .ok (.iadd, 1) := by decide +kernel
theorem dX12_sample_30 : decode cX12_sample 30 = .ok (.iconst 1, 1) := by decide +kernel
theorem dX12_sample_31 : decode cX12_sample 31 = .ok (.iastore, 1) := by decide +kernel
theorem dX12_sample_32 : decode cX12_sample 32 = .ok (.aload_n 0, 1) := by decide +kernel
theorem dX12_sample_33 : decode cX12_sample 33 = .ok (.getfield 9, 3) := by decide +kernel
theorem dX12_sample_36 : decode cX12_sample 36 = .ok (.bipush 36, 2) := by decide +kernel
theorem dX12_sample_38 : decode cX12_sample 38 = .ok (.iload_n 1, 1) := by decide +kernel
theorem dX12_sample_39 : decode cX12_sample 39 = .ok (.iadd, 1) := by decide +kernel
theorem dX12_sample_40 : decode cX12_sample 40 = .ok (.iload_n 2, 1) := by decide +kernel
theorem dX12_sample_41 : decode cX12_sample 41 = .ok (.iastore, 1) := by decide +kernel
theorem dX12_sample_42 : decode cX12_sample 42 = .ok (.iload_n 3, 1) := by decide +kernel
theorem dX12_sample_43 : decode cX12_sample 43 = .ok (.ireturn, 1) := by decide +kernel
theorem dX12_drop_0 : decode cX12_drop 0 = .ok (.iload_n 1, 1) := by decide +kernel
theorem dX12_drop_1 : decode cX12_drop 1 = .ok (.iconst 0, 1) := by decide +kernel
theorem dX12_drop_2 : decode cX12_drop 2 = .ok (.bipush 11, 2) := by decide +kernel
theorem dX12_drop_4 : decode cX12_drop 4 = .ok (.invokestatic 35, 3) := by decide +kernel
theorem dX12_drop_7 : decode cX12_drop 7 = .ok (.ifCond .ne 5, 3) := by decide +kernel
theorem dX12_drop_10 : decode cX12_drop 10 = .ok (.iconst (-1), 1) := by decide +kernel
theorem dX12_drop_11 : decode cX12_drop 11 = .ok (.ireturn, 1) := by decide +kernel
theorem dX12_drop_12 : decode cX12_drop 12 = .ok (.aload_n 0, 1) := by decide +kernel
theorem dX12_drop_13 : decode cX12_drop 13 = .ok (.getfield 9, 3) := by decide +kernel
theorem dX12_drop_16 : decode cX12_drop 16 = .ok (.bipush 48, 2) := by decide +kernel
theorem dX12_drop_18 : decode cX12_drop 18 = .ok (.iload_n 1, 1) := by decide +kernel
theorem dX12_drop_19 : decode cX12_drop 19 = .ok (.iadd, 1) := by decide +kernel
theorem dX12_drop_20 : decode cX12_drop 20 = .ok (.iaload, 1) := by decide +kernel
theorem dX12_drop_21 : decode cX12_drop 21 = .ok (.istore_n 2, 1) := by decide +kernel
theorem dX12_drop_22 : decode cX12_drop 22 = .ok (.aload_n 0, 1) := by decide +kernel
theorem dX12_drop_23 : decode cX12_drop 23 = .ok (.getfield 9, 3) := by decide +kernel
theorem dX12_drop_26 : decode cX12_drop 26 = .ok (.bipush 48, 2) := by decide +kernel
theorem dX12_drop_28 : decode cX12_drop 28 = .ok (.iload_n 1, 1) := by decide +kernel
theorem dX12_drop_29 : decode cX12_drop 29 = .ok (.iadd, 1) := by decide +kernel
theorem dX12_drop_30 : decode cX12_drop 30 = .ok (.iconst 0, 1) := by decide +kernel
theorem dX12_drop_31 : decode cX12_drop 31 = .ok (.iastore, 1) := by decide +kernel
theorem dX12_drop_32 : decode cX12_drop 32 = .ok (.aload_n 0, 1) := by decide +kernel
theorem dX12_drop_33 : decode cX12_drop 33 = .ok (.getfield 9, 3) := by decide +kernel
theorem dX12_drop_36 : decode cX12_drop 36 = .ok (.bipush 36, 2) := by decide +kernel
theorem dX12_drop_38 : decode cX12_drop 38 = .ok (.iload_n 1, 1) := by decide +kernel
theorem dX12_drop_39 : decode cX12_drop 39 = .ok (.iadd, 1) := by decide +kernel
theorem dX12_drop_40 : decode cX12_drop 40 = .ok (.iconst 0, 1) := by decide +kernel
theorem dX12_drop_41 : decode cX12_drop 41 = .ok (.iastore, 1) := by decide +kernel
theorem dX12_drop_42 : decode cX12_drop 42 = .ok (.iload_n 2, 1) := by decide +kernel
theorem dX12_drop_43 : decode cX12_drop 43 = .ok (.ireturn, 1) := by decide +kernel
theorem dX12_feed_0 : decode cX12_feed 0 = .ok (.iload_n 1, 1) := by decide +kernel
theorem dX12_feed_1 : decode cX12_feed 1 = .ok (.iconst 1, 1) := by decide +kernel
theorem dX12_feed_2 : decode cX12_feed 2 = .ok (.iconst 5, 1) := by decide +kernel
theorem dX12_feed_3 : decode cX12_feed 3 = .ok (.invokestatic 35, 3) := by decide +kernel
theorem dX12_feed_6 : decode cX12_feed 6 = .ok (.ifCond .eq 56, 3) := by decide +kernel
theorem dX12_feed_9 : decode cX12_feed 9 = .ok (.iload_n 2, 1) := by decide +kernel
theorem dX12_feed_10 : decode cX12_feed 10 = .ok (.iconst 0, 1) := by decide +kernel
theorem dX12_feed_11 : decode cX12_feed 11 = .ok (.bipush 127, 2) := by decide +kernel
theorem dX12_feed_13 : decode cX12_feed 13 = .ok (.invokestatic 35, 3) := by decide +kernel
theorem dX12_feed_16 : decode cX12_feed 16 = .ok (.ifCond .eq 46, 3) := by decide +kernel
theorem dX12_feed_19 : decode cX12_feed 19 = .ok (.iload_n 3, 1) := by decide +kernel
theorem dX12_feed_20 : decode cX12_feed 20 = .ok (.iconst 0, 1) := by decide +kernel
theorem dX12_feed_21 : decode cX12_feed 21 = .ok (.bipush 127, 2) := by decide +kernel
theorem dX12_feed_23 : decode cX12_feed 23 = .ok (.invokestatic 35, 3) := by decide +kernel
theorem dX12_feed_26 : decode cX12_feed 26 = .ok (.ifCond .eq 36, 3) := by decide +kernel
theorem dX12_feed_29 : decode cX12_feed 29 = .ok (.iload 4, 2) := by decide +kernel
theorem dX12_feed_31 : decode cX12_feed 31 = .ok (.iconst 0, 1) := by decide +kernel
theorem dX12_feed_32 : decode cX12_feed 32 = .ok (.bipush 127, 2) := by decide +kernel
theorem dX12_feed_34 : decode cX12_feed 34 = .ok (.invokestatic 35, 3) := by decide +kernel
theorem dX12_feed_37 : decode cX12_feed 37 = .ok (.ifCond .eq 25, 3) := by decide +kernel
theorem dX12_feed_40 : decode cX12_feed 40 = .ok (.iload 5, 2) := by decide +kernel
theorem dX12_feed_42 : decode cX12_feed 42 = .ok (.iconst 0, 1) := by decide +kernel
theorem dX12_feed_43 : decode cX12_feed 43 = .ok (.bipush 127, 2) := by decide +kernel
theorem dX12_feed_45 : decode cX12_feed 45 = .ok (.invokestatic 35, 3) := by decide +kernel
theorem dX12_feed_48 : decode cX12_feed 48 = .ok (.ifCond .eq 14, 3) := by decide +kernel
theorem dX12_feed_51 : decode cX12_feed 51 = .ok (.iload 6, 2) := by decide +kernel
theorem dX12_feed_53 : decode cX12_feed 53 = .ok (.iconst 0, 1) := by decide +kernel
theorem dX12_feed_54 : decode cX12_feed 54 = .ok (.bipush 127, 2) := by decide +kernel
theorem dX12_feed_56 : decode cX12_feed 56 = .ok (.invokestatic 35, 3) := by decide +kernel
theorem dX12_feed_59 : decode cX12_feed 59 = .ok (.ifCond .ne 6, 3) := by decide +kernel
theorem dX12_feed_62 : decode cX12_feed 62 = .ok (.bipush (-2), 2) := by decide +kernel
theorem dX12_feed_64 : decode cX12_feed 64 = .ok (.ireturn, 1) := by decide +kernel
theorem dX12_feed_65 : decode cX12_feed 65 = .ok (.aload_n 0, 1) := by decide +kernel
theorem dX12_feed_66 : decode cX12_feed 66 = .ok (.getfield 39, 3) := by decide +kernel
theorem dX12_feed_69 : decode cX12_feed 69 = .ok (.iload_n 1, 1) := by decide +kernel
theorem dX12_feed_70 : decode cX12_feed 70 = .ok (.iadd, 1) := by decide +kernel
theorem dX12_feed_71 : decode cX12_feed 71 = .ok (.bipush 60, 2) := by decide +kernel
theorem dX12_feed_73 : decode cX12_feed 73 = .ok (.if_icmp .le 6, 3) := by decide +kernel
theorem dX12_feed_76 : decode cX12_feed 76 = .ok (.bipush (-4), 2) := by decide +kernel
theorem dX12_feed_78 : decode cX12_feed 78 = .ok (.ireturn, 1) := by decide +kernel
theorem dX12_feed_79 : decode cX12_feed 79 = .ok (.iconst 0, 1) := by decide +kernel
theorem dX12_feed_80 : decode cX12_feed 80 = .ok (.istore 7, 2) := by decide +kernel
theorem dX12_feed_82 : decode cX12_feed 82 = .ok (.iload 7, 2) := by decide +kernel
theorem dX12_feed_84 : decode cX12_feed 84 = .ok (.iload_n 1, 1) := by decide +kernel
theorem dX12_feed_85 : decode cX12_feed 85 = .ok (.if_icmp .ge 64, 3) := by decide +kernel
theorem dX12_feed_88 : decode cX12_feed 88 = .ok (.aload_n 0, 1) := by decide +kernel
theorem dX12_feed_89 : decode cX12_feed 89 = .ok (.getfield 29, 3) := by decide +kernel
theorem dX12_feed_92 : decode cX12_feed 92 = .ok (.aload_n 0, 1) := by decide +kernel
theorem dX12_feed_93 : decode cX12_feed 93 = .ok (.getfield 39, 3) := by decide +kernel
theorem dX12_feed_96 : decode cX12_feed 96 = .ok (.iload 7, 2) := by decide +kernel
theorem dX12_feed_98 : decode cX12_feed 98 = .ok (.iadd, 1) := by decide +kernel
theorem dX12_feed_99 : decode cX12_feed 99 = .ok (.iload 7, 2) := by decide +kernel
theorem dX12_feed_101 : decode cX12_feed 101 = .ok (.ifCond .ne 7, 3) := by decide +kernel
theorem dX12_feed_104 : decode cX12_feed 104 = .ok (.iload_n 2, 1) := by decide +kernel
theorem dX12_feed_105 : decode cX12_feed 105 = .ok (.goto 37, 3) := by decide +kernel
theorem dX12_feed_108 : decode cX12_feed 108 = .ok (.iload 7, 2) := by decide +kernel
theorem dX12_feed_110 : decode cX12_feed 110 = .ok (.iconst 1, 1) := by decide +kernel
theorem dX12_feed_111 : decode cX12_feed 111 = .ok (.if_icmp .ne 7, 3) := by decide +kernel
theorem dX12_feed_114 : decode cX12_feed 114 = .ok (.iload_n 3, 1) := by decide +kernel
theorem dX12_feed_115 : decode cX12_feed 115 = .ok (.goto 27, 3) := by decide +kernel
theorem dX12_feed_118 : decode cX12_feed 118 = .ok (.iload 7, 2) := by decide +kernel
theorem dX12_feed_120 : decode cX12_feed 120 = .ok (.iconst 2, 1) := by decide +kernel
theorem dX12_feed_121 : decode cX12_feed 121 = .ok (.if_icmp .ne 8, 3) := by decide +kernel
theorem dX12_feed_124 : decode cX12_feed 124 = .ok (.iload 4, 2) := by decide +kernel
theorem dX12_feed_126 : decode cX12_feed 126 = .ok (.goto 16, 3) := by decide +kernel
theorem dX12_feed_129 : decode cX12_feed 129 = .ok (.iload 7, 2) := by decide +kernel
theorem dX12_feed_131 : decode cX12_feed 131 = .ok (.iconst 3, 1) := by decide +kernel
theorem dX12_feed_132 : decode cX12_feed 132 = .ok (.if_icmp .ne 8, 3) := by decide +kernel
theorem dX12_feed_135 : decode cX12_feed 135 = .ok (.iload 5, 2) := by decide +kernel
theorem dX12_feed_137 : decode cX12_feed 137 = .ok (.goto 5, 3) := by decide +kernel
theorem dX12_feed_140 : decode cX12_feed 140 = .ok (.iload 6, 2) := by decide +kernel
theorem dX12_feed_142 : decode cX12_feed 142 = .ok (.iastore, 1) := by decide +kernel
theorem dX12_feed_143 : decode cX12_feed 143 = .ok (.iinc 7 1, 3) := by decide +kernel
theorem dX12_feed_146 : decode cX12_feed 146 = .ok (.goto (-64), 3) := by decide +kernel
theorem dX12_feed_149 : decode cX12_feed 149 = .ok (.aload_n 0, 1) := by decide +kernel
theorem dX12_feed_150 : decode cX12_feed 150 = .ok (.dup, 1) := by decide +kernel
theorem dX12_feed_151 : decode cX12_feed 151 = .ok (.getfield 39, 3) := by decide +kernel
theorem dX12_feed_154 : decode cX12_feed 154 = .ok (.iload_n 1, 1) := by decide +kernel
theorem dX12_feed_155 : decode cX12_feed 155 = .ok (.iadd, 1) := by decide +kernel
theorem dX12_feed_156 : decode cX12_feed 156 = .ok (.putfield 39, 3) := by decide +kernel
theorem dX12_feed_159 : decode cX12_feed 159 = .ok (.aload_n 0, 1) := by decide +kernel
theorem dX12_feed_160 : decode cX12_feed 160 = .ok (.getfield 39, 3) := by decide +kernel
theorem dX12_feed_163 : decode cX12_feed 163 = .ok (.ireturn, 1) := by decide +kernel
theorem dX12_here_0 : decode cX12_here 0 = .ok (.aload_n 0, 1) := by decide +kernel
theorem dX12_here_1 : decode cX12_here 1 = .ok (.getfield 43, 3) := by decide +kernel
theorem dX12_here_4 : decode cX12_here 4 = .ok (.aload_n 0, 1) := by decide +kernel
theorem dX12_here_5 : decode cX12_here 5 = .ok (.getfield 39, 3) := by decide +kernel
theorem dX12_here_8 : decode cX12_here 8 = .ok (.if_icmp .ge 15, 3) := by decide +kernel
theorem dX12_here_11 : decode cX12_here 11 = .ok (.aload_n 0, 1) := by decide +kernel
theorem dX12_here_12 : decode cX12_here 12 = .ok (.getfield 29, 3) := by decide +kernel
theorem dX12_here_15 : decode cX12_here 15 = .ok (.aload_n 0, 1) := by decide +kernel
theorem dX12_here_16 : decode cX12_here 16 = .ok (.getfield 43, 3) := by decide +kernel
theorem dX12_here_19 : decode cX12_here 19 = .ok (.iaload, 1) := by decide +kernel
theorem dX12_here_20 : decode cX12_here 20 = .ok (.goto 4, 3) := by decide +kernel
theorem dX12_here_23 : decode cX12_here 23 = .ok (.iconst (-1), 1) := by decide +kernel
theorem dX12_here_24 : decode cX12_here 24 = .ok (.ireturn, 1) := by decide +kernel
theorem dX12_sign_0 : decode cX12_sign 0 = .ok (.aload_n 0, 1) := by decide +kernel
theorem dX12_sign_1 : decode cX12_sign 1 = .ok (.dup, 1) := by decide +kernel
theorem dX12_sign_2 : decode cX12_sign 2 = .ok (.getfield 46, 3) := by decide +kernel
theorem dX12_sign_5 : decode cX12_sign 5 = .ok (.aload_n 0, 1) := by decide +kernel
theorem dX12_sign_6 : decode cX12_sign 6 = .ok (.invokevirtual 50, 3) := by decide +kernel
theorem dX12_sign_9 : decode cX12_sign 9 = .ok (.iload_n 1, 1) := by decide +kernel
theorem dX12_sign_10 : decode cX12_sign 10 = .ok (.if_icmp .eq 7, 3) := by decide +kernel
theorem dX12_sign_13 : decode cX12_sign 13 = .ok (.iconst 1, 1) := by decide +kernel
theorem dX12_sign_14 : decode cX12_sign 14 = .ok (.goto 4, 3) := by decide +kernel
theorem dX12_sign_17 : decode cX12_sign 17 = .ok (.iconst 0, 1) := by decide +kernel
theorem dX12_sign_18 : decode cX12_sign 18 = .ok (.ior, 1) := by decide +kernel
theorem dX12_sign_19 : decode cX12_sign 19 = .ok (.putfield 46, 3) := by decide +kernel
theorem dX12_sign_22 : decode cX12_sign 22 = .ok (.aload_n 0, 1) := by decide +kernel
theorem dX12_sign_23 : decode cX12_sign 23 = .ok (.dup, 1) := by decide +kernel
theorem dX12_sign_24 : decode cX12_sign 24 = .ok (.getfield 43, 3) := by decide +kernel
theorem dX12_sign_27 : decode cX12_sign 27 = .ok (.aload_n 0, 1) := by decide +kernel
theorem dX12_sign_28 : decode cX12_sign 28 = .ok (.getfield 46, 3) := by decide +kernel
theorem dX12_sign_31 : decode cX12_sign 31 = .ok (.ifCond .eq 7, 3) := by decide +kernel
theorem dX12_sign_34 : decode cX12_sign 34 = .ok (.iconst 0, 1) := by decide +kernel
theorem dX12_sign_35 : decode cX12_sign 35 = .ok (.goto 4, 3) := by decide +kernel
theorem dX12_sign_38 : decode cX12_sign 38 = .ok (.iconst 1, 1) := by decide +kernel
theorem dX12_sign_39 : decode cX12_sign 39 = .ok (.iadd, 1) := by decide +kernel
theorem dX12_sign_40 : decode cX12_sign 40 = .ok (.putfield 43, 3) := by decide +kernel
theorem dX12_sign_43 : decode cX12_sign 43 = .ok (.return_, 1) := by decide +kernel
theorem dX12_digit_0 : decode cX12_digit 0 = .ok (.aload_n 0, 1) := by decide +kernel
theorem dX12_digit_1 : decode cX12_digit 1 = .ok (.invokevirtual 50, 3) := by decide +kernel
theorem dX12_digit_4 : decode cX12_digit 4 = .ok (.bipush 48, 2) := by decide +kernel
theorem dX12_digit_6 : decode cX12_digit 6 = .ok (.isub, 1) := by decide +kernel
theorem dX12_digit_7 : decode cX12_digit 7 = .ok (.istore_n 2, 1) := by decide +kernel
theorem dX12_digit_8 : decode cX12_digit 8 = .ok (.aload_n 0, 1) := by decide +kernel
theorem dX12_digit_9 : decode cX12_digit 9 = .ok (.dup, 1) := by decide +kernel
theorem dX12_digit_10 : decode cX12_digit 10 = .ok (.getfield 46, 3) := by decide +kernel
theorem dX12_digit_13 : decode cX12_digit 13 = .ok (.iload_n 2, 1) := by decide +kernel
theorem dX12_digit_14 : decode cX12_digit 14 = .ok (.iconst 0, 1) := by decide +kernel
theorem dX12_digit_15 : decode cX12_digit 15 = .ok (.iload_n 1, 1) := by decide +kernel
theorem dX12_digit_16 : decode cX12_digit 16 = .ok (.invokestatic 35, 3) := by decide +kernel
theorem dX12_digit_19 : decode cX12_digit 19 = .ok (.ifCond .ne 7, 3) := by decide +kernel
theorem dX12_digit_22 : decode cX12_digit 22 = .ok (.iconst 1, 1) := by decide +kernel
theorem dX12_digit_23 : decode cX12_digit 23 = .ok (.goto 4, 3) := by decide +kernel
theorem dX12_digit_26 : decode cX12_digit 26 = .ok (.iconst 0, 1) := by decide +kernel
theorem dX12_digit_27 : decode cX12_digit 27 = .ok (.ior, 1) := by decide +kernel
theorem dX12_digit_28 : decode cX12_digit 28 = .ok (.putfield 46, 3) := by decide +kernel
theorem dX12_digit_31 : decode cX12_digit 31 = .ok (.aload_n 0, 1) := by decide +kernel
theorem dX12_digit_32 : decode cX12_digit 32 = .ok (.dup, 1) := by decide +kernel
theorem dX12_digit_33 : decode cX12_digit 33 = .ok (.getfield 43, 3) := by decide +kernel
theorem dX12_digit_36 : decode cX12_digit 36 = .ok (.aload_n 0, 1) := by decide +kernel
theorem dX12_digit_37 : decode cX12_digit 37 = .ok (.getfield 46, 3) := by decide +kernel
theorem dX12_digit_40 : decode cX12_digit 40 = .ok (.ifCond .eq 7, 3) := by decide +kernel
theorem dX12_digit_43 : decode cX12_digit 43 = .ok (.iconst 0, 1) := by decide +kernel
theorem dX12_digit_44 : decode cX12_digit 44 = .ok (.goto 4, 3) := by decide +kernel
theorem dX12_digit_47 : decode cX12_digit 47 = .ok (.iconst 1, 1) := by decide +kernel
theorem dX12_digit_48 : decode cX12_digit 48 = .ok (.iadd, 1) := by decide +kernel
theorem dX12_digit_49 : decode cX12_digit 49 = .ok (.putfield 43, 3) := by decide +kernel
theorem dX12_digit_52 : decode cX12_digit 52 = .ok (.aload_n 0, 1) := by decide +kernel
theorem dX12_digit_53 : decode cX12_digit 53 = .ok (.getfield 46, 3) := by decide +kernel
theorem dX12_digit_56 : decode cX12_digit 56 = .ok (.ifCond .eq 7, 3) := by decide +kernel
theorem dX12_digit_59 : decode cX12_digit 59 = .ok (.iconst 0, 1) := by decide +kernel
theorem dX12_digit_60 : decode cX12_digit 60 = .ok (.goto 4, 3) := by decide +kernel
theorem dX12_digit_63 : decode cX12_digit 63 = .ok (.iload_n 2, 1) := by decide +kernel
theorem dX12_digit_64 : decode cX12_digit 64 = .ok (.ireturn, 1) := by decide +kernel
theorem dX12_number_0 : decode cX12_number 0 = .ok (.aload_n 0, 1) := by decide +kernel
theorem dX12_number_1 : decode cX12_number 1 = .ok (.bipush 9, 2) := by decide +kernel
theorem dX12_number_3 : decode cX12_number 3 = .ok (.invokevirtual 54, 3) := by decide +kernel
theorem dX12_number_6 : decode cX12_number 6 = .ok (.istore_n 1, 1) := by decide +kernel
theorem dX12_number_7 : decode cX12_number 7 = .ok (.iconst 1, 1) := by decide +kernel
theorem dX12_number_8 : decode cX12_number 8 = .ok (.istore_n 2, 1) := by decide +kernel
theorem dX12_number_9 : decode cX12_number 9 = .ok (.iload_n 2, 1) := by decide +kernel
theorem dX12_number_10 : decode cX12_number 10 = .ok (.iconst 4, 1) := by decide +kernel
theorem dX12_number_11 : decode cX12_number 11 = .ok (.if_icmp .ge 46, 3) := by decide +kernel
theorem dX12_number_14 : decode cX12_number 14 = .ok (.iload_n 1, 1) := by decide +kernel
theorem dX12_number_15 : decode cX12_number 15 = .ok (.ifCond .le 42, 3) := by decide +kernel
theorem dX12_number_18 : decode cX12_number 18 = .ok (.aload_n 0, 1) := by decide +kernel
theorem dX12_number_19 : decode cX12_number 19 = .ok (.getfield 46, 3) := by decide +kernel
theorem dX12_number_22 : decode cX12_number 22 = .ok (.ifCond .ne 35, 3) := by decide +kernel
theorem dX12_number_25 : decode cX12_number 25 = .ok (.aload_n 0, 1) := by decide +kernel
theorem dX12_number_26 : decode cX12_number 26 = .ok (.invokevirtual 50, 3) := by decide +kernel
theorem dX12_number_29 : decode cX12_number 29 = .ok (.bipush 48, 2) := by decide +kernel
theorem dX12_number_31 : decode cX12_number 31 = .ok (.bipush 57, 2) := by decide +kernel
theorem dX12_number_33 : decode cX12_number 33 = .ok (.invokestatic 35, 3) := by decide +kernel
theorem dX12_number_36 : decode cX12_number 36 = .ok (.ifCond .eq 21, 3) := by decide +kernel
theorem dX12_number_39 : decode cX12_number 39 = .ok (.bipush 10, 2) := by decide +kernel
theorem dX12_number_41 : decode cX12_number 41 = .ok (.iload_n 1, 1) := by decide +kernel
theorem dX12_number_42 : decode cX12_number 42 = .ok (.imul, 1) := by decide +kernel
theorem dX12_number_43 : decode cX12_number 43 = .ok (.aload_n 0, 1) := by decide +kernel
theorem dX12_number_44 : decode cX12_number 44 = .ok (.bipush 9, 2) := by decide +kernel
theorem dX12_number_46 : decode cX12_number 46 = .ok (.invokevirtual 54, 3) := by decide +kernel
theorem dX12_number_49 : decode cX12_number 49 = .ok (.iadd, 1) := by decide +kernel
theorem dX12_number_50 : decode cX12_number 50 = .ok (.istore_n 1, 1) := by decide +kernel
theorem dX12_number_51 : decode cX12_number 51 = .ok (.iinc 2 1, 3) := by decide +kernel
theorem dX12_number_54 : decode cX12_number 54 = .ok (.goto (-45), 3) := by decide +kernel
theorem dX12_number_57 : decode cX12_number 57 = .ok (.iload_n 1, 1) := by decide +kernel
theorem dX12_number_58 : decode cX12_number 58 = .ok (.ireturn, 1) := by decide +kernel
theorem dX12_matcher_0 : decode cX12_matcher 0 = .ok (.aload_n 0, 1) := by decide +kernel
theorem dX12_matcher_1 : decode cX12_matcher 1 = .ok (.invokevirtual 50, 3) := by decide +kernel
theorem dX12_matcher_4 : decode cX12_matcher 4 = .ok (.bipush 33, 2) := by decide +kernel
theorem dX12_matcher_6 : decode cX12_matcher 6 = .ok (.if_icmp .ne 8, 3) := by decide +kernel
theorem dX12_matcher_9 : decode cX12_matcher 9 = .ok (.bipush 64, 2) := by decide +kernel
theorem dX12_matcher_11 : decode cX12_matcher 11 = .ok (.goto 4, 3) := by decide +kernel
theorem dX12_matcher_14 : decode cX12_matcher 14 = .ok (.iconst 0, 1) := by decide +kernel
theorem dX12_matcher_15 : decode cX12_matcher 15 = .ok (.istore_n 2, 1) := by decide +kernel
theorem dX12_matcher_16 : decode cX12_matcher 16 = .ok (.aload_n 0, 1) := by decide +kernel
theorem dX12_matcher_17 : decode cX12_matcher 17 = .ok (.dup, 1) := by decide +kernel
theorem dX12_matcher_18 : decode cX12_matcher 18 = .ok (.getfield 43, 3) := by decide +kernel
theorem dX12_matcher_21 : decode cX12_matcher 21 = .ok (.iload_n 2, 1) := by decide +kernel
theorem dX12_matcher_22 : decode cX12_matcher 22 = .ok (.ifCond .le 7, 3) := by decide +kernel
theorem dX12_matcher_25 : decode cX12_matcher 25 = .ok (.iconst 1, 1) := by decide +kernel
theorem dX12_matcher_26 : decode cX12_matcher 26 = .ok (.goto 4, 3) := by decide +kernel
theorem dX12_matcher_29 : decode cX12_matcher 29 = .ok (.iconst 0, 1) := by decide +kernel
theorem dX12_matcher_30 : decode cX12_matcher 30 = .ok (.iadd, 1) := by decide +kernel
theorem dX12_matcher_31 : decode cX12_matcher 31 = .ok (.putfield 43, 3) := by decide +kernel
theorem dX12_matcher_34 : decode cX12_matcher 34 = .ok (.aload_n 0, 1) := by decide +kernel
theorem dX12_matcher_35 : decode cX12_matcher 35 = .ok (.invokevirtual 50, 3) := by decide +kernel
theorem dX12_matcher_38 : decode cX12_matcher 38 = .ok (.istore_n 3, 1) := by decide +kernel
theorem dX12_matcher_39 : decode cX12_matcher 39 = .ok (.iload_n 3, 1) := by decide +kernel
theorem dX12_matcher_40 : decode cX12_matcher 40 = .ok (.bipush 116, 2) := by decide +kernel
theorem dX12_matcher_42 : decode cX12_matcher 42 = .ok (.if_icmp .ne 7, 3) := by decide +kernel
theorem dX12_matcher_45 : decode cX12_matcher 45 = .ok (.iconst 0, 1) := by decide +kernel
theorem dX12_matcher_46 : decode cX12_matcher 46 = .ok (.goto 38, 3) := by decide +kernel
theorem dX12_matcher_49 : decode cX12_matcher 49 = .ok (.iload_n 3, 1) := by decide +kernel
theorem dX12_matcher_50 : decode cX12_matcher 50 = .ok (.bipush 104, 2) := by decide +kernel
theorem dX12_matcher_52 : decode cX12_matcher 52 = .ok (.if_icmp .ne 7, 3) := by decide +kernel
theorem dX12_matcher_55 : decode cX12_matcher 55 = .ok (.iconst 1, 1) := by decide +kernel
theorem dX12_matcher_56 : decode cX12_matcher 56 = .ok (.goto 28, 3) := by decide +kernel
theorem dX12_matcher_59 : decode cX12_matcher 59 = .ok (.iload_n 3, 1) := by decide +kernel
theorem dX12_matcher_60 : decode cX12_matcher 60 = .ok (.bipush 122, 2) := by decide +kernel
theorem dX12_matcher_62 : decode cX12_matcher 62 = .ok (.if_icmp .ne 7, 3) := by decide +kernel
theorem dX12_matcher_65 : decode cX12_matcher 65 = .ok (.iconst 2, 1) := by decide +kernel
theorem dX12_matcher_66 : decode cX12_matcher 66 = .ok (.goto 18, 3) := by decide +kernel
theorem dX12_matcher_69 : decode cX12_matcher 69 = .ok (.iload_n 3, 1) := by decide +kernel
theorem dX12_matcher_70 : decode cX12_matcher 70 = .ok (.bipush 115, 2) := by decide +kernel
theorem dX12_matcher_72 : decode cX12_matcher 72 = .ok (.if_icmp .ne 11, 3) := by decide +kernel
theorem dX12_matcher_75 : decode cX12_matcher 75 = .ok (.iload_n 1, 1) := by decide +kernel
theorem dX12_matcher_76 : decode cX12_matcher 76 = .ok (.ifCond .eq 7, 3) := by decide +kernel
theorem dX12_matcher_79 : decode cX12_matcher 79 = .ok (.iconst 3, 1) := by decide +kernel
theorem dX12_matcher_80 : decode cX12_matcher 80 = .ok (.goto 4, 3) := by decide +kernel
theorem dX12_matcher_83 : decode cX12_matcher 83 = .ok (.iconst (-1), 1) := by decide +kernel
theorem dX12_matcher_84 : decode cX12_matcher 84 = .ok (.istore 4, 2) := by decide +kernel
theorem dX12_matcher_86 : decode cX12_matcher 86 = .ok (.aload_n 0, 1) := by decide +kernel
theorem dX12_matcher_87 : decode cX12_matcher 87 = .ok (.dup, 1) := by decide +kernel
theorem dX12_matcher_88 : decode cX12_matcher 88 = .ok (.getfield 46, 3) := by decide +kernel
theorem dX12_matcher_91 : decode cX12_matcher 91 = .ok (.iload 4, 2) := by decide +kernel
theorem dX12_matcher_93 : decode cX12_matcher 93 = .ok (.ifCond .ge 7, 3) := by decide +kernel
theorem dX12_matcher_96 : decode cX12_matcher 96 = .ok (.iconst 1, 1) := by decide +kernel
theorem dX12_matcher_97 : decode cX12_matcher 97 = .ok (.goto 4, 3) := by decide +kernel
theorem dX12_matcher_100 : decode cX12_matcher 100 = .ok (.iconst 0, 1) := by decide +kernel
theorem dX12_matcher_101 : decode cX12_matcher 101 = .ok (.ior, 1) := by decide +kernel
theorem dX12_matcher_102 : decode cX12_matcher 102 = .ok (.putfield 46, 3) := by decide +kernel
theorem dX12_matcher_105 : decode cX12_matcher 105 = .ok (.aload_n 0, 1) := by decide +kernel
theorem dX12_matcher_106 : decode cX12_matcher 106 = .ok (.getfield 46, 3) := by decide +kernel
theorem dX12_matcher_109 : decode cX12_matcher 109 = .ok (.ifCond .eq 5, 3) := by decide +kernel
theorem dX12_matcher_112 : decode cX12_matcher 112 = .ok (.iconst 0, 1) := by decide +kernel
theorem dX12_matcher_113 : decode cX12_matcher 113 = .ok (.ireturn, 1) := by decide +kernel
theorem dX12_matcher_114 : decode cX12_matcher 114 = .ok (.aload_n 0, 1) := by decide +kernel
theorem dX12_matcher_115 : decode cX12_matcher 115 = .ok (.dup, 1) := by decide +kernel
theorem dX12_matcher_116 : decode cX12_matcher 116 = .ok (.getfield 43, 3) := by decide +kernel
theorem dX12_matcher_119 : decode cX12_matcher 119 = .ok (.iconst 1, 1) := by decide +kernel
theorem dX12_matcher_120 : decode cX12_matcher 120 = .ok (.iadd, 1) := by decide +kernel
theorem dX12_matcher_121 : decode cX12_matcher 121 = .ok (.putfield 43, 3) := by decide +kernel
theorem dX12_matcher_124 : decode cX12_matcher 124 = .ok (.iload_n 2, 1) := by decide +kernel
theorem dX12_matcher_125 : decode cX12_matcher 125 = .ok (.bipush 16, 2) := by decide +kernel
theorem dX12_matcher_127 : decode cX12_matcher 127 = .ok (.iload 4, 2) := by decide +kernel
theorem dX12_matcher_129 : decode cX12_matcher 129 = .ok (.imul, 1) := by decide +kernel
theorem dX12_matcher_130 : decode cX12_matcher 130 = .ok (.iadd, 1) := by decide +kernel
theorem dX12_matcher_131 : decode cX12_matcher 131 = .ok (.aload_n 0, 1) := by decide +kernel
theorem dX12_matcher_132 : decode cX12_matcher 132 = .ok (.iload 4, 2) := by decide +kernel
theorem dX12_matcher_134 : decode cX12_matcher 134 = .ok (.iconst 1, 1) := by decide +kernel
theorem dX12_matcher_135 : decode cX12_matcher 135 = .ok (.if_icmp .ne 8, 3) := by decide +kernel
theorem dX12_matcher_138 : decode cX12_matcher 138 = .ok (.bipush 7, 2) := by decide +kernel
theorem dX12_matcher_140 : decode cX12_matcher 140 = .ok (.goto 4, 3) := by decide +kernel
theorem dX12_matcher_143 : decode cX12_matcher 143 = .ok (.iconst 3, 1) := by decide +kernel
theorem dX12_matcher_144 : decode cX12_matcher 144 = .ok (.invokevirtual 54, 3) := by decide +kernel
theorem dX12_matcher_147 : decode cX12_matcher 147 = .ok (.iadd, 1) := by decide +kernel
theorem dX12_matcher_148 : decode cX12_matcher 148 = .ok (.ireturn, 1) := by decide +kernel
theorem dX12_matchers_0 : decode cX12_matchers 0 = .ok (.iconst 0, 1) := by decide +kernel
theorem dX12_matchers_1 : decode cX12_matchers 1 = .ok (.istore_n 3, 1) := by decide +kernel
theorem dX12_matchers_2 : decode cX12_matchers 2 = .ok (.iconst 1, 1) := by decide +kernel
theorem dX12_matchers_3 : decode cX12_matchers 3 = .ok (.istore 4, 2) := by decide +kernel
theorem dX12_matchers_5 : decode cX12_matchers 5 = .ok (.iload 4, 2) := by decide +kernel
theorem dX12_matchers_7 : decode cX12_matchers 7 = .ok (.ifCond .eq 71, 3) := by decide +kernel
theorem dX12_matchers_10 : decode cX12_matchers 10 = .ok (.aload_n 0, 1) := by decide +kernel
theorem dX12_matchers_11 : decode cX12_matchers 11 = .ok (.getfield 32, 3) := by decide +kernel
theorem dX12_matchers_14 : decode cX12_matchers 14 = .ok (.iload_n 1, 1) := by decide +kernel
theorem dX12_matchers_15 : decode cX12_matchers 15 = .ok (.iconst 1, 1) := by decide +kernel
theorem dX12_matchers_16 : decode cX12_matchers 16 = .ok (.iadd, 1) := by decide +kernel
theorem dX12_matchers_17 : decode cX12_matchers 17 = .ok (.iload_n 3, 1) := by decide +kernel
theorem dX12_matchers_18 : decode cX12_matchers 18 = .ok (.iadd, 1) := by decide +kernel
theorem dX12_matchers_19 : decode cX12_matchers 19 = .ok (.aload_n 0, 1) := by decide +kernel
theorem dX12_matchers_20 : decode cX12_matchers 20 = .ok (.iload_n 2, 1) := by decide +kernel
theorem dX12_matchers_21 : decode cX12_matchers 21 = .ok (.invokevirtual 58, 3) := by decide +kernel
theorem dX12_matchers_24 : decode cX12_matchers 24 = .ok (.iastore, 1) := by decide +kernel
theorem dX12_matchers_25 : decode cX12_matchers 25 = .ok (.iinc 3 1, 3) := by decide +kernel
theorem dX12_matchers_28 : decode cX12_matchers 28 = .ok (.aload_n 0, 1) := by decide +kernel
theorem dX12_matchers_29 : decode cX12_matchers 29 = .ok (.getfield 46, 3) := by decide +kernel
theorem dX12_matchers_32 : decode cX12_matchers 32 = .ok (.ifCond .ne 21, 3) := by decide +kernel
theorem dX12_matchers_35 : decode cX12_matchers 35 = .ok (.iload_n 3, 1) := by decide +kernel
theorem dX12_matchers_36 : decode cX12_matchers 36 = .ok (.iconst 4, 1) := by decide +kernel
theorem dX12_matchers_37 : decode cX12_matchers 37 = .ok (.if_icmp .ge 16, 3) := by decide +kernel
theorem dX12_matchers_40 : decode cX12_matchers 40 = .ok (.aload_n 0, 1) := by decide +kernel
theorem dX12_matchers_41 : decode cX12_matchers 41 = .ok (.invokevirtual 50, 3) := by decide +kernel
theorem dX12_matchers_44 : decode cX12_matchers 44 = .ok (.bipush 44, 2) := by decide +kernel
theorem dX12_matchers_46 : decode cX12_matchers 46 = .ok (.if_icmp .ne 7, 3) := by decide +kernel
theorem dX12_matchers_49 : decode cX12_matchers 49 = .ok (.iconst 1, 1) := by decide +kernel
theorem dX12_matchers_50 : decode cX12_matchers 50 = .ok (.goto 4, 3) := by decide +kernel
theorem dX12_matchers_53 : decode cX12_matchers 53 = .ok (.iconst 0, 1) := by decide +kernel
theorem dX12_matchers_54 : decode cX12_matchers 54 = .ok (.istore 4, 2) := by decide +kernel
theorem dX12_matchers_56 : decode cX12_matchers 56 = .ok (.aload_n 0, 1) := by decide +kernel
theorem dX12_matchers_57 : decode cX12_matchers 57 = .ok (.dup, 1) := by decide +kernel
theorem dX12_matchers_58 : decode cX12_matchers 58 = .ok (.getfield 43, 3) := by decide +kernel
theorem dX12_matchers_61 : decode cX12_matchers 61 = .ok (.iload 4, 2) := by decide +kernel
theorem dX12_matchers_63 : decode cX12_matchers 63 = .ok (.ifCond .eq 7, 3) := by decide +kernel
theorem dX12_matchers_66 : decode cX12_matchers 66 = .ok (.iconst 1, 1) := by decide +kernel
theorem dX12_matchers_67 : decode cX12_matchers 67 = .ok (.goto 4, 3) := by decide +kernel
theorem dX12_matchers_70 : decode cX12_matchers 70 = .ok (.iconst 0, 1) := by decide +kernel
theorem dX12_matchers_71 : decode cX12_matchers 71 = .ok (.iadd, 1) := by decide +kernel
theorem dX12_matchers_72 : decode cX12_matchers 72 = .ok (.putfield 43, 3) := by decide +kernel
theorem dX12_matchers_75 : decode cX12_matchers 75 = .ok (.goto (-70), 3) := by decide +kernel
theorem dX12_matchers_78 : decode cX12_matchers 78 = .ok (.aload_n 0, 1) := by decide +kernel
theorem dX12_matchers_79 : decode cX12_matchers 79 = .ok (.getfield 32, 3) := by decide +kernel
theorem dX12_matchers_82 : decode cX12_matchers 82 = .ok (.iload_n 1, 1) := by decide +kernel
theorem dX12_matchers_83 : decode cX12_matchers 83 = .ok (.iload_n 3, 1) := by decide +kernel
theorem dX12_matchers_84 : decode cX12_matchers 84 = .ok (.iastore, 1) := by decide +kernel
theorem dX12_matchers_85 : decode cX12_matchers 85 = .ok (.return_, 1) := by decide +kernel
theorem dX12_rule_0 : decode cX12_rule 0 = .ok (.aload_n 0, 1) := by decide +kernel
theorem dX12_rule_1 : decode cX12_rule 1 = .ok (.invokevirtual 50, 3) := by decide +kernel
theorem dX12_rule_4 : decode cX12_rule 4 = .ok (.bipush 60, 2) := by decide +kernel
theorem dX12_rule_6 : decode cX12_rule 6 = .ok (.if_icmp .eq 40, 3) := by decide +kernel
theorem dX12_rule_9 : decode cX12_rule 9 = .ok (.aload_n 0, 1) := by decide +kernel
theorem dX12_rule_10 : decode cX12_rule 10 = .ok (.invokevirtual 50, 3) := by decide +kernel
theorem dX12_rule_13 : decode cX12_rule 13 = .ok (.bipush 62, 2) := by decide +kernel
theorem dX12_rule_15 : decode cX12_rule 15 = .ok (.if_icmp .eq 31, 3) := by decide +kernel
theorem dX12_rule_18 : decode cX12_rule 18 = .ok (.aload_n 0, 1) := by decide +kernel
theorem dX12_rule_19 : decode cX12_rule 19 = .ok (.invokevirtual 50, 3) := by decide +kernel
theorem dX12_rule_22 : decode cX12_rule 22 = .ok (.bipush 61, 2) := by decide +kernel
theorem dX12_rule_24 : decode cX12_rule 24 = .ok (.if_icmp .eq 22, 3) := by decide +kernel
theorem dX12_rule_27 : decode cX12_rule 27 = .ok (.aload_n 0, 1) := by decide +kernel
theorem dX12_rule_28 : decode cX12_rule 28 = .ok (.iconst 1, 1) := by decide +kernel
theorem dX12_rule_29 : decode cX12_rule 29 = .ok (.iconst 0, 1) := by decide +kernel
theorem dX12_rule_30 : decode cX12_rule 30 = .ok (.invokevirtual 62, 3) := by decide +kernel
theorem dX12_rule_33 : decode cX12_rule 33 = .ok (.aload_n 0, 1) := by decide +kernel
theorem dX12_rule_34 : decode cX12_rule 34 = .ok (.getfield 46, 3) := by decide +kernel
theorem dX12_rule_37 : decode cX12_rule 37 = .ok (.ifCond .ne 9, 3) := by decide +kernel
theorem dX12_rule_40 : decode cX12_rule 40 = .ok (.aload_n 0, 1) := by decide +kernel
theorem dX12_rule_41 : decode cX12_rule 41 = .ok (.bipush 58, 2) := by decide +kernel
theorem dX12_rule_43 : decode cX12_rule 43 = .ok (.invokevirtual 66, 3) := by decide +kernel
theorem dX12_rule_46 : decode cX12_rule 46 = .ok (.aload_n 0, 1) := by decide +kernel
theorem dX12_rule_47 : decode cX12_rule 47 = .ok (.getfield 46, 3) := by decide +kernel
theorem dX12_rule_50 : decode cX12_rule 50 = .ok (.ifCond .eq 4, 3) := by decide +kernel
theorem dX12_rule_53 : decode cX12_rule 53 = .ok (.return_, 1) := by decide +kernel
theorem dX12_rule_54 : decode cX12_rule 54 = .ok (.aload_n 0, 1) := by decide +kernel
theorem dX12_rule_55 : decode cX12_rule 55 = .ok (.invokevirtual 50, 3) := by decide +kernel
theorem dX12_rule_58 : decode cX12_rule 58 = .ok (.istore_n 1, 1) := by decide +kernel
theorem dX12_rule_59 : decode cX12_rule 59 = .ok (.aload_n 0, 1) := by decide +kernel
theorem dX12_rule_60 : decode cX12_rule 60 = .ok (.getfield 32, 3) := by decide +kernel
theorem dX12_rule_63 : decode cX12_rule 63 = .ok (.bipush 6, 2) := by decide +kernel
theorem dX12_rule_65 : decode cX12_rule 65 = .ok (.iload_n 1, 1) := by decide +kernel
theorem dX12_rule_66 : decode cX12_rule 66 = .ok (.bipush 60, 2) := by decide +kernel
theorem dX12_rule_68 : decode cX12_rule 68 = .ok (.if_icmp .ne 7, 3) := by decide +kernel
theorem dX12_rule_71 : decode cX12_rule 71 = .ok (.iconst 0, 1) := by decide +kernel
theorem dX12_rule_72 : decode cX12_rule 72 = .ok (.goto 14, 3) := by decide +kernel
theorem dX12_rule_75 : decode cX12_rule 75 = .ok (.iload_n 1, 1) := by decide +kernel
theorem dX12_rule_76 : decode cX12_rule 76 = .ok (.bipush 62, 2) := by decide +kernel
theorem dX12_rule_78 : decode cX12_rule 78 = .ok (.if_icmp .ne 7, 3) := by decide +kernel
theorem dX12_rule_81 : decode cX12_rule 81 = .ok (.iconst 1, 1) := by decide +kernel
theorem dX12_rule_82 : decode cX12_rule 82 = .ok (.goto 4, 3) := by decide +kernel
theorem dX12_rule_85 : decode cX12_rule 85 = .ok (.iconst 2, 1) := by decide +kernel
theorem dX12_rule_86 : decode cX12_rule 86 = .ok (.iastore, 1) := by decide +kernel
theorem dX12_rule_87 : decode cX12_rule 87 = .ok (.aload_n 0, 1) := by decide +kernel
theorem dX12_rule_88 : decode cX12_rule 88 = .ok (.dup, 1) := by decide +kernel
theorem dX12_rule_89 : decode cX12_rule 89 = .ok (.getfield 46, 3) := by decide +kernel
theorem dX12_rule_92 : decode cX12_rule 92 = .ok (.iload_n 1, 1) := by decide +kernel
theorem dX12_rule_93 : decode cX12_rule 93 = .ok (.bipush 60, 2) := by decide +kernel
theorem dX12_rule_95 : decode cX12_rule 95 = .ok (.if_icmp .eq 19, 3) := by decide +kernel
theorem dX12_rule_98 : decode cX12_rule 98 = .ok (.iload_n 1, 1) := by decide +kernel
theorem dX12_rule_99 : decode cX12_rule 99 = .ok (.bipush 62, 2) := by decide +kernel
theorem dX12_rule_101 : decode cX12_rule 101 = .ok (.if_icmp .eq 13, 3) := by decide +kernel
theorem dX12_rule_104 : decode cX12_rule 104 = .ok (.iload_n 1, 1) := by decide +kernel
theorem dX12_rule_105 : decode cX12_rule 105 = .ok (.bipush 61, 2) := by decide +kernel
theorem dX12_rule_107 : decode cX12_rule 107 = .ok (.if_icmp .eq 7, 3) := by decide +kernel
theorem dX12_rule_110 : decode cX12_rule 110 = .ok (.iconst 1, 1) := by decide +kernel
theorem dX12_rule_111 : decode cX12_rule 111 = .ok (.goto 4, 3) := by decide +kernel
theorem dX12_rule_114 : decode cX12_rule 114 = .ok (.iconst 0, 1) := by decide +kernel
theorem dX12_rule_115 : decode cX12_rule 115 = .ok (.ior, 1) := by decide +kernel
theorem dX12_rule_116 : decode cX12_rule 116 = .ok (.putfield 46, 3) := by decide +kernel
theorem dX12_rule_119 : decode cX12_rule 119 = .ok (.aload_n 0, 1) := by decide +kernel
theorem dX12_rule_120 : decode cX12_rule 120 = .ok (.dup, 1) := by decide +kernel
theorem dX12_rule_121 : decode cX12_rule 121 = .ok (.getfield 43, 3) := by decide +kernel
theorem dX12_rule_124 : decode cX12_rule 124 = .ok (.aload_n 0, 1) := by decide +kernel
theorem dX12_rule_125 : decode cX12_rule 125 = .ok (.getfield 46, 3) := by decide +kernel
theorem dX12_rule_128 : decode cX12_rule 128 = .ok (.ifCond .eq 7, 3) := by decide +kernel
theorem dX12_rule_131 : decode cX12_rule 131 = .ok (.iconst 0, 1) := by decide +kernel
theorem dX12_rule_132 : decode cX12_rule 132 = .ok (.goto 4, 3) := by decide +kernel
theorem dX12_rule_135 : decode cX12_rule 135 = .ok (.iconst 1, 1) := by decide +kernel
theorem dX12_rule_136 : decode cX12_rule 136 = .ok (.iadd, 1) := by decide +kernel
theorem dX12_rule_137 : decode cX12_rule 137 = .ok (.putfield 43, 3) := by decide +kernel
theorem dX12_rule_140 : decode cX12_rule 140 = .ok (.aload_n 0, 1) := by decide +kernel
theorem dX12_rule_141 : decode cX12_rule 141 = .ok (.getfield 46, 3) := by decide +kernel
theorem dX12_rule_144 : decode cX12_rule 144 = .ok (.ifCond .ne 16, 3) := by decide +kernel
theorem dX12_rule_147 : decode cX12_rule 147 = .ok (.aload_n 0, 1) := by decide +kernel
theorem dX12_rule_148 : decode cX12_rule 148 = .ok (.invokevirtual 50, 3) := by decide +kernel
theorem dX12_rule_151 : decode cX12_rule 151 = .ok (.bipush 45, 2) := by decide +kernel
theorem dX12_rule_153 : decode cX12_rule 153 = .ok (.if_icmp .ne 7, 3) := by decide +kernel
theorem dX12_rule_156 : decode cX12_rule 156 = .ok (.iconst 1, 1) := by decide +kernel
theorem dX12_rule_157 : decode cX12_rule 157 = .ok (.goto 4, 3) := by decide +kernel
theorem dX12_rule_160 : decode cX12_rule 160 = .ok (.iconst 0, 1) := by decide +kernel
theorem dX12_rule_161 : decode cX12_rule 161 = .ok (.istore_n 2, 1) := by decide +kernel
theorem dX12_rule_162 : decode cX12_rule 162 = .ok (.aload_n 0, 1) := by decide +kernel
theorem dX12_rule_163 : decode cX12_rule 163 = .ok (.dup, 1) := by decide +kernel
theorem dX12_rule_164 : decode cX12_rule 164 = .ok (.getfield 43, 3) := by decide +kernel
theorem dX12_rule_167 : decode cX12_rule 167 = .ok (.iload_n 2, 1) := by decide +kernel
theorem dX12_rule_168 : decode cX12_rule 168 = .ok (.ifCond .eq 7, 3) := by decide +kernel
theorem dX12_rule_171 : decode cX12_rule 171 = .ok (.iconst 1, 1) := by decide +kernel
theorem dX12_rule_172 : decode cX12_rule 172 = .ok (.goto 4, 3) := by decide +kernel
theorem dX12_rule_175 : decode cX12_rule 175 = .ok (.iconst 0, 1) := by decide +kernel
theorem dX12_rule_176 : decode cX12_rule 176 = .ok (.iadd, 1) := by decide +kernel
theorem dX12_rule_177 : decode cX12_rule 177 = .ok (.putfield 43, 3) := by decide +kernel
theorem dX12_rule_180 : decode cX12_rule 180 = .ok (.aload_n 0, 1) := by decide +kernel
theorem dX12_rule_181 : decode cX12_rule 181 = .ok (.getfield 46, 3) := by decide +kernel
theorem dX12_rule_184 : decode cX12_rule 184 = .ok (.ifCond .ne 14, 3) := by decide +kernel
theorem dX12_rule_187 : decode cX12_rule 187 = .ok (.aload_n 0, 1) := by decide +kernel
theorem dX12_rule_188 : decode cX12_rule 188 = .ok (.getfield 32, 3) := by decide +kernel
theorem dX12_rule_191 : decode cX12_rule 191 = .ok (.bipush 7, 2) := by decide +kernel
theorem dX12_rule_193 : decode cX12_rule 193 = .ok (.aload_n 0, 1) := by decide +kernel
theorem dX12_rule_194 : decode cX12_rule 194 = .ok (.invokevirtual 70, 3) := by decide +kernel
theorem dX12_rule_197 : decode cX12_rule 197 = .ok (.iastore, 1) := by decide +kernel
theorem dX12_rule_198 : decode cX12_rule 198 = .ok (.aload_n 0, 1) := by decide +kernel
theorem dX12_rule_199 : decode cX12_rule 199 = .ok (.getfield 32, 3) := by decide +kernel
theorem dX12_rule_202 : decode cX12_rule 202 = .ok (.bipush 7, 2) := by decide +kernel
theorem dX12_rule_204 : decode cX12_rule 204 = .ok (.iload_n 2, 1) := by decide +kernel
theorem dX12_rule_205 : decode cX12_rule 205 = .ok (.ifCond .eq 14, 3) := by decide +kernel
theorem dX12_rule_208 : decode cX12_rule 208 = .ok (.aload_n 0, 1) := by decide +kernel
theorem dX12_rule_209 : decode cX12_rule 209 = .ok (.getfield 32, 3) := by decide +kernel
theorem dX12_rule_212 : decode cX12_rule 212 = .ok (.bipush 7, 2) := by decide +kernel
theorem dX12_rule_214 : decode cX12_rule 214 = .ok (.iaload, 1) := by decide +kernel
theorem dX12_rule_215 : decode cX12_rule 215 = .ok (.ineg, 1) := by decide +kernel
theorem dX12_rule_216 : decode cX12_rule 216 = .ok (.goto 10, 3) := by decide +kernel
theorem dX12_rule_219 : decode cX12_rule 219 = .ok (.aload_n 0, 1) := by decide +kernel
theorem dX12_rule_220 : decode cX12_rule 220 = .ok (.getfield 32, 3) := by decide +kernel
theorem dX12_rule_223 : decode cX12_rule 223 = .ok (.bipush 7, 2) := by decide +kernel
theorem dX12_rule_225 : decode cX12_rule 225 = .ok (.iaload, 1) := by decide +kernel
theorem dX12_rule_226 : decode cX12_rule 226 = .ok (.iastore, 1) := by decide +kernel
theorem dX12_rule_227 : decode cX12_rule 227 = .ok (.aload_n 0, 1) := by decide +kernel
theorem dX12_rule_228 : decode cX12_rule 228 = .ok (.getfield 46, 3) := by decide +kernel
theorem dX12_rule_231 : decode cX12_rule 231 = .ok (.ifCond .ne 9, 3) := by decide +kernel
theorem dX12_rule_234 : decode cX12_rule 234 = .ok (.aload_n 0, 1) := by decide +kernel
theorem dX12_rule_235 : decode cX12_rule 235 = .ok (.bipush 102, 2) := by decide +kernel
theorem dX12_rule_237 : decode cX12_rule 237 = .ok (.invokevirtual 66, 3) := by decide +kernel
theorem dX12_rule_240 : decode cX12_rule 240 = .ok (.aload_n 0, 1) := by decide +kernel
theorem dX12_rule_241 : decode cX12_rule 241 = .ok (.getfield 46, 3) := by decide +kernel
theorem dX12_rule_244 : decode cX12_rule 244 = .ok (.ifCond .ne 9, 3) := by decide +kernel
theorem dX12_rule_247 : decode cX12_rule 247 = .ok (.aload_n 0, 1) := by decide +kernel
theorem dX12_rule_248 : decode cX12_rule 248 = .ok (.bipush 111, 2) := by decide +kernel
theorem dX12_rule_250 : decode cX12_rule 250 = .ok (.invokevirtual 66, 3) := by decide +kernel
theorem dX12_rule_253 : decode cX12_rule 253 = .ok (.aload_n 0, 1) := by decide +kernel
theorem dX12_rule_254 : decode cX12_rule 254 = .ok (.getfield 46, 3) := by decide +kernel
theorem dX12_rule_257 : decode cX12_rule 257 = .ok (.ifCond .ne 9, 3) := by decide +kernel
theorem dX12_rule_260 : decode cX12_rule 260 = .ok (.aload_n 0, 1) := by decide +kernel
theorem dX12_rule_261 : decode cX12_rule 261 = .ok (.bipush 114, 2) := by decide +kernel
theorem dX12_rule_263 : decode cX12_rule 263 = .ok (.invokevirtual 66, 3) := by decide +kernel
theorem dX12_rule_266 : decode cX12_rule 266 = .ok (.aload_n 0, 1) := by decide +kernel
theorem dX12_rule_267 : decode cX12_rule 267 = .ok (.getfield 46, 3) := by decide +kernel
theorem dX12_rule_270 : decode cX12_rule 270 = .ok (.ifCond .ne 14, 3) := by decide +kernel
theorem dX12_rule_273 : decode cX12_rule 273 = .ok (.aload_n 0, 1) := by decide +kernel
theorem dX12_rule_274 : decode cX12_rule 274 = .ok (.getfield 32, 3) := by decide +kernel
theorem dX12_rule_277 : decode cX12_rule 277 = .ok (.bipush 8, 2) := by decide +kernel
theorem dX12_rule_279 : decode cX12_rule 279 = .ok (.aload_n 0, 1) := by decide +kernel
theorem dX12_rule_280 : decode cX12_rule 280 = .ok (.invokevirtual 70, 3) := by decide +kernel
theorem dX12_rule_283 : decode cX12_rule 283 = .ok (.iastore, 1) := by decide +kernel
theorem dX12_rule_284 : decode cX12_rule 284 = .ok (.aload_n 0, 1) := by decide +kernel
theorem dX12_rule_285 : decode cX12_rule 285 = .ok (.getfield 46, 3) := by decide +kernel
theorem dX12_rule_288 : decode cX12_rule 288 = .ok (.ifCond .ne 9, 3) := by decide +kernel
theorem dX12_rule_291 : decode cX12_rule 291 = .ok (.aload_n 0, 1) := by decide +kernel
theorem dX12_rule_292 : decode cX12_rule 292 = .ok (.bipush 115, 2) := by decide +kernel
theorem dX12_rule_294 : decode cX12_rule 294 = .ok (.invokevirtual 66, 3) := by decide +kernel
theorem dX12_rule_297 : decode cX12_rule 297 = .ok (.aload_n 0, 1) := by decide +kernel
theorem dX12_rule_298 : decode cX12_rule 298 = .ok (.getfield 46, 3) := by decide +kernel
theorem dX12_rule_301 : decode cX12_rule 301 = .ok (.ifCond .ne 9, 3) := by decide +kernel
theorem dX12_rule_304 : decode cX12_rule 304 = .ok (.aload_n 0, 1) := by decide +kernel
theorem dX12_rule_305 : decode cX12_rule 305 = .ok (.bipush 101, 2) := by decide +kernel
theorem dX12_rule_307 : decode cX12_rule 307 = .ok (.invokevirtual 66, 3) := by decide +kernel
theorem dX12_rule_310 : decode cX12_rule 310 = .ok (.aload_n 0, 1) := by decide +kernel
theorem dX12_rule_311 : decode cX12_rule 311 = .ok (.getfield 46, 3) := by decide +kernel
theorem dX12_rule_314 : decode cX12_rule 314 = .ok (.ifCond .ne 9, 3) := by decide +kernel
theorem dX12_rule_317 : decode cX12_rule 317 = .ok (.aload_n 0, 1) := by decide +kernel
theorem dX12_rule_318 : decode cX12_rule 318 = .ok (.bipush 118, 2) := by decide +kernel
theorem dX12_rule_320 : decode cX12_rule 320 = .ok (.invokevirtual 66, 3) := by decide +kernel
theorem dX12_rule_323 : decode cX12_rule 323 = .ok (.aload_n 0, 1) := by decide +kernel
theorem dX12_rule_324 : decode cX12_rule 324 = .ok (.getfield 46, 3) := by decide +kernel
theorem dX12_rule_327 : decode cX12_rule 327 = .ok (.ifCond .ne 15, 3) := by decide +kernel
theorem dX12_rule_330 : decode cX12_rule 330 = .ok (.aload_n 0, 1) := by decide +kernel
theorem dX12_rule_331 : decode cX12_rule 331 = .ok (.getfield 32, 3) := by decide +kernel
theorem dX12_rule_334 : decode cX12_rule 334 = .ok (.bipush 9, 2) := by decide +kernel
theorem dX12_rule_336 : decode cX12_rule 336 = .ok (.aload_n 0, 1) := by decide +kernel
theorem dX12_rule_337 : decode cX12_rule 337 = .ok (.iconst 3, 1) := by decide +kernel
theorem dX12_rule_338 : decode cX12_rule 338 = .ok (.invokevirtual 54, 3) := by decide +kernel
theorem dX12_rule_341 : decode cX12_rule 341 = .ok (.iastore, 1) := by decide +kernel
theorem dX12_rule_342 : decode cX12_rule 342 = .ok (.return_, 1) := by decide +kernel
theorem dX12_silence_0 : decode cX12_silence 0 = .ok (.aload_n 0, 1) := by decide +kernel
theorem dX12_silence_1 : decode cX12_silence 1 = .ok (.iconst 1, 1) := by decide +kernel
theorem dX12_silence_2 : decode cX12_silence 2 = .ok (.iconst 1, 1) := by decide +kernel
theorem dX12_silence_3 : decode cX12_silence 3 = .ok (.invokevirtual 62, 3) := by decide +kernel
theorem dX12_silence_6 : decode cX12_silence 6 = .ok (.aload_n 0, 1) := by decide +kernel
theorem dX12_silence_7 : decode cX12_silence 7 = .ok (.getfield 46, 3) := by decide +kernel
theorem dX12_silence_10 : decode cX12_silence 10 = .ok (.ifCond .ne 9, 3) := by decide +kernel
theorem dX12_silence_13 : decode cX12_silence 13 = .ok (.aload_n 0, 1) := by decide +kernel
theorem dX12_silence_14 : decode cX12_silence 14 = .ok (.bipush 64, 2) := by decide +kernel
theorem dX12_silence_16 : decode cX12_silence 16 = .ok (.invokevirtual 66, 3) := by decide +kernel
theorem dX12_silence_19 : decode cX12_silence 19 = .ok (.aload_n 0, 1) := by decide +kernel
theorem dX12_silence_20 : decode cX12_silence 20 = .ok (.getfield 46, 3) := by decide +kernel
theorem dX12_silence_23 : decode cX12_silence 23 = .ok (.ifCond .ne 14, 3) := by decide +kernel
theorem dX12_silence_26 : decode cX12_silence 26 = .ok (.aload_n 0, 1) := by decide +kernel
theorem dX12_silence_27 : decode cX12_silence 27 = .ok (.getfield 32, 3) := by decide +kernel
theorem dX12_silence_30 : decode cX12_silence 30 = .ok (.bipush 6, 2) := by decide +kernel
theorem dX12_silence_32 : decode cX12_silence 32 = .ok (.aload_n 0, 1) := by decide +kernel
theorem dX12_silence_33 : decode cX12_silence 33 = .ok (.invokevirtual 70, 3) := by decide +kernel
theorem dX12_silence_36 : decode cX12_silence 36 = .ok (.iastore, 1) := by decide +kernel
theorem dX12_silence_37 : decode cX12_silence 37 = .ok (.aload_n 0, 1) := by decide +kernel
theorem dX12_silence_38 : decode cX12_silence 38 = .ok (.getfield 46, 3) := by decide +kernel
theorem dX12_silence_41 : decode cX12_silence 41 = .ok (.ifCond .ne 9, 3) := by decide +kernel
theorem dX12_silence_44 : decode cX12_silence 44 = .ok (.aload_n 0, 1) := by decide +kernel
theorem dX12_silence_45 : decode cX12_silence 45 = .ok (.bipush 43, 2) := by decide +kernel
theorem dX12_silence_47 : decode cX12_silence 47 = .ok (.invokevirtual 66, 3) := by decide +kernel
theorem dX12_silence_50 : decode cX12_silence 50 = .ok (.aload_n 0, 1) := by decide +kernel
theorem dX12_silence_51 : decode cX12_silence 51 = .ok (.getfield 46, 3) := by decide +kernel
theorem dX12_silence_54 : decode cX12_silence 54 = .ok (.ifCond .ne 14, 3) := by decide +kernel
theorem dX12_silence_57 : decode cX12_silence 57 = .ok (.aload_n 0, 1) := by decide +kernel
theorem dX12_silence_58 : decode cX12_silence 58 = .ok (.getfield 32, 3) := by decide +kernel
theorem dX12_silence_61 : decode cX12_silence 61 = .ok (.bipush 7, 2) := by decide +kernel
theorem dX12_silence_63 : decode cX12_silence 63 = .ok (.aload_n 0, 1) := by decide +kernel
theorem dX12_silence_64 : decode cX12_silence 64 = .ok (.invokevirtual 70, 3) := by decide +kernel
theorem dX12_silence_67 : decode cX12_silence 67 = .ok (.iastore, 1) := by decide +kernel
theorem dX12_silence_68 : decode cX12_silence 68 = .ok (.return_, 1) := by decide +kernel
theorem dX12_inhibition_0 : decode cX12_inhibition 0 = .ok (.aload_n 0, 1) := by decide +kernel
theorem dX12_inhibition_1 : decode cX12_inhibition 1 = .ok (.iconst 1, 1) := by decide +kernel
theorem dX12_inhibition_2 : decode cX12_inhibition 2 = .ok (.iconst 1, 1) := by decide +kernel
theorem dX12_inhibition_3 : decode cX12_inhibition 3 = .ok (.invokevirtual 62, 3) := by decide +kernel
theorem dX12_inhibition_6 : decode cX12_inhibition 6 = .ok (.aload_n 0, 1) := by decide +kernel
theorem dX12_inhibition_7 : decode cX12_inhibition 7 = .ok (.getfield 46, 3) := by decide +kernel
theorem dX12_inhibition_10 : decode cX12_inhibition 10 = .ok (.ifCond .ne 9, 3) := by decide +kernel
theorem dX12_inhibition_13 : decode cX12_inhibition 13 = .ok (.aload_n 0, 1) := by decide +kernel
theorem dX12_inhibition_14 : decode cX12_inhibition 14 = .ok (.bipush 62, 2) := by decide +kernel
theorem dX12_inhibition_16 : decode cX12_inhibition 16 = .ok (.invokevirtual 66, 3) := by decide +kernel
theorem dX12_inhibition_19 : decode cX12_inhibition 19 = .ok (.aload_n 0, 1) := by decide +kernel
theorem dX12_inhibition_20 : decode cX12_inhibition 20 = .ok (.getfield 46, 3) := by decide +kernel
theorem dX12_inhibition_23 : decode cX12_inhibition 23 = .ok (.ifCond .ne 10, 3) := by decide +kernel
theorem dX12_inhibition_26 : decode cX12_inhibition 26 = .ok (.aload_n 0, 1) := by decide +kernel
theorem dX12_inhibition_27 : decode cX12_inhibition 27 = .ok (.bipush 6, 2) := by decide +kernel
theorem dX12_inhibition_29 : decode cX12_inhibition 29 = .ok (.iconst 1, 1) := by decide +kernel
theorem dX12_inhibition_30 : decode cX12_inhibition 30 = .ok (.invokevirtual 62, 3) := by decide +kernel
theorem dX12_inhibition_33 : decode cX12_inhibition 33 = .ok (.aload_n 0, 1) := by decide +kernel
theorem dX12_inhibition_34 : decode cX12_inhibition 34 = .ok (.getfield 46, 3) := by decide +kernel
theorem dX12_inhibition_37 : decode cX12_inhibition 37 = .ok (.ifCond .ne 9, 3) := by decide +kernel
theorem dX12_inhibition_40 : decode cX12_inhibition 40 = .ok (.aload_n 0, 1) := by decide +kernel
theorem dX12_inhibition_41 : decode cX12_inhibition 41 = .ok (.bipush 47, 2) := by decide +kernel
theorem dX12_inhibition_43 : decode cX12_inhibition 43 = .ok (.invokevirtual 66, 3) := by decide +kernel
theorem dX12_inhibition_46 : decode cX12_inhibition 46 = .ok (.aload_n 0, 1) := by decide +kernel
theorem dX12_inhibition_47 : decode cX12_inhibition 47 = .ok (.getfield 46, 3) := by decide +kernel
theorem dX12_inhibition_50 : decode cX12_inhibition 50 = .ok (.ifCond .ne 104, 3) := by decide +kernel
theorem dX12_inhibition_53 : decode cX12_inhibition 53 = .ok (.aload_n 0, 1) := by decide +kernel
theorem dX12_inhibition_54 : decode cX12_inhibition 54 = .ok (.getfield 43, 3) := by decide +kernel
theorem dX12_inhibition_57 : decode cX12_inhibition 57 = .ok (.aload_n 0, 1) := by decide +kernel
theorem dX12_inhibition_58 : decode cX12_inhibition 58 = .ok (.getfield 39, 3) := by decide +kernel
theorem dX12_inhibition_61 : decode cX12_inhibition 61 = .ok (.if_icmp .ge 93, 3) := by decide +kernel
theorem dX12_inhibition_64 : decode cX12_inhibition 64 = .ok (.aload_n 0, 1) := by decide +kernel
theorem dX12_inhibition_65 : decode cX12_inhibition 65 = .ok (.invokevirtual 50, 3) := by decide +kernel
theorem dX12_inhibition_68 : decode cX12_inhibition 68 = .ok (.istore_n 1, 1) := by decide +kernel
theorem dX12_inhibition_69 : decode cX12_inhibition 69 = .ok (.iload_n 1, 1) := by decide +kernel
theorem dX12_inhibition_70 : decode cX12_inhibition 70 = .ok (.bipush 116, 2) := by decide +kernel
theorem dX12_inhibition_72 : decode cX12_inhibition 72 = .ok (.if_icmp .ne 7, 3) := by decide +kernel
theorem dX12_inhibition_75 : decode cX12_inhibition 75 = .ok (.iconst 1, 1) := by decide +kernel
theorem dX12_inhibition_76 : decode cX12_inhibition 76 = .ok (.goto 24, 3) := by decide +kernel
theorem dX12_inhibition_79 : decode cX12_inhibition 79 = .ok (.iload_n 1, 1) := by decide +kernel
theorem dX12_inhibition_80 : decode cX12_inhibition 80 = .ok (.bipush 104, 2) := by decide +kernel
theorem dX12_inhibition_82 : decode cX12_inhibition 82 = .ok (.if_icmp .ne 7, 3) := by decide +kernel
theorem dX12_inhibition_85 : decode cX12_inhibition 85 = .ok (.iconst 2, 1) := by decide +kernel
theorem dX12_inhibition_86 : decode cX12_inhibition 86 = .ok (.goto 14, 3) := by decide +kernel
theorem dX12_inhibition_89 : decode cX12_inhibition 89 = .ok (.iload_n 1, 1) := by decide +kernel
theorem dX12_inhibition_90 : decode cX12_inhibition 90 = .ok (.bipush 122, 2) := by decide +kernel
theorem dX12_inhibition_92 : decode cX12_inhibition 92 = .ok (.if_icmp .ne 7, 3) := by decide +kernel
theorem dX12_inhibition_95 : decode cX12_inhibition 95 = .ok (.iconst 4, 1) := by decide +kernel
theorem dX12_inhibition_96 : decode cX12_inhibition 96 = .ok (.goto 4, 3) := by decide +kernel
theorem dX12_inhibition_99 : decode cX12_inhibition 99 = .ok (.iconst 0, 1) := by decide +kernel
theorem dX12_inhibition_100 : decode cX12_inhibition 100 = .ok (.istore_n 2, 1) := by decide +kernel
theorem dX12_inhibition_101 : decode cX12_inhibition 101 = .ok (.aload_n 0, 1) := by decide +kernel
theorem dX12_inhibition_102 : decode cX12_inhibition 102 = .ok (.dup, 1) := by decide +kernel
theorem dX12_inhibition_103 : decode cX12_inhibition 103 = .ok (.getfield 46, 3) := by decide +kernel
theorem dX12_inhibition_106 : decode cX12_inhibition 106 = .ok (.iload_n 2, 1) := by decide +kernel
theorem dX12_inhibition_107 : decode cX12_inhibition 107 = .ok (.ifCond .ne 7, 3) := by decide +kernel
theorem dX12_inhibition_110 : decode cX12_inhibition 110 = .ok (.iconst 1, 1) := by decide +kernel
theorem dX12_inhibition_111 : decode cX12_inhibition 111 = .ok (.goto 4, 3) := by decide +kernel
theorem dX12_inhibition_114 : decode cX12_inhibition 114 = .ok (.iconst 0, 1) := by decide +kernel
theorem dX12_inhibition_115 : decode cX12_inhibition 115 = .ok (.ior, 1) := by decide +kernel
theorem dX12_inhibition_116 : decode cX12_inhibition 116 = .ok (.putfield 46, 3) := by decide +kernel
theorem dX12_inhibition_119 : decode cX12_inhibition 119 = .ok (.aload_n 0, 1) := by decide +kernel
theorem dX12_inhibition_120 : decode cX12_inhibition 120 = .ok (.getfield 32, 3) := by decide +kernel
theorem dX12_inhibition_123 : decode cX12_inhibition 123 = .ok (.bipush 11, 2) := by decide +kernel
theorem dX12_inhibition_125 : decode cX12_inhibition 125 = .ok (.dup2, 1) := by decide +kernel
theorem dX12_inhibition_126 : decode cX12_inhibition 126 = .ok (.iaload, 1) := by decide +kernel
theorem dX12_inhibition_127 : decode cX12_inhibition 127 = .ok (.iload_n 2, 1) := by decide +kernel
theorem dX12_inhibition_128 : decode cX12_inhibition 128 = .ok (.ior, 1) := by decide +kernel
theorem dX12_inhibition_129 : decode cX12_inhibition 129 = .ok (.iastore, 1) := by decide +kernel
theorem dX12_inhibition_130 : decode cX12_inhibition 130 = .ok (.aload_n 0, 1) := by decide +kernel
theorem dX12_inhibition_131 : decode cX12_inhibition 131 = .ok (.dup, 1) := by decide +kernel
theorem dX12_inhibition_132 : decode cX12_inhibition 132 = .ok (.getfield 43, 3) := by decide +kernel
theorem dX12_inhibition_135 : decode cX12_inhibition 135 = .ok (.aload_n 0, 1) := by decide +kernel
theorem dX12_inhibition_136 : decode cX12_inhibition 136 = .ok (.getfield 46, 3) := by decide +kernel
theorem dX12_inhibition_139 : decode cX12_inhibition 139 = .ok (.ifCond .eq 7, 3) := by decide +kernel
theorem dX12_inhibition_142 : decode cX12_inhibition 142 = .ok (.iconst 0, 1) := by decide +kernel
theorem dX12_inhibition_143 : decode cX12_inhibition 143 = .ok (.goto 4, 3) := by decide +kernel
theorem dX12_inhibition_146 : decode cX12_inhibition 146 = .ok (.iconst 1, 1) := by decide +kernel
theorem dX12_inhibition_147 : decode cX12_inhibition 147 = .ok (.iadd, 1) := by decide +kernel
theorem dX12_inhibition_148 : decode cX12_inhibition 148 = .ok (.putfield 43, 3) := by decide +kernel
theorem dX12_inhibition_151 : decode cX12_inhibition 151 = .ok (.goto (-105), 3) := by decide +kernel
theorem dX12_inhibition_154 : decode cX12_inhibition 154 = .ok (.return_, 1) := by decide +kernel
theorem dX12_first_0 : decode cX12_first 0 = .ok (.iload_n 0, 1) := by decide +kernel
theorem dX12_first_1 : decode cX12_first 1 = .ok (.ifCond .ne 8, 3) := by decide +kernel
theorem dX12_first_4 : decode cX12_first 4 = .ok (.bipush 60, 2) := by decide +kernel
theorem dX12_first_6 : decode cX12_first 6 = .ok (.goto 16, 3) := by decide +kernel
theorem dX12_first_9 : decode cX12_first 9 = .ok (.iload_n 0, 1) := by decide +kernel
theorem dX12_first_10 : decode cX12_first 10 = .ok (.iconst 1, 1) := by decide +kernel
theorem dX12_first_11 : decode cX12_first 11 = .ok (.if_icmp .ne 8, 3) := by decide +kernel
theorem dX12_first_14 : decode cX12_first 14 = .ok (.bipush 110, 2) := by decide +kernel
theorem dX12_first_16 : decode cX12_first 16 = .ok (.goto 6, 3) := by decide +kernel
theorem dX12_first_19 : decode cX12_first 19 = .ok (.sipush 158, 3) := by decide +kernel
theorem dX12_first_22 : decode cX12_first 22 = .ok (.ireturn, 1) := by decide +kernel
theorem dX12_wide_0 : decode cX12_wide 0 = .ok (.iload_n 0, 1) := by decide +kernel
theorem dX12_wide_1 : decode cX12_wide 1 = .ok (.ifCond .ne 8, 3) := by decide +kernel
theorem dX12_wide_4 : decode cX12_wide 4 = .ok (.bipush 10, 2) := by decide +kernel
theorem dX12_wide_6 : decode cX12_wide 6 = .ok (.goto 15, 3) := by decide +kernel
theorem dX12_wide_9 : decode cX12_wide 9 = .ok (.iload_n 0, 1) := by decide +kernel
theorem dX12_wide_10 : decode cX12_wide 10 = .ok (.iconst 1, 1) := by decide +kernel
theorem dX12_wide_11 : decode cX12_wide 11 = .ok (.if_icmp .ne 8, 3) := by decide +kernel
theorem dX12_wide_14 : decode cX12_wide 14 = .ok (.bipush 8, 2) := by decide +kernel
theorem dX12_wide_16 : decode cX12_wide 16 = .ok (.goto 5, 3) := by decide +kernel
theorem dX12_wide_19 : decode cX12_wide 19 = .ok (.bipush 12, 2) := by decide +kernel
theorem dX12_wide_21 : decode cX12_wide 21 = .ok (.ireturn, 1) := by decide +kernel
theorem dX12_most_0 : decode cX12_most 0 = .ok (.iload_n 0, 1) := by decide +kernel
theorem dX12_most_1 : decode cX12_most 1 = .ok (.ifCond .ne 7, 3) := by decide +kernel
theorem dX12_most_4 : decode cX12_most 4 = .ok (.iconst 5, 1) := by decide +kernel
theorem dX12_most_5 : decode cX12_most 5 = .ok (.goto 14, 3) := by decide +kernel
theorem dX12_most_8 : decode cX12_most 8 = .ok (.iload_n 0, 1) := by decide +kernel
theorem dX12_most_9 : decode cX12_most 9 = .ok (.iconst 1, 1) := by decide +kernel
theorem dX12_most_10 : decode cX12_most 10 = .ok (.if_icmp .ne 8, 3) := by decide +kernel
theorem dX12_most_13 : decode cX12_most 13 = .ok (.bipush 6, 2) := by decide +kernel
theorem dX12_most_15 : decode cX12_most 15 = .ok (.goto 4, 3) := by decide +kernel
theorem dX12_most_18 : decode cX12_most 18 = .ok (.iconst 4, 1) := by decide +kernel
theorem dX12_most_19 : decode cX12_most 19 = .ok (.ireturn, 1) := by decide +kernel
theorem dX12_isOne_0 : decode cX12_isOne 0 = .ok (.iload_n 2, 1) := by decide +kernel
theorem dX12_isOne_1 : decode cX12_isOne 1 = .ok (.iconst 0, 1) := by decide +kernel
theorem dX12_isOne_2 : decode cX12_isOne 2 = .ok (.iload_n 1, 1) := by decide +kernel
theorem dX12_isOne_3 : decode cX12_isOne 3 = .ok (.invokestatic 73, 3) := by decide +kernel
theorem dX12_isOne_6 : decode cX12_isOne 6 = .ok (.iconst 1, 1) := by decide +kernel
theorem dX12_isOne_7 : decode cX12_isOne 7 = .ok (.isub, 1) := by decide +kernel
theorem dX12_isOne_8 : decode cX12_isOne 8 = .ok (.invokestatic 35, 3) := by decide +kernel
theorem dX12_isOne_11 : decode cX12_isOne 11 = .ok (.ifCond .eq 27, 3) := by decide +kernel
theorem dX12_isOne_14 : decode cX12_isOne 14 = .ok (.aload_n 0, 1) := by decide +kernel
theorem dX12_isOne_15 : decode cX12_isOne 15 = .ok (.getfield 9, 3) := by decide +kernel
theorem dX12_isOne_18 : decode cX12_isOne 18 = .ok (.iload_n 1, 1) := by decide +kernel
theorem dX12_isOne_19 : decode cX12_isOne 19 = .ok (.invokestatic 76, 3) := by decide +kernel
theorem dX12_isOne_22 : decode cX12_isOne 22 = .ok (.iload_n 1, 1) := by decide +kernel
theorem dX12_isOne_23 : decode cX12_isOne 23 = .ok (.invokestatic 79, 3) := by decide +kernel
theorem dX12_isOne_26 : decode cX12_isOne 26 = .ok (.iload_n 2, 1) := by decide +kernel
theorem dX12_isOne_27 : decode cX12_isOne 27 = .ok (.imul, 1) := by decide +kernel
theorem dX12_isOne_28 : decode cX12_isOne 28 = .ok (.iadd, 1) := by decide +kernel
theorem dX12_isOne_29 : decode cX12_isOne 29 = .ok (.iaload, 1) := by decide +kernel
theorem dX12_isOne_30 : decode cX12_isOne 30 = .ok (.iconst 1, 1) := by decide +kernel
theorem dX12_isOne_31 : decode cX12_isOne 31 = .ok (.if_icmp .ne 7, 3) := by decide +kernel
theorem dX12_isOne_34 : decode cX12_isOne 34 = .ok (.iconst 1, 1) := by decide +kernel
theorem dX12_isOne_35 : decode cX12_isOne 35 = .ok (.goto 4, 3) := by decide +kernel
theorem dX12_isOne_38 : decode cX12_isOne 38 = .ok (.iconst 0, 1) := by decide +kernel
theorem dX12_isOne_39 : decode cX12_isOne 39 = .ok (.ireturn, 1) := by decide +kernel
theorem dX12_many_0 : decode cX12_many 0 = .ok (.iconst 0, 1) := by decide +kernel
theorem dX12_many_1 : decode cX12_many 1 = .ok (.istore_n 2, 1) := by decide +kernel
theorem dX12_many_2 : decode cX12_many 2 = .ok (.iconst 0, 1) := by decide +kernel
theorem dX12_many_3 : decode cX12_many 3 = .ok (.istore_n 3, 1) := by decide +kernel
theorem dX12_many_4 : decode cX12_many 4 = .ok (.iload_n 3, 1) := by decide +kernel
theorem dX12_many_5 : decode cX12_many 5 = .ok (.iload_n 1, 1) := by decide +kernel
theorem dX12_many_6 : decode cX12_many 6 = .ok (.invokestatic 73, 3) := by decide +kernel
theorem dX12_many_9 : decode cX12_many 9 = .ok (.if_icmp .ge 26, 3) := by decide +kernel
theorem dX12_many_12 : decode cX12_many 12 = .ok (.iload_n 2, 1) := by decide +kernel
theorem dX12_many_13 : decode cX12_many 13 = .ok (.aload_n 0, 1) := by decide +kernel
theorem dX12_many_14 : decode cX12_many 14 = .ok (.iload_n 1, 1) := by decide +kernel
theorem dX12_many_15 : decode cX12_many 15 = .ok (.iload_n 3, 1) := by decide +kernel
theorem dX12_many_16 : decode cX12_many 16 = .ok (.invokevirtual 82, 3) := by decide +kernel
theorem dX12_many_19 : decode cX12_many 19 = .ok (.ifCond .eq 7, 3) := by decide +kernel
theorem dX12_many_22 : decode cX12_many 22 = .ok (.iconst 1, 1) := by decide +kernel
theorem dX12_many_23 : decode cX12_many 23 = .ok (.goto 4, 3) := by decide +kernel
theorem dX12_many_26 : decode cX12_many 26 = .ok (.iconst 0, 1) := by decide +kernel
theorem dX12_many_27 : decode cX12_many 27 = .ok (.iadd, 1) := by decide +kernel
theorem dX12_many_28 : decode cX12_many 28 = .ok (.istore_n 2, 1) := by decide +kernel
theorem dX12_many_29 : decode cX12_many 29 = .ok (.iinc 3 1, 3) := by decide +kernel
theorem dX12_many_32 : decode cX12_many 32 = .ok (.goto (-28), 3) := by decide +kernel
theorem dX12_many_35 : decode cX12_many 35 = .ok (.iload_n 2, 1) := by decide +kernel
theorem dX12_many_36 : decode cX12_many 36 = .ok (.ireturn, 1) := by decide +kernel
theorem dX12_add_0 : decode cX12_add 0 = .ok (.iload_n 1, 1) := by decide +kernel
theorem dX12_add_1 : decode cX12_add 1 = .ok (.iconst 0, 1) := by decide +kernel
theorem dX12_add_2 : decode cX12_add 2 = .ok (.iconst 2, 1) := by decide +kernel
theorem dX12_add_3 : decode cX12_add 3 = .ok (.invokestatic 35, 3) := by decide +kernel
theorem dX12_add_6 : decode cX12_add 6 = .ok (.ifCond .ne 5, 3) := by decide +kernel
theorem dX12_add_9 : decode cX12_add 9 = .ok (.iconst (-1), 1) := by decide +kernel
end
section
theorem dX12_add_10 : decode cX12_add 10 = .ok (.ireturn, 1) := by decide +kernel
theorem dX12_add_11 : decode cX12_add 11 = .ok (.aload_n 0, 1) := by decide +kernel
theorem dX12_add_12 : decode cX12_add 12 = .ok (.iload_n 1, 1) := by decide +kernel
theorem dX12_add_13 : decode cX12_add 13 = .ok (.invokevirtual 86, 3) := by decide +kernel
theorem dX12_add_16 : decode cX12_add 16 = .ok (.iload_n 1, 1) := by decide +kernel
theorem dX12_add_17 : decode cX12_add 17 = .ok (.invokestatic 73, 3) := by decide +kernel
theorem dX12_add_20 : decode cX12_add 20 = .ok (.if_icmp .ne 6, 3) := by decide +kernel
theorem dX12_add_23 : decode cX12_add 23 = .ok (.bipush (-4), 2) := by decide +kernel
theorem dX12_add_25 : decode cX12_add 25 = .ok (.ireturn, 1) := by decide +kernel
theorem dX12_add_26 : decode cX12_add 26 = .ok (.iconst 0, 1) := by decide +kernel
theorem dX12_add_27 : decode cX12_add 27 = .ok (.istore_n 2, 1) := by decide +kernel
theorem dX12_add_28 : decode cX12_add 28 = .ok (.iload_n 2, 1) := by decide +kernel
theorem dX12_add_29 : decode cX12_add 29 = .ok (.bipush 12, 2) := by decide +kernel
theorem dX12_add_31 : decode cX12_add 31 = .ok (.if_icmp .ge 16, 3) := by decide +kernel
theorem dX12_add_34 : decode cX12_add 34 = .ok (.aload_n 0, 1) := by decide +kernel
theorem dX12_add_35 : decode cX12_add 35 = .ok (.getfield 32, 3) := by decide +kernel
theorem dX12_add_38 : decode cX12_add 38 = .ok (.iload_n 2, 1) := by decide +kernel
theorem dX12_add_39 : decode cX12_add 39 = .ok (.iconst 0, 1) := by decide +kernel
theorem dX12_add_40 : decode cX12_add 40 = .ok (.iastore, 1) := by decide +kernel
theorem dX12_add_41 : decode cX12_add 41 = .ok (.iinc 2 1, 3) := by decide +kernel
theorem dX12_add_44 : decode cX12_add 44 = .ok (.goto (-16), 3) := by decide +kernel
theorem dX12_add_47 : decode cX12_add 47 = .ok (.aload_n 0, 1) := by decide +kernel
theorem dX12_add_48 : decode cX12_add 48 = .ok (.iconst 0, 1) := by decide +kernel
theorem dX12_add_49 : decode cX12_add 49 = .ok (.putfield 43, 3) := by decide +kernel
theorem dX12_add_52 : decode cX12_add 52 = .ok (.aload_n 0, 1) := by decide +kernel
theorem dX12_add_53 : decode cX12_add 53 = .ok (.iconst 0, 1) := by decide +kernel
theorem dX12_add_54 : decode cX12_add 54 = .ok (.putfield 46, 3) := by decide +kernel
theorem dX12_add_57 : decode cX12_add 57 = .ok (.iload_n 1, 1) := by decide +kernel
theorem dX12_add_58 : decode cX12_add 58 = .ok (.ifCond .ne 10, 3) := by decide +kernel
theorem dX12_add_61 : decode cX12_add 61 = .ok (.aload_n 0, 1) := by decide +kernel
theorem dX12_add_62 : decode cX12_add 62 = .ok (.invokevirtual 89, 3) := by decide +kernel
theorem dX12_add_65 : decode cX12_add 65 = .ok (.goto 19, 3) := by decide +kernel
theorem dX12_add_68 : decode cX12_add 68 = .ok (.iload_n 1, 1) := by decide +kernel
theorem dX12_add_69 : decode cX12_add 69 = .ok (.iconst 1, 1) := by decide +kernel
theorem dX12_add_70 : decode cX12_add 70 = .ok (.if_icmp .ne 10, 3) := by decide +kernel
theorem dX12_add_73 : decode cX12_add 73 = .ok (.aload_n 0, 1) := by decide +kernel
theorem dX12_add_74 : decode cX12_add 74 = .ok (.invokevirtual 92, 3) := by decide +kernel
theorem dX12_add_77 : decode cX12_add 77 = .ok (.goto 7, 3) := by decide +kernel
theorem dX12_add_80 : decode cX12_add 80 = .ok (.aload_n 0, 1) := by decide +kernel
theorem dX12_add_81 : decode cX12_add 81 = .ok (.invokevirtual 95, 3) := by decide +kernel
theorem dX12_add_84 : decode cX12_add 84 = .ok (.aload_n 0, 1) := by decide +kernel
theorem dX12_add_85 : decode cX12_add 85 = .ok (.dup, 1) := by decide +kernel
theorem dX12_add_86 : decode cX12_add 86 = .ok (.getfield 46, 3) := by decide +kernel
theorem dX12_add_89 : decode cX12_add 89 = .ok (.aload_n 0, 1) := by decide +kernel
theorem dX12_add_90 : decode cX12_add 90 = .ok (.getfield 43, 3) := by decide +kernel
theorem dX12_add_93 : decode cX12_add 93 = .ok (.aload_n 0, 1) := by decide +kernel
theorem dX12_add_94 : decode cX12_add 94 = .ok (.getfield 39, 3) := by decide +kernel
theorem dX12_add_97 : decode cX12_add 97 = .ok (.if_icmp .ge 7, 3) := by decide +kernel
theorem dX12_add_100 : decode cX12_add 100 = .ok (.iconst 1, 1) := by decide +kernel
theorem dX12_add_101 : decode cX12_add 101 = .ok (.goto 4, 3) := by decide +kernel
theorem dX12_add_104 : decode cX12_add 104 = .ok (.iconst 0, 1) := by decide +kernel
theorem dX12_add_105 : decode cX12_add 105 = .ok (.ior, 1) := by decide +kernel
theorem dX12_add_106 : decode cX12_add 106 = .ok (.putfield 46, 3) := by decide +kernel
theorem dX12_add_109 : decode cX12_add 109 = .ok (.aload_n 0, 1) := by decide +kernel
theorem dX12_add_110 : decode cX12_add 110 = .ok (.iconst 0, 1) := by decide +kernel
theorem dX12_add_111 : decode cX12_add 111 = .ok (.putfield 39, 3) := by decide +kernel
theorem dX12_add_114 : decode cX12_add 114 = .ok (.aload_n 0, 1) := by decide +kernel
theorem dX12_add_115 : decode cX12_add 115 = .ok (.getfield 46, 3) := by decide +kernel
theorem dX12_add_118 : decode cX12_add 118 = .ok (.ifCond .eq 11, 3) := by decide +kernel
theorem dX12_add_121 : decode cX12_add 121 = .ok (.bipush (-100), 2) := by decide +kernel
theorem dX12_add_123 : decode cX12_add 123 = .ok (.aload_n 0, 1) := by decide +kernel
theorem dX12_add_124 : decode cX12_add 124 = .ok (.getfield 43, 3) := by decide +kernel
theorem dX12_add_127 : decode cX12_add 127 = .ok (.isub, 1) := by decide +kernel
theorem dX12_add_128 : decode cX12_add 128 = .ok (.ireturn, 1) := by decide +kernel
theorem dX12_add_129 : decode cX12_add 129 = .ok (.iconst 0, 1) := by decide +kernel
theorem dX12_add_130 : decode cX12_add 130 = .ok (.istore_n 2, 1) := by decide +kernel
theorem dX12_add_131 : decode cX12_add 131 = .ok (.aload_n 0, 1) := by decide +kernel
theorem dX12_add_132 : decode cX12_add 132 = .ok (.iload_n 1, 1) := by decide +kernel
theorem dX12_add_133 : decode cX12_add 133 = .ok (.iload_n 2, 1) := by decide +kernel
theorem dX12_add_134 : decode cX12_add 134 = .ok (.invokevirtual 82, 3) := by decide +kernel
theorem dX12_add_137 : decode cX12_add 137 = .ok (.ifCond .eq 9, 3) := by decide +kernel
theorem dX12_add_140 : decode cX12_add 140 = .ok (.iinc 2 1, 3) := by decide +kernel
theorem dX12_add_143 : decode cX12_add 143 = .ok (.goto (-12), 3) := by decide +kernel
theorem dX12_add_146 : decode cX12_add 146 = .ok (.aload_n 0, 1) := by decide +kernel
theorem dX12_add_147 : decode cX12_add 147 = .ok (.getfield 32, 3) := by decide +kernel
theorem dX12_add_150 : decode cX12_add 150 = .ok (.iconst 0, 1) := by decide +kernel
theorem dX12_add_151 : decode cX12_add 151 = .ok (.iconst 1, 1) := by decide +kernel
theorem dX12_add_152 : decode cX12_add 152 = .ok (.iastore, 1) := by decide +kernel
theorem dX12_add_153 : decode cX12_add 153 = .ok (.iconst 0, 1) := by decide +kernel
theorem dX12_add_154 : decode cX12_add 154 = .ok (.istore_n 3, 1) := by decide +kernel
theorem dX12_add_155 : decode cX12_add 155 = .ok (.iload_n 3, 1) := by decide +kernel
theorem dX12_add_156 : decode cX12_add 156 = .ok (.iload_n 1, 1) := by decide +kernel
theorem dX12_add_157 : decode cX12_add 157 = .ok (.invokestatic 79, 3) := by decide +kernel
theorem dX12_add_160 : decode cX12_add 160 = .ok (.if_icmp .ge 33, 3) := by decide +kernel
theorem dX12_add_163 : decode cX12_add 163 = .ok (.aload_n 0, 1) := by decide +kernel
theorem dX12_add_164 : decode cX12_add 164 = .ok (.getfield 9, 3) := by decide +kernel
theorem dX12_add_167 : decode cX12_add 167 = .ok (.iload_n 1, 1) := by decide +kernel
theorem dX12_add_168 : decode cX12_add 168 = .ok (.invokestatic 76, 3) := by decide +kernel
theorem dX12_add_171 : decode cX12_add 171 = .ok (.iload_n 1, 1) := by decide +kernel
theorem dX12_add_172 : decode cX12_add 172 = .ok (.invokestatic 79, 3) := by decide +kernel
theorem dX12_add_175 : decode cX12_add 175 = .ok (.iload_n 2, 1) := by decide +kernel
theorem dX12_add_176 : decode cX12_add 176 = .ok (.imul, 1) := by decide +kernel
theorem dX12_add_177 : decode cX12_add 177 = .ok (.iadd, 1) := by decide +kernel
theorem dX12_add_178 : decode cX12_add 178 = .ok (.iload_n 3, 1) := by decide +kernel
theorem dX12_add_179 : decode cX12_add 179 = .ok (.iadd, 1) := by decide +kernel
theorem dX12_add_180 : decode cX12_add 180 = .ok (.aload_n 0, 1) := by decide +kernel
theorem dX12_add_181 : decode cX12_add 181 = .ok (.getfield 32, 3) := by decide +kernel
theorem dX12_add_184 : decode cX12_add 184 = .ok (.iload_n 3, 1) := by decide +kernel
theorem dX12_add_185 : decode cX12_add 185 = .ok (.iaload, 1) := by decide +kernel
theorem dX12_add_186 : decode cX12_add 186 = .ok (.iastore, 1) := by decide +kernel
theorem dX12_add_187 : decode cX12_add 187 = .ok (.iinc 3 1, 3) := by decide +kernel
theorem dX12_add_190 : decode cX12_add 190 = .ok (.goto (-35), 3) := by decide +kernel
theorem dX12_add_193 : decode cX12_add 193 = .ok (.iload_n 2, 1) := by decide +kernel
theorem dX12_add_194 : decode cX12_add 194 = .ok (.ireturn, 1) := by decide +kernel
theorem dX12_remove_0 : decode cX12_remove 0 = .ok (.iload_n 1, 1) := by decide +kernel
theorem dX12_remove_1 : decode cX12_remove 1 = .ok (.iconst 0, 1) := by decide +kernel
theorem dX12_remove_2 : decode cX12_remove 2 = .ok (.iconst 2, 1) := by decide +kernel
theorem dX12_remove_3 : decode cX12_remove 3 = .ok (.invokestatic 35, 3) := by decide +kernel
theorem dX12_remove_6 : decode cX12_remove 6 = .ok (.ifCond .eq 12, 3) := by decide +kernel
theorem dX12_remove_9 : decode cX12_remove 9 = .ok (.aload_n 0, 1) := by decide +kernel
theorem dX12_remove_10 : decode cX12_remove 10 = .ok (.iload_n 1, 1) := by decide +kernel
theorem dX12_remove_11 : decode cX12_remove 11 = .ok (.iload_n 2, 1) := by decide +kernel
theorem dX12_remove_12 : decode cX12_remove 12 = .ok (.invokevirtual 82, 3) := by decide +kernel
theorem dX12_remove_15 : decode cX12_remove 15 = .ok (.ifCond .ne 5, 3) := by decide +kernel
theorem dX12_remove_18 : decode cX12_remove 18 = .ok (.iconst (-1), 1) := by decide +kernel
theorem dX12_remove_19 : decode cX12_remove 19 = .ok (.ireturn, 1) := by decide +kernel
theorem dX12_remove_20 : decode cX12_remove 20 = .ok (.aload_n 0, 1) := by decide +kernel
theorem dX12_remove_21 : decode cX12_remove 21 = .ok (.getfield 9, 3) := by decide +kernel
theorem dX12_remove_24 : decode cX12_remove 24 = .ok (.iload_n 1, 1) := by decide +kernel
theorem dX12_remove_25 : decode cX12_remove 25 = .ok (.invokestatic 76, 3) := by decide +kernel
theorem dX12_remove_28 : decode cX12_remove 28 = .ok (.iload_n 1, 1) := by decide +kernel
theorem dX12_remove_29 : decode cX12_remove 29 = .ok (.invokestatic 79, 3) := by decide +kernel
theorem dX12_remove_32 : decode cX12_remove 32 = .ok (.iload_n 2, 1) := by decide +kernel
theorem dX12_remove_33 : decode cX12_remove 33 = .ok (.imul, 1) := by decide +kernel
theorem dX12_remove_34 : decode cX12_remove 34 = .ok (.iadd, 1) := by decide +kernel
theorem dX12_remove_35 : decode cX12_remove 35 = .ok (.iconst 0, 1) := by decide +kernel
theorem dX12_remove_36 : decode cX12_remove 36 = .ok (.iastore, 1) := by decide +kernel
theorem dX12_remove_37 : decode cX12_remove 37 = .ok (.sipush 276, 3) := by decide +kernel
theorem dX12_remove_40 : decode cX12_remove 40 = .ok (.iload_n 2, 1) := by decide +kernel
theorem dX12_remove_41 : decode cX12_remove 41 = .ok (.imul, 1) := by decide +kernel
theorem dX12_remove_42 : decode cX12_remove 42 = .ok (.istore_n 3, 1) := by decide +kernel
theorem dX12_remove_43 : decode cX12_remove 43 = .ok (.iload_n 1, 1) := by decide +kernel
theorem dX12_remove_44 : decode cX12_remove 44 = .ok (.ifCond .ne 31, 3) := by decide +kernel
theorem dX12_remove_47 : decode cX12_remove 47 = .ok (.iload_n 3, 1) := by decide +kernel
theorem dX12_remove_48 : decode cX12_remove 48 = .ok (.sipush 276, 3) := by decide +kernel
theorem dX12_remove_51 : decode cX12_remove 51 = .ok (.iload_n 2, 1) := by decide +kernel
theorem dX12_remove_52 : decode cX12_remove 52 = .ok (.iconst 1, 1) := by decide +kernel
theorem dX12_remove_53 : decode cX12_remove 53 = .ok (.iadd, 1) := by decide +kernel
theorem dX12_remove_54 : decode cX12_remove 54 = .ok (.imul, 1) := by decide +kernel
theorem dX12_remove_55 : decode cX12_remove 55 = .ok (.if_icmp .ge 20, 3) := by decide +kernel
theorem dX12_remove_58 : decode cX12_remove 58 = .ok (.aload_n 0, 1) := by decide +kernel
theorem dX12_remove_59 : decode cX12_remove 59 = .ok (.getfield 9, 3) := by decide +kernel
theorem dX12_remove_62 : decode cX12_remove 62 = .ok (.sipush 206, 3) := by decide +kernel
theorem dX12_remove_65 : decode cX12_remove 65 = .ok (.iload_n 3, 1) := by decide +kernel
theorem dX12_remove_66 : decode cX12_remove 66 = .ok (.iadd, 1) := by decide +kernel
theorem dX12_remove_67 : decode cX12_remove 67 = .ok (.iconst 0, 1) := by decide +kernel
theorem dX12_remove_68 : decode cX12_remove 68 = .ok (.iastore, 1) := by decide +kernel
theorem dX12_remove_69 : decode cX12_remove 69 = .ok (.iinc 3 1, 3) := by decide +kernel
theorem dX12_remove_72 : decode cX12_remove 72 = .ok (.goto (-29), 3) := by decide +kernel
theorem dX12_remove_75 : decode cX12_remove 75 = .ok (.aload_n 0, 1) := by decide +kernel
theorem dX12_remove_76 : decode cX12_remove 76 = .ok (.iload_n 1, 1) := by decide +kernel
theorem dX12_remove_77 : decode cX12_remove 77 = .ok (.invokevirtual 86, 3) := by decide +kernel
theorem dX12_remove_80 : decode cX12_remove 80 = .ok (.ireturn, 1) := by decide +kernel
theorem dX12_parameter_0 : decode cX12_parameter 0 = .ok (.iload_n 1, 1) := by decide +kernel
theorem dX12_parameter_1 : decode cX12_parameter 1 = .ok (.iconst 0, 1) := by decide +kernel
theorem dX12_parameter_2 : decode cX12_parameter 2 = .ok (.iconst 4, 1) := by decide +kernel
theorem dX12_parameter_3 : decode cX12_parameter 3 = .ok (.invokestatic 35, 3) := by decide +kernel
theorem dX12_parameter_6 : decode cX12_parameter 6 = .ok (.ifCond .ne 5, 3) := by decide +kernel
theorem dX12_parameter_9 : decode cX12_parameter 9 = .ok (.iconst (-1), 1) := by decide +kernel
theorem dX12_parameter_10 : decode cX12_parameter 10 = .ok (.ireturn, 1) := by decide +kernel
theorem dX12_parameter_11 : decode cX12_parameter 11 = .ok (.iload_n 1, 1) := by decide +kernel
theorem dX12_parameter_12 : decode cX12_parameter 12 = .ok (.ifCond .ne 16, 3) := by decide +kernel
theorem dX12_parameter_15 : decode cX12_parameter 15 = .ok (.iload_n 2, 1) := by decide +kernel
theorem dX12_parameter_16 : decode cX12_parameter 16 = .ok (.iconst 1, 1) := by decide +kernel
theorem dX12_parameter_17 : decode cX12_parameter 17 = .ok (.bipush 60, 2) := by decide +kernel
theorem dX12_parameter_19 : decode cX12_parameter 19 = .ok (.invokestatic 35, 3) := by decide +kernel
theorem dX12_parameter_22 : decode cX12_parameter 22 = .ok (.ifCond .ne 56, 3) := by decide +kernel
theorem dX12_parameter_25 : decode cX12_parameter 25 = .ok (.goto 50, 3) := by decide +kernel
theorem dX12_parameter_28 : decode cX12_parameter 28 = .ok (.iload_n 1, 1) := by decide +kernel
theorem dX12_parameter_29 : decode cX12_parameter 29 = .ok (.iconst 3, 1) := by decide +kernel
theorem dX12_parameter_30 : decode cX12_parameter 30 = .ok (.if_icmp .ge 17, 3) := by decide +kernel
theorem dX12_parameter_33 : decode cX12_parameter 33 = .ok (.iload_n 2, 1) := by decide +kernel
theorem dX12_parameter_34 : decode cX12_parameter 34 = .ok (.iconst 1, 1) := by decide +kernel
theorem dX12_parameter_35 : decode cX12_parameter 35 = .ok (.sipush 999, 3) := by decide +kernel
theorem dX12_parameter_38 : decode cX12_parameter 38 = .ok (.invokestatic 35, 3) := by decide +kernel
theorem dX12_parameter_41 : decode cX12_parameter 41 = .ok (.ifCond .ne 37, 3) := by decide +kernel
theorem dX12_parameter_44 : decode cX12_parameter 44 = .ok (.goto 31, 3) := by decide +kernel
theorem dX12_parameter_47 : decode cX12_parameter 47 = .ok (.iload_n 1, 1) := by decide +kernel
theorem dX12_parameter_48 : decode cX12_parameter 48 = .ok (.iconst 3, 1) := by decide +kernel
theorem dX12_parameter_49 : decode cX12_parameter 49 = .ok (.if_icmp .ne 16, 3) := by decide +kernel
theorem dX12_parameter_52 : decode cX12_parameter 52 = .ok (.iload_n 2, 1) := by decide +kernel
theorem dX12_parameter_53 : decode cX12_parameter 53 = .ok (.iconst 2, 1) := by decide +kernel
theorem dX12_parameter_54 : decode cX12_parameter 54 = .ok (.bipush 20, 2) := by decide +kernel
theorem dX12_parameter_56 : decode cX12_parameter 56 = .ok (.invokestatic 35, 3) := by decide +kernel
theorem dX12_parameter_59 : decode cX12_parameter 59 = .ok (.ifCond .ne 19, 3) := by decide +kernel
theorem dX12_parameter_62 : decode cX12_parameter 62 = .ok (.goto 13, 3) := by decide +kernel
theorem dX12_parameter_65 : decode cX12_parameter 65 = .ok (.iload_n 2, 1) := by decide +kernel
theorem dX12_parameter_66 : decode cX12_parameter 66 = .ok (.iconst 0, 1) := by decide +kernel
theorem dX12_parameter_67 : decode cX12_parameter 67 = .ok (.bipush 7, 2) := by decide +kernel
theorem dX12_parameter_69 : decode cX12_parameter 69 = .ok (.invokestatic 35, 3) := by decide +kernel
theorem dX12_parameter_72 : decode cX12_parameter 72 = .ok (.ifCond .ne 6, 3) := by decide +kernel
theorem dX12_parameter_75 : decode cX12_parameter 75 = .ok (.bipush (-2), 2) := by decide +kernel
theorem dX12_parameter_77 : decode cX12_parameter 77 = .ok (.ireturn, 1) := by decide +kernel
theorem dX12_parameter_78 : decode cX12_parameter 78 = .ok (.aload_n 0, 1) := by decide +kernel
theorem dX12_parameter_79 : decode cX12_parameter 79 = .ok (.getfield 9, 3) := by decide +kernel
theorem dX12_parameter_82 : decode cX12_parameter 82 = .ok (.sipush 1842, 3) := by decide +kernel
theorem dX12_parameter_85 : decode cX12_parameter 85 = .ok (.iload_n 1, 1) := by decide +kernel
theorem dX12_parameter_86 : decode cX12_parameter 86 = .ok (.iadd, 1) := by decide +kernel
theorem dX12_parameter_87 : decode cX12_parameter 87 = .ok (.iaload, 1) := by decide +kernel
theorem dX12_parameter_88 : decode cX12_parameter 88 = .ok (.istore_n 3, 1) := by decide +kernel
theorem dX12_parameter_89 : decode cX12_parameter 89 = .ok (.aload_n 0, 1) := by decide +kernel
theorem dX12_parameter_90 : decode cX12_parameter 90 = .ok (.getfield 9, 3) := by decide +kernel
theorem dX12_parameter_93 : decode cX12_parameter 93 = .ok (.sipush 1842, 3) := by decide +kernel
theorem dX12_parameter_96 : decode cX12_parameter 96 = .ok (.iload_n 1, 1) := by decide +kernel
theorem dX12_parameter_97 : decode cX12_parameter 97 = .ok (.iadd, 1) := by decide +kernel
theorem dX12_parameter_98 : decode cX12_parameter 98 = .ok (.iload_n 2, 1) := by decide +kernel
theorem dX12_parameter_99 : decode cX12_parameter 99 = .ok (.iastore, 1) := by decide +kernel
theorem dX12_parameter_100 : decode cX12_parameter 100 = .ok (.iconst 0, 1) := by decide +kernel
theorem dX12_parameter_101 : decode cX12_parameter 101 = .ok (.istore 4, 2) := by decide +kernel
theorem dX12_parameter_103 : decode cX12_parameter 103 = .ok (.iload 4, 2) := by decide +kernel
theorem dX12_parameter_105 : decode cX12_parameter 105 = .ok (.sipush 128, 3) := by decide +kernel
theorem dX12_parameter_108 : decode cX12_parameter 108 = .ok (.if_icmp .ge 41, 3) := by decide +kernel
theorem dX12_parameter_111 : decode cX12_parameter 111 = .ok (.iload_n 1, 1) := by decide +kernel
theorem dX12_parameter_112 : decode cX12_parameter 112 = .ok (.iconst 4, 1) := by decide +kernel
theorem dX12_parameter_113 : decode cX12_parameter 113 = .ok (.if_icmp .ne 36, 3) := by decide +kernel
theorem dX12_parameter_116 : decode cX12_parameter 116 = .ok (.iload_n 3, 1) := by decide +kernel
theorem dX12_parameter_117 : decode cX12_parameter 117 = .ok (.iload_n 2, 1) := by decide +kernel
theorem dX12_parameter_118 : decode cX12_parameter 118 = .ok (.if_icmp .eq 31, 3) := by decide +kernel
theorem dX12_parameter_121 : decode cX12_parameter 121 = .ok (.aload_n 0, 1) := by decide +kernel
theorem dX12_parameter_122 : decode cX12_parameter 122 = .ok (.getfield 9, 3) := by decide +kernel
theorem dX12_parameter_125 : decode cX12_parameter 125 = .ok (.sipush 1586, 3) := by decide +kernel
theorem dX12_parameter_128 : decode cX12_parameter 128 = .ok (.iconst 2, 1) := by decide +kernel
theorem dX12_parameter_129 : decode cX12_parameter 129 = .ok (.iload 4, 2) := by decide +kernel
theorem dX12_parameter_131 : decode cX12_parameter 131 = .ok (.imul, 1) := by decide +kernel
theorem dX12_parameter_132 : decode cX12_parameter 132 = .ok (.iadd, 1) := by decide +kernel
theorem dX12_parameter_133 : decode cX12_parameter 133 = .ok (.iconst 0, 1) := by decide +kernel
theorem dX12_parameter_134 : decode cX12_parameter 134 = .ok (.iastore, 1) := by decide +kernel
theorem dX12_parameter_135 : decode cX12_parameter 135 = .ok (.aload_n 0, 1) := by decide +kernel
theorem dX12_parameter_136 : decode cX12_parameter 136 = .ok (.getfield 19, 3) := by decide +kernel
theorem dX12_parameter_139 : decode cX12_parameter 139 = .ok (.iload 4, 2) := by decide +kernel
theorem dX12_parameter_141 : decode cX12_parameter 141 = .ok (.lconst 0, 1) := by decide +kernel
theorem dX12_parameter_142 : decode cX12_parameter 142 = .ok (.lastore, 1) := by decide +kernel
theorem dX12_parameter_143 : decode cX12_parameter 143 = .ok (.iinc 4 1, 3) := by decide +kernel
theorem dX12_parameter_146 : decode cX12_parameter 146 = .ok (.goto (-43), 3) := by decide +kernel
theorem dX12_parameter_149 : decode cX12_parameter 149 = .ok (.iload_n 3, 1) := by decide +kernel
theorem dX12_parameter_150 : decode cX12_parameter 150 = .ok (.ireturn, 1) := by decide +kernel
theorem dX12_matches_0 : decode cX12_matches 0 = .ok (.iconst 1, 1) := by decide +kernel
theorem dX12_matches_1 : decode cX12_matches 1 = .ok (.istore_n 3, 1) := by decide +kernel
theorem dX12_matches_2 : decode cX12_matches 2 = .ok (.iload_n 3, 1) := by decide +kernel
theorem dX12_matches_3 : decode cX12_matches 3 = .ok (.aload_n 0, 1) := by decide +kernel
theorem dX12_matches_4 : decode cX12_matches 4 = .ok (.getfield 9, 3) := by decide +kernel
theorem dX12_matches_7 : decode cX12_matches 7 = .ok (.iload_n 2, 1) := by decide +kernel
theorem dX12_matches_8 : decode cX12_matches 8 = .ok (.iaload, 1) := by decide +kernel
theorem dX12_matches_9 : decode cX12_matches 9 = .ok (.if_icmp .gt 106, 3) := by decide +kernel
theorem dX12_matches_12 : decode cX12_matches 12 = .ok (.aload_n 0, 1) := by decide +kernel
theorem dX12_matches_13 : decode cX12_matches 13 = .ok (.getfield 9, 3) := by decide +kernel
theorem dX12_matches_16 : decode cX12_matches 16 = .ok (.iload_n 2, 1) := by decide +kernel
theorem dX12_matches_17 : decode cX12_matches 17 = .ok (.iload_n 3, 1) := by decide +kernel
theorem dX12_matches_18 : decode cX12_matches 18 = .ok (.iadd, 1) := by decide +kernel
theorem dX12_matches_19 : decode cX12_matches 19 = .ok (.iaload, 1) := by decide +kernel
theorem dX12_matches_20 : decode cX12_matches 20 = .ok (.istore 4, 2) := by decide +kernel
theorem dX12_matches_22 : decode cX12_matches 22 = .ok (.iload 4, 2) := by decide +kernel
theorem dX12_matches_24 : decode cX12_matches 24 = .ok (.bipush 64, 2) := by decide +kernel
theorem dX12_matches_26 : decode cX12_matches 26 = .ok (.irem, 1) := by decide +kernel
theorem dX12_matches_27 : decode cX12_matches 27 = .ok (.bipush 16, 2) := by decide +kernel
theorem dX12_matches_29 : decode cX12_matches 29 = .ok (.idiv, 1) := by decide +kernel
theorem dX12_matches_30 : decode cX12_matches 30 = .ok (.istore 5, 2) := by decide +kernel
theorem dX12_matches_32 : decode cX12_matches 32 = .ok (.iload 5, 2) := by decide +kernel
theorem dX12_matches_34 : decode cX12_matches 34 = .ok (.iconst 3, 1) := by decide +kernel
theorem dX12_matches_35 : decode cX12_matches 35 = .ok (.if_icmp .ne 24, 3) := by decide +kernel
theorem dX12_matches_38 : decode cX12_matches 38 = .ok (.aload_n 0, 1) := by decide +kernel
theorem dX12_matches_39 : decode cX12_matches 39 = .ok (.getfield 9, 3) := by decide +kernel
theorem dX12_matches_42 : decode cX12_matches 42 = .ok (.bipush 60, 2) := by decide +kernel
theorem dX12_matches_44 : decode cX12_matches 44 = .ok (.bipush 10, 2) := by decide +kernel
theorem dX12_matches_46 : decode cX12_matches 46 = .ok (.iload_n 1, 1) := by decide +kernel
theorem dX12_matches_47 : decode cX12_matches 47 = .ok (.bipush 12, 2) := by decide +kernel
theorem dX12_matches_49 : decode cX12_matches 49 = .ok (.idiv, 1) := by decide +kernel
theorem dX12_matches_50 : decode cX12_matches 50 = .ok (.imul, 1) := by decide +kernel
theorem dX12_matches_51 : decode cX12_matches 51 = .ok (.iadd, 1) := by decide +kernel
theorem dX12_matches_52 : decode cX12_matches 52 = .ok (.bipush 9, 2) := by decide +kernel
theorem dX12_matches_54 : decode cX12_matches 54 = .ok (.iadd, 1) := by decide +kernel
theorem dX12_matches_55 : decode cX12_matches 55 = .ok (.iaload, 1) := by decide +kernel
theorem dX12_matches_56 : decode cX12_matches 56 = .ok (.goto 19, 3) := by decide +kernel
theorem dX12_matches_59 : decode cX12_matches 59 = .ok (.aload_n 0, 1) := by decide +kernel
theorem dX12_matches_60 : decode cX12_matches 60 = .ok (.getfield 9, 3) := by decide +kernel
theorem dX12_matches_63 : decode cX12_matches 63 = .ok (.iconst 0, 1) := by decide +kernel
theorem dX12_matches_64 : decode cX12_matches 64 = .ok (.iconst 3, 1) := by decide +kernel
theorem dX12_matches_65 : decode cX12_matches 65 = .ok (.iload_n 1, 1) := by decide +kernel
theorem dX12_matches_66 : decode cX12_matches 66 = .ok (.bipush 12, 2) := by decide +kernel
theorem dX12_matches_68 : decode cX12_matches 68 = .ok (.irem, 1) := by decide +kernel
theorem dX12_matches_69 : decode cX12_matches 69 = .ok (.imul, 1) := by decide +kernel
theorem dX12_matches_70 : decode cX12_matches 70 = .ok (.iadd, 1) := by decide +kernel
theorem dX12_matches_71 : decode cX12_matches 71 = .ok (.iload 5, 2) := by decide +kernel
theorem dX12_matches_73 : decode cX12_matches 73 = .ok (.iadd, 1) := by decide +kernel
theorem dX12_matches_74 : decode cX12_matches 74 = .ok (.iaload, 1) := by decide +kernel
theorem dX12_matches_75 : decode cX12_matches 75 = .ok (.istore 6, 2) := by decide +kernel
theorem dX12_matches_77 : decode cX12_matches 77 = .ok (.iload 6, 2) := by decide +kernel
theorem dX12_matches_79 : decode cX12_matches 79 = .ok (.iload 4, 2) := by decide +kernel
theorem dX12_matches_81 : decode cX12_matches 81 = .ok (.bipush 16, 2) := by decide +kernel
theorem dX12_matches_83 : decode cX12_matches 83 = .ok (.irem, 1) := by decide +kernel
theorem dX12_matches_84 : decode cX12_matches 84 = .ok (.if_icmp .ne 7, 3) := by decide +kernel
theorem dX12_matches_87 : decode cX12_matches 87 = .ok (.iconst 1, 1) := by decide +kernel
theorem dX12_matches_88 : decode cX12_matches 88 = .ok (.goto 4, 3) := by decide +kernel
theorem dX12_matches_91 : decode cX12_matches 91 = .ok (.iconst 0, 1) := by decide +kernel
theorem dX12_matches_92 : decode cX12_matches 92 = .ok (.iload 4, 2) := by decide +kernel
theorem dX12_matches_94 : decode cX12_matches 94 = .ok (.bipush 64, 2) := by decide +kernel
theorem dX12_matches_96 : decode cX12_matches 96 = .ok (.if_icmp .lt 7, 3) := by decide +kernel
theorem dX12_matches_99 : decode cX12_matches 99 = .ok (.iconst 1, 1) := by decide +kernel
theorem dX12_matches_100 : decode cX12_matches 100 = .ok (.goto 4, 3) := by decide +kernel
theorem dX12_matches_103 : decode cX12_matches 103 = .ok (.iconst 0, 1) := by decide +kernel
theorem dX12_matches_104 : decode cX12_matches 104 = .ok (.if_icmp .ne 5, 3) := by decide +kernel
theorem dX12_matches_107 : decode cX12_matches 107 = .ok (.iconst 0, 1) := by decide +kernel
theorem dX12_matches_108 : decode cX12_matches 108 = .ok (.ireturn, 1) := by decide +kernel
theorem dX12_matches_109 : decode cX12_matches 109 = .ok (.iinc 3 1, 3) := by decide +kernel
theorem dX12_matches_112 : decode cX12_matches 112 = .ok (.goto (-110), 3) := by decide +kernel
theorem dX12_matches_115 : decode cX12_matches 115 = .ok (.iconst 1, 1) := by decide +kernel
theorem dX12_matches_116 : decode cX12_matches 116 = .ok (.ireturn, 1) := by decide +kernel
theorem dX12_holds_0 : decode cX12_holds 0 = .ok (.bipush 60, 2) := by decide +kernel
theorem dX12_holds_2 : decode cX12_holds 2 = .ok (.bipush 10, 2) := by decide +kernel
theorem dX12_holds_4 : decode cX12_holds 4 = .ok (.iload_n 1, 1) := by decide +kernel
theorem dX12_holds_5 : decode cX12_holds 5 = .ok (.bipush 12, 2) := by decide +kernel
theorem dX12_holds_7 : decode cX12_holds 7 = .ok (.idiv, 1) := by decide +kernel
theorem dX12_holds_8 : decode cX12_holds 8 = .ok (.imul, 1) := by decide +kernel
theorem dX12_holds_9 : decode cX12_holds 9 = .ok (.iadd, 1) := by decide +kernel
theorem dX12_holds_10 : decode cX12_holds 10 = .ok (.istore_n 2, 1) := by decide +kernel
theorem dX12_holds_11 : decode cX12_holds 11 = .ok (.iload_n 1, 1) := by decide +kernel
theorem dX12_holds_12 : decode cX12_holds 12 = .ok (.bipush 12, 2) := by decide +kernel
theorem dX12_holds_14 : decode cX12_holds 14 = .ok (.irem, 1) := by decide +kernel
theorem dX12_holds_15 : decode cX12_holds 15 = .ok (.istore_n 3, 1) := by decide +kernel
theorem dX12_holds_16 : decode cX12_holds 16 = .ok (.aload_n 0, 1) := by decide +kernel
theorem dX12_holds_17 : decode cX12_holds 17 = .ok (.getfield 9, 3) := by decide +kernel
theorem dX12_holds_20 : decode cX12_holds 20 = .ok (.iload_n 2, 1) := by decide +kernel
theorem dX12_holds_21 : decode cX12_holds 21 = .ok (.iaload, 1) := by decide +kernel
theorem dX12_holds_22 : decode cX12_holds 22 = .ok (.ifCond .eq 26, 3) := by decide +kernel
theorem dX12_holds_25 : decode cX12_holds 25 = .ok (.aload_n 0, 1) := by decide +kernel
theorem dX12_holds_26 : decode cX12_holds 26 = .ok (.getfield 9, 3) := by decide +kernel
theorem dX12_holds_29 : decode cX12_holds 29 = .ok (.bipush 48, 2) := by decide +kernel
theorem dX12_holds_31 : decode cX12_holds 31 = .ok (.iload_n 3, 1) := by decide +kernel
theorem dX12_holds_32 : decode cX12_holds 32 = .ok (.iadd, 1) := by decide +kernel
theorem dX12_holds_33 : decode cX12_holds 33 = .ok (.iaload, 1) := by decide +kernel
theorem dX12_holds_34 : decode cX12_holds 34 = .ok (.ifCond .eq 14, 3) := by decide +kernel
theorem dX12_holds_37 : decode cX12_holds 37 = .ok (.aload_n 0, 1) := by decide +kernel
theorem dX12_holds_38 : decode cX12_holds 38 = .ok (.iload_n 1, 1) := by decide +kernel
theorem dX12_holds_39 : decode cX12_holds 39 = .ok (.iload_n 2, 1) := by decide +kernel
theorem dX12_holds_40 : decode cX12_holds 40 = .ok (.iconst 1, 1) := by decide +kernel
theorem dX12_holds_41 : decode cX12_holds 41 = .ok (.iadd, 1) := by decide +kernel
theorem dX12_holds_42 : decode cX12_holds 42 = .ok (.invokevirtual 98, 3) := by decide +kernel
theorem dX12_holds_45 : decode cX12_holds 45 = .ok (.ifCond .ne 5, 3) := by decide +kernel
theorem dX12_holds_48 : decode cX12_holds 48 = .ok (.iconst 0, 1) := by decide +kernel
theorem dX12_holds_49 : decode cX12_holds 49 = .ok (.ireturn, 1) := by decide +kernel
theorem dX12_holds_50 : decode cX12_holds 50 = .ok (.aload_n 0, 1) := by decide +kernel
theorem dX12_holds_51 : decode cX12_holds 51 = .ok (.getfield 9, 3) := by decide +kernel
theorem dX12_holds_54 : decode cX12_holds 54 = .ok (.bipush 36, 2) := by decide +kernel
theorem dX12_holds_56 : decode cX12_holds 56 = .ok (.iload_n 3, 1) := by decide +kernel
theorem dX12_holds_57 : decode cX12_holds 57 = .ok (.iadd, 1) := by decide +kernel
theorem dX12_holds_58 : decode cX12_holds 58 = .ok (.iaload, 1) := by decide +kernel
theorem dX12_holds_59 : decode cX12_holds 59 = .ok (.istore 4, 2) := by decide +kernel
theorem dX12_holds_61 : decode cX12_holds 61 = .ok (.aload_n 0, 1) := by decide +kernel
theorem dX12_holds_62 : decode cX12_holds 62 = .ok (.getfield 9, 3) := by decide +kernel
theorem dX12_holds_65 : decode cX12_holds 65 = .ok (.iload_n 2, 1) := by decide +kernel
theorem dX12_holds_66 : decode cX12_holds 66 = .ok (.bipush 6, 2) := by decide +kernel
theorem dX12_holds_68 : decode cX12_holds 68 = .ok (.iadd, 1) := by decide +kernel
theorem dX12_holds_69 : decode cX12_holds 69 = .ok (.iaload, 1) := by decide +kernel
theorem dX12_holds_70 : decode cX12_holds 70 = .ok (.ifCond .ne 25, 3) := by decide +kernel
theorem dX12_holds_73 : decode cX12_holds 73 = .ok (.iload 4, 2) := by decide +kernel
theorem dX12_holds_75 : decode cX12_holds 75 = .ok (.aload_n 0, 1) := by decide +kernel
theorem dX12_holds_76 : decode cX12_holds 76 = .ok (.getfield 9, 3) := by decide +kernel
theorem dX12_holds_79 : decode cX12_holds 79 = .ok (.iload_n 2, 1) := by decide +kernel
theorem dX12_holds_80 : decode cX12_holds 80 = .ok (.bipush 7, 2) := by decide +kernel
theorem dX12_holds_82 : decode cX12_holds 82 = .ok (.iadd, 1) := by decide +kernel
theorem dX12_holds_83 : decode cX12_holds 83 = .ok (.iaload, 1) := by decide +kernel
theorem dX12_holds_84 : decode cX12_holds 84 = .ok (.if_icmp .ge 7, 3) := by decide +kernel
theorem dX12_holds_87 : decode cX12_holds 87 = .ok (.iconst 1, 1) := by decide +kernel
theorem dX12_holds_88 : decode cX12_holds 88 = .ok (.goto 61, 3) := by decide +kernel
theorem dX12_holds_91 : decode cX12_holds 91 = .ok (.iconst 0, 1) := by decide +kernel
theorem dX12_holds_92 : decode cX12_holds 92 = .ok (.goto 57, 3) := by decide +kernel
theorem dX12_holds_95 : decode cX12_holds 95 = .ok (.aload_n 0, 1) := by decide +kernel
theorem dX12_holds_96 : decode cX12_holds 96 = .ok (.getfield 9, 3) := by decide +kernel
theorem dX12_holds_99 : decode cX12_holds 99 = .ok (.iload_n 2, 1) := by decide +kernel
theorem dX12_holds_100 : decode cX12_holds 100 = .ok (.bipush 6, 2) := by decide +kernel
theorem dX12_holds_102 : decode cX12_holds 102 = .ok (.iadd, 1) := by decide +kernel
theorem dX12_holds_103 : decode cX12_holds 103 = .ok (.iaload, 1) := by decide +kernel
theorem dX12_holds_104 : decode cX12_holds 104 = .ok (.iconst 1, 1) := by decide +kernel
theorem dX12_holds_105 : decode cX12_holds 105 = .ok (.if_icmp .ne 25, 3) := by decide +kernel
theorem dX12_holds_108 : decode cX12_holds 108 = .ok (.iload 4, 2) := by decide +kernel
theorem dX12_holds_110 : decode cX12_holds 110 = .ok (.aload_n 0, 1) := by decide +kernel
theorem dX12_holds_111 : decode cX12_holds 111 = .ok (.getfield 9, 3) := by decide +kernel
theorem dX12_holds_114 : decode cX12_holds 114 = .ok (.iload_n 2, 1) := by decide +kernel
theorem dX12_holds_115 : decode cX12_holds 115 = .ok (.bipush 7, 2) := by decide +kernel
theorem dX12_holds_117 : decode cX12_holds 117 = .ok (.iadd, 1) := by decide +kernel
theorem dX12_holds_118 : decode cX12_holds 118 = .ok (.iaload, 1) := by decide +kernel
theorem dX12_holds_119 : decode cX12_holds 119 = .ok (.if_icmp .le 7, 3) := by decide +kernel
theorem dX12_holds_122 : decode cX12_holds 122 = .ok (.iconst 1, 1) := by decide +kernel
theorem dX12_holds_123 : decode cX12_holds 123 = .ok (.goto 26, 3) := by decide +kernel
theorem dX12_holds_126 : decode cX12_holds 126 = .ok (.iconst 0, 1) := by decide +kernel
theorem dX12_holds_127 : decode cX12_holds 127 = .ok (.goto 22, 3) := by decide +kernel
theorem dX12_holds_130 : decode cX12_holds 130 = .ok (.iload 4, 2) := by decide +kernel
theorem dX12_holds_132 : decode cX12_holds 132 = .ok (.aload_n 0, 1) := by decide +kernel
theorem dX12_holds_133 : decode cX12_holds 133 = .ok (.getfield 9, 3) := by decide +kernel
theorem dX12_holds_136 : decode cX12_holds 136 = .ok (.iload_n 2, 1) := by decide +kernel
theorem dX12_holds_137 : decode cX12_holds 137 = .ok (.bipush 7, 2) := by decide +kernel
theorem dX12_holds_139 : decode cX12_holds 139 = .ok (.iadd, 1) := by decide +kernel
theorem dX12_holds_140 : decode cX12_holds 140 = .ok (.iaload, 1) := by decide +kernel
theorem dX12_holds_141 : decode cX12_holds 141 = .ok (.if_icmp .ne 7, 3) := by decide +kernel
theorem dX12_holds_144 : decode cX12_holds 144 = .ok (.iconst 1, 1) := by decide +kernel
theorem dX12_holds_145 : decode cX12_holds 145 = .ok (.goto 4, 3) := by decide +kernel
theorem dX12_holds_148 : decode cX12_holds 148 = .ok (.iconst 0, 1) := by decide +kernel
theorem dX12_holds_149 : decode cX12_holds 149 = .ok (.ireturn, 1) := by decide +kernel
theorem dX12_state_0 : decode cX12_state 0 = .ok (.aload_n 0, 1) := by decide +kernel
theorem dX12_state_1 : decode cX12_state 1 = .ok (.getfield 9, 3) := by decide +kernel
theorem dX12_state_4 : decode cX12_state 4 = .ok (.sipush 206, 3) := by decide +kernel
theorem dX12_state_7 : decode cX12_state 7 = .ok (.bipush 23, 2) := by decide +kernel
theorem dX12_state_9 : decode cX12_state 9 = .ok (.iload_n 1, 1) := by decide +kernel
theorem dX12_state_10 : decode cX12_state 10 = .ok (.imul, 1) := by decide +kernel
theorem dX12_state_11 : decode cX12_state 11 = .ok (.iadd, 1) := by decide +kernel
theorem dX12_state_12 : decode cX12_state 12 = .ok (.iaload, 1) := by decide +kernel
theorem dX12_state_13 : decode cX12_state 13 = .ok (.ireturn, 1) := by decide +kernel
theorem dX12_isSilencedBy_0 : decode cX12_isSilencedBy 0 = .ok (.bipush 110, 2) := by decide +kernel
theorem dX12_isSilencedBy_2 : decode cX12_isSilencedBy 2 = .ok (.bipush 8, 2) := by decide +kernel
theorem dX12_isSilencedBy_4 : decode cX12_isSilencedBy 4 = .ok (.iload_n 2, 1) := by decide +kernel
theorem dX12_isSilencedBy_5 : decode cX12_isSilencedBy 5 = .ok (.imul, 1) := by decide +kernel
theorem dX12_isSilencedBy_6 : decode cX12_isSilencedBy 6 = .ok (.iadd, 1) := by decide +kernel
theorem dX12_isSilencedBy_7 : decode cX12_isSilencedBy 7 = .ok (.istore_n 3, 1) := by decide +kernel
theorem dX12_isSilencedBy_8 : decode cX12_isSilencedBy 8 = .ok (.aload_n 0, 1) := by decide +kernel
theorem dX12_isSilencedBy_9 : decode cX12_isSilencedBy 9 = .ok (.getfield 9, 3) := by decide +kernel
theorem dX12_isSilencedBy_12 : decode cX12_isSilencedBy 12 = .ok (.iload_n 3, 1) := by decide +kernel
theorem dX12_isSilencedBy_13 : decode cX12_isSilencedBy 13 = .ok (.iaload, 1) := by decide +kernel
theorem dX12_isSilencedBy_14 : decode cX12_isSilencedBy 14 = .ok (.iconst 1, 1) := by decide +kernel
theorem dX12_isSilencedBy_15 : decode cX12_isSilencedBy 15 = .ok (.if_icmp .ne 68, 3) := by decide +kernel
theorem dX12_isSilencedBy_18 : decode cX12_isSilencedBy 18 = .ok (.aload_n 0, 1) := by decide +kernel
theorem dX12_isSilencedBy_19 : decode cX12_isSilencedBy 19 = .ok (.getfield 9, 3) := by decide +kernel
theorem dX12_isSilencedBy_22 : decode cX12_isSilencedBy 22 = .ok (.iload_n 3, 1) := by decide +kernel
theorem dX12_isSilencedBy_23 : decode cX12_isSilencedBy 23 = .ok (.bipush 6, 2) := by decide +kernel
theorem dX12_isSilencedBy_25 : decode cX12_isSilencedBy 25 = .ok (.iadd, 1) := by decide +kernel
theorem dX12_isSilencedBy_26 : decode cX12_isSilencedBy 26 = .ok (.iaload, 1) := by decide +kernel
theorem dX12_isSilencedBy_27 : decode cX12_isSilencedBy 27 = .ok (.aload_n 0, 1) := by decide +kernel
theorem dX12_isSilencedBy_28 : decode cX12_isSilencedBy 28 = .ok (.getfield 9, 3) := by decide +kernel
theorem dX12_isSilencedBy_31 : decode cX12_isSilencedBy 31 = .ok (.sipush 1847, 3) := by decide +kernel
theorem dX12_isSilencedBy_34 : decode cX12_isSilencedBy 34 = .ok (.iaload, 1) := by decide +kernel
theorem dX12_isSilencedBy_35 : decode cX12_isSilencedBy 35 = .ok (.if_icmp .gt 48, 3) := by decide +kernel
theorem dX12_isSilencedBy_38 : decode cX12_isSilencedBy 38 = .ok (.aload_n 0, 1) := by decide +kernel
theorem dX12_isSilencedBy_39 : decode cX12_isSilencedBy 39 = .ok (.getfield 9, 3) := by decide +kernel
theorem dX12_isSilencedBy_42 : decode cX12_isSilencedBy 42 = .ok (.sipush 1847, 3) := by decide +kernel
theorem dX12_isSilencedBy_45 : decode cX12_isSilencedBy 45 = .ok (.iaload, 1) := by decide +kernel
theorem dX12_isSilencedBy_46 : decode cX12_isSilencedBy 46 = .ok (.aload_n 0, 1) := by decide +kernel
theorem dX12_isSilencedBy_47 : decode cX12_isSilencedBy 47 = .ok (.getfield 9, 3) := by decide +kernel
theorem dX12_isSilencedBy_50 : decode cX12_isSilencedBy 50 = .ok (.iload_n 3, 1) := by decide +kernel
theorem dX12_isSilencedBy_51 : decode cX12_isSilencedBy 51 = .ok (.bipush 6, 2) := by decide +kernel
theorem dX12_isSilencedBy_53 : decode cX12_isSilencedBy 53 = .ok (.iadd, 1) := by decide +kernel
theorem dX12_isSilencedBy_54 : decode cX12_isSilencedBy 54 = .ok (.iaload, 1) := by decide +kernel
theorem dX12_isSilencedBy_55 : decode cX12_isSilencedBy 55 = .ok (.aload_n 0, 1) := by decide +kernel
theorem dX12_isSilencedBy_56 : decode cX12_isSilencedBy 56 = .ok (.getfield 9, 3) := by decide +kernel
theorem dX12_isSilencedBy_59 : decode cX12_isSilencedBy 59 = .ok (.iload_n 3, 1) := by decide +kernel
theorem dX12_isSilencedBy_60 : decode cX12_isSilencedBy 60 = .ok (.bipush 7, 2) := by decide +kernel
theorem dX12_isSilencedBy_62 : decode cX12_isSilencedBy 62 = .ok (.iadd, 1) := by decide +kernel
theorem dX12_isSilencedBy_63 : decode cX12_isSilencedBy 63 = .ok (.iaload, 1) := by decide +kernel
theorem dX12_isSilencedBy_64 : decode cX12_isSilencedBy 64 = .ok (.iadd, 1) := by decide +kernel
theorem dX12_isSilencedBy_65 : decode cX12_isSilencedBy 65 = .ok (.if_icmp .ge 18, 3) := by decide +kernel
theorem dX12_isSilencedBy_68 : decode cX12_isSilencedBy 68 = .ok (.aload_n 0, 1) := by decide +kernel
theorem dX12_isSilencedBy_69 : decode cX12_isSilencedBy 69 = .ok (.iload_n 1, 1) := by decide +kernel
theorem dX12_isSilencedBy_70 : decode cX12_isSilencedBy 70 = .ok (.iload_n 3, 1) := by decide +kernel
theorem dX12_isSilencedBy_71 : decode cX12_isSilencedBy 71 = .ok (.iconst 1, 1) := by decide +kernel
theorem dX12_isSilencedBy_72 : decode cX12_isSilencedBy 72 = .ok (.iadd, 1) := by decide +kernel
theorem dX12_isSilencedBy_73 : decode cX12_isSilencedBy 73 = .ok (.invokevirtual 98, 3) := by decide +kernel
theorem dX12_isSilencedBy_76 : decode cX12_isSilencedBy 76 = .ok (.ifCond .eq 7, 3) := by decide +kernel
theorem dX12_isSilencedBy_79 : decode cX12_isSilencedBy 79 = .ok (.iconst 1, 1) := by decide +kernel
theorem dX12_isSilencedBy_80 : decode cX12_isSilencedBy 80 = .ok (.goto 4, 3) := by decide +kernel
theorem dX12_isSilencedBy_83 : decode cX12_isSilencedBy 83 = .ok (.iconst 0, 1) := by decide +kernel
theorem dX12_isSilencedBy_84 : decode cX12_isSilencedBy 84 = .ok (.ireturn, 1) := by decide +kernel
theorem dX12_silenceOf_0 : decode cX12_silenceOf 0 = .ok (.iconst 0, 1) := by decide +kernel
theorem dX12_silenceOf_1 : decode cX12_silenceOf 1 = .ok (.istore_n 2, 1) := by decide +kernel
theorem dX12_silenceOf_2 : decode cX12_silenceOf 2 = .ok (.iload_n 2, 1) := by decide +kernel
theorem dX12_silenceOf_3 : decode cX12_silenceOf 3 = .ok (.bipush 6, 2) := by decide +kernel
theorem dX12_silenceOf_5 : decode cX12_silenceOf 5 = .ok (.if_icmp .ge 20, 3) := by decide +kernel
theorem dX12_silenceOf_8 : decode cX12_silenceOf 8 = .ok (.aload_n 0, 1) := by decide +kernel
theorem dX12_silenceOf_9 : decode cX12_silenceOf 9 = .ok (.iload_n 1, 1) := by decide +kernel
theorem dX12_silenceOf_10 : decode cX12_silenceOf 10 = .ok (.iload_n 2, 1) := by decide +kernel
theorem dX12_silenceOf_11 : decode cX12_silenceOf 11 = .ok (.invokevirtual 101, 3) := by decide +kernel
theorem dX12_silenceOf_14 : decode cX12_silenceOf 14 = .ok (.ifCond .eq 5, 3) := by decide +kernel
theorem dX12_silenceOf_17 : decode cX12_silenceOf 17 = .ok (.iload_n 2, 1) := by decide +kernel
theorem dX12_silenceOf_18 : decode cX12_silenceOf 18 = .ok (.ireturn, 1) := by decide +kernel
theorem dX12_silenceOf_19 : decode cX12_silenceOf 19 = .ok (.iinc 2 1, 3) := by decide +kernel
theorem dX12_silenceOf_22 : decode cX12_silenceOf 22 = .ok (.goto (-20), 3) := by decide +kernel
theorem dX12_silenceOf_25 : decode cX12_silenceOf 25 = .ok (.bipush (-5), 2) := by decide +kernel
theorem dX12_silenceOf_27 : decode cX12_silenceOf 27 = .ok (.ireturn, 1) := by decide +kernel
theorem dX12_isInhibitedBy_0 : decode cX12_isInhibitedBy 0 = .ok (.iconst 0, 1) := by decide +kernel
theorem dX12_isInhibitedBy_1 : decode cX12_isInhibitedBy 1 = .ok (.istore_n 3, 1) := by decide +kernel
theorem dX12_isInhibitedBy_2 : decode cX12_isInhibitedBy 2 = .ok (.iload_n 3, 1) := by decide +kernel
theorem dX12_isInhibitedBy_3 : decode cX12_isInhibitedBy 3 = .ok (.iconst 4, 1) := by decide +kernel
theorem dX12_isInhibitedBy_4 : decode cX12_isInhibitedBy 4 = .ok (.if_icmp .ge 145, 3) := by decide +kernel
theorem dX12_isInhibitedBy_7 : decode cX12_isInhibitedBy 7 = .ok (.sipush 158, 3) := by decide +kernel
theorem dX12_isInhibitedBy_10 : decode cX12_isInhibitedBy 10 = .ok (.bipush 12, 2) := by decide +kernel
theorem dX12_isInhibitedBy_12 : decode cX12_isInhibitedBy 12 = .ok (.iload_n 3, 1) := by decide +kernel
theorem dX12_isInhibitedBy_13 : decode cX12_isInhibitedBy 13 = .ok (.imul, 1) := by decide +kernel
theorem dX12_isInhibitedBy_14 : decode cX12_isInhibitedBy 14 = .ok (.iadd, 1) := by decide +kernel
theorem dX12_isInhibitedBy_15 : decode cX12_isInhibitedBy 15 = .ok (.istore 4, 2) := by decide +kernel
theorem dX12_isInhibitedBy_17 : decode cX12_isInhibitedBy 17 = .ok (.aload_n 0, 1) := by decide +kernel
theorem dX12_isInhibitedBy_18 : decode cX12_isInhibitedBy 18 = .ok (.getfield 9, 3) := by decide +kernel
theorem dX12_isInhibitedBy_21 : decode cX12_isInhibitedBy 21 = .ok (.iload 4, 2) := by decide +kernel
theorem dX12_isInhibitedBy_23 : decode cX12_isInhibitedBy 23 = .ok (.iaload, 1) := by decide +kernel
theorem dX12_isInhibitedBy_24 : decode cX12_isInhibitedBy 24 = .ok (.ifCond .eq 119, 3) := by decide +kernel
theorem dX12_isInhibitedBy_27 : decode cX12_isInhibitedBy 27 = .ok (.aload_n 0, 1) := by decide +kernel
theorem dX12_isInhibitedBy_28 : decode cX12_isInhibitedBy 28 = .ok (.iload_n 2, 1) := by decide +kernel
theorem dX12_isInhibitedBy_29 : decode cX12_isInhibitedBy 29 = .ok (.iload 4, 2) := by decide +kernel
theorem dX12_isInhibitedBy_31 : decode cX12_isInhibitedBy 31 = .ok (.iconst 1, 1) := by decide +kernel
theorem dX12_isInhibitedBy_32 : decode cX12_isInhibitedBy 32 = .ok (.iadd, 1) := by decide +kernel
theorem dX12_isInhibitedBy_33 : decode cX12_isInhibitedBy 33 = .ok (.invokevirtual 98, 3) := by decide +kernel
theorem dX12_isInhibitedBy_36 : decode cX12_isInhibitedBy 36 = .ok (.ifCond .eq 107, 3) := by decide +kernel
theorem dX12_isInhibitedBy_39 : decode cX12_isInhibitedBy 39 = .ok (.aload_n 0, 1) := by decide +kernel
theorem dX12_isInhibitedBy_40 : decode cX12_isInhibitedBy 40 = .ok (.iload_n 1, 1) := by decide +kernel
theorem dX12_isInhibitedBy_41 : decode cX12_isInhibitedBy 41 = .ok (.iload 4, 2) := by decide +kernel
theorem dX12_isInhibitedBy_43 : decode cX12_isInhibitedBy 43 = .ok (.bipush 6, 2) := by decide +kernel
theorem dX12_isInhibitedBy_45 : decode cX12_isInhibitedBy 45 = .ok (.iadd, 1) := by decide +kernel
theorem dX12_isInhibitedBy_46 : decode cX12_isInhibitedBy 46 = .ok (.invokevirtual 98, 3) := by decide +kernel
theorem dX12_isInhibitedBy_49 : decode cX12_isInhibitedBy 49 = .ok (.ifCond .ne 6, 3) := by decide +kernel
theorem dX12_isInhibitedBy_52 : decode cX12_isInhibitedBy 52 = .ok (.goto 91, 3) := by decide +kernel
theorem dX12_isInhibitedBy_55 : decode cX12_isInhibitedBy 55 = .ok (.iconst 1, 1) := by decide +kernel
theorem dX12_isInhibitedBy_56 : decode cX12_isInhibitedBy 56 = .ok (.istore 5, 2) := by decide +kernel
theorem dX12_isInhibitedBy_58 : decode cX12_isInhibitedBy 58 = .ok (.iconst 0, 1) := by decide +kernel
theorem dX12_isInhibitedBy_59 : decode cX12_isInhibitedBy 59 = .ok (.istore 6, 2) := by decide +kernel
theorem dX12_isInhibitedBy_61 : decode cX12_isInhibitedBy 61 = .ok (.iload 6, 2) := by decide +kernel
theorem dX12_isInhibitedBy_63 : decode cX12_isInhibitedBy 63 = .ok (.iconst 3, 1) := by decide +kernel
theorem dX12_isInhibitedBy_64 : decode cX12_isInhibitedBy 64 = .ok (.if_icmp .ge 72, 3) := by decide +kernel
theorem dX12_isInhibitedBy_67 : decode cX12_isInhibitedBy 67 = .ok (.iload 5, 2) := by decide +kernel
theorem dX12_isInhibitedBy_69 : decode cX12_isInhibitedBy 69 = .ok (.aload_n 0, 1) := by decide +kernel
theorem dX12_isInhibitedBy_70 : decode cX12_isInhibitedBy 70 = .ok (.getfield 9, 3) := by decide +kernel
theorem dX12_isInhibitedBy_73 : decode cX12_isInhibitedBy 73 = .ok (.iload 4, 2) := by decide +kernel
theorem dX12_isInhibitedBy_75 : decode cX12_isInhibitedBy 75 = .ok (.bipush 11, 2) := by decide +kernel
theorem dX12_isInhibitedBy_77 : decode cX12_isInhibitedBy 77 = .ok (.iadd, 1) := by decide +kernel
theorem dX12_isInhibitedBy_78 : decode cX12_isInhibitedBy 78 = .ok (.iaload, 1) := by decide +kernel
theorem dX12_isInhibitedBy_79 : decode cX12_isInhibitedBy 79 = .ok (.iload 6, 2) := by decide +kernel
theorem dX12_isInhibitedBy_81 : decode cX12_isInhibitedBy 81 = .ok (.ishr, 1) := by decide +kernel
theorem dX12_isInhibitedBy_82 : decode cX12_isInhibitedBy 82 = .ok (.iconst 1, 1) := by decide +kernel
theorem dX12_isInhibitedBy_83 : decode cX12_isInhibitedBy 83 = .ok (.iand, 1) := by decide +kernel
theorem dX12_isInhibitedBy_84 : decode cX12_isInhibitedBy 84 = .ok (.ifCond .eq 38, 3) := by decide +kernel
theorem dX12_isInhibitedBy_87 : decode cX12_isInhibitedBy 87 = .ok (.aload_n 0, 1) := by decide +kernel
theorem dX12_isInhibitedBy_88 : decode cX12_isInhibitedBy 88 = .ok (.getfield 9, 3) := by decide +kernel
theorem dX12_isInhibitedBy_91 : decode cX12_isInhibitedBy 91 = .ok (.iconst 0, 1) := by decide +kernel
theorem dX12_isInhibitedBy_92 : decode cX12_isInhibitedBy 92 = .ok (.iconst 3, 1) := by decide +kernel
theorem dX12_isInhibitedBy_93 : decode cX12_isInhibitedBy 93 = .ok (.iload_n 1, 1) := by decide +kernel
theorem dX12_isInhibitedBy_94 : decode cX12_isInhibitedBy 94 = .ok (.bipush 12, 2) := by decide +kernel
theorem dX12_isInhibitedBy_96 : decode cX12_isInhibitedBy 96 = .ok (.irem, 1) := by decide +kernel
theorem dX12_isInhibitedBy_97 : decode cX12_isInhibitedBy 97 = .ok (.imul, 1) := by decide +kernel
theorem dX12_isInhibitedBy_98 : decode cX12_isInhibitedBy 98 = .ok (.iadd, 1) := by decide +kernel
theorem dX12_isInhibitedBy_99 : decode cX12_isInhibitedBy 99 = .ok (.iload 6, 2) := by decide +kernel
theorem dX12_isInhibitedBy_101 : decode cX12_isInhibitedBy 101 = .ok (.iadd, 1) := by decide +kernel
theorem dX12_isInhibitedBy_102 : decode cX12_isInhibitedBy 102 = .ok (.iaload, 1) := by decide +kernel
theorem dX12_isInhibitedBy_103 : decode cX12_isInhibitedBy 103 = .ok (.aload_n 0, 1) := by decide +kernel
theorem dX12_isInhibitedBy_104 : decode cX12_isInhibitedBy 104 = .ok (.getfield 9, 3) := by decide +kernel
theorem dX12_isInhibitedBy_107 : decode cX12_isInhibitedBy 107 = .ok (.iconst 0, 1) := by decide +kernel
theorem dX12_isInhibitedBy_108 : decode cX12_isInhibitedBy 108 = .ok (.iconst 3, 1) := by decide +kernel
theorem dX12_isInhibitedBy_109 : decode cX12_isInhibitedBy 109 = .ok (.iload_n 2, 1) := by decide +kernel
theorem dX12_isInhibitedBy_110 : decode cX12_isInhibitedBy 110 = .ok (.bipush 12, 2) := by decide +kernel
theorem dX12_isInhibitedBy_112 : decode cX12_isInhibitedBy 112 = .ok (.irem, 1) := by decide +kernel
theorem dX12_isInhibitedBy_113 : decode cX12_isInhibitedBy 113 = .ok (.imul, 1) := by decide +kernel
theorem dX12_isInhibitedBy_114 : decode cX12_isInhibitedBy 114 = .ok (.iadd, 1) := by decide +kernel
theorem dX12_isInhibitedBy_115 : decode cX12_isInhibitedBy 115 = .ok (.iload 6, 2) := by decide +kernel
theorem dX12_isInhibitedBy_117 : decode cX12_isInhibitedBy 117 = .ok (.iadd, 1) := by decide +kernel
theorem dX12_isInhibitedBy_118 : decode cX12_isInhibitedBy 118 = .ok (.iaload, 1) := by decide +kernel
theorem dX12_isInhibitedBy_119 : decode cX12_isInhibitedBy 119 = .ok (.if_icmp .ne 7, 3) := by decide +kernel
theorem dX12_isInhibitedBy_122 : decode cX12_isInhibitedBy 122 = .ok (.iconst 1, 1) := by decide +kernel
theorem dX12_isInhibitedBy_123 : decode cX12_isInhibitedBy 123 = .ok (.goto 4, 3) := by decide +kernel
theorem dX12_isInhibitedBy_126 : decode cX12_isInhibitedBy 126 = .ok (.iconst 0, 1) := by decide +kernel
theorem dX12_isInhibitedBy_127 : decode cX12_isInhibitedBy 127 = .ok (.iand, 1) := by decide +kernel
theorem dX12_isInhibitedBy_128 : decode cX12_isInhibitedBy 128 = .ok (.istore 5, 2) := by decide +kernel
theorem dX12_isInhibitedBy_130 : decode cX12_isInhibitedBy 130 = .ok (.iinc 6 1, 3) := by decide +kernel
theorem dX12_isInhibitedBy_133 : decode cX12_isInhibitedBy 133 = .ok (.goto (-72), 3) := by decide +kernel
theorem dX12_isInhibitedBy_136 : decode cX12_isInhibitedBy 136 = .ok (.iload 5, 2) := by decide +kernel
theorem dX12_isInhibitedBy_138 : decode cX12_isInhibitedBy 138 = .ok (.ifCond .eq 5, 3) := by decide +kernel
theorem dX12_isInhibitedBy_141 : decode cX12_isInhibitedBy 141 = .ok (.iconst 1, 1) := by decide +kernel
theorem dX12_isInhibitedBy_142 : decode cX12_isInhibitedBy 142 = .ok (.ireturn, 1) := by decide +kernel
theorem dX12_isInhibitedBy_143 : decode cX12_isInhibitedBy 143 = .ok (.iinc 3 1, 3) := by decide +kernel
theorem dX12_isInhibitedBy_146 : decode cX12_isInhibitedBy 146 = .ok (.goto (-144), 3) := by decide +kernel
theorem dX12_isInhibitedBy_149 : decode cX12_isInhibitedBy 149 = .ok (.iconst 0, 1) := by decide +kernel
theorem dX12_isInhibitedBy_150 : decode cX12_isInhibitedBy 150 = .ok (.ireturn, 1) := by decide +kernel
theorem dX12_inhibitorOf_0 : decode cX12_inhibitorOf 0 = .ok (.aload_n 0, 1) := by decide +kernel
theorem dX12_inhibitorOf_1 : decode cX12_inhibitorOf 1 = .ok (.iload_n 1, 1) := by decide +kernel
theorem dX12_inhibitorOf_2 : decode cX12_inhibitorOf 2 = .ok (.invokevirtual 104, 3) := by decide +kernel
theorem dX12_inhibitorOf_5 : decode cX12_inhibitorOf 5 = .ok (.iconst 2, 1) := by decide +kernel
theorem dX12_inhibitorOf_6 : decode cX12_inhibitorOf 6 = .ok (.if_icmp .eq 6, 3) := by decide +kernel
theorem dX12_inhibitorOf_9 : decode cX12_inhibitorOf 9 = .ok (.bipush (-5), 2) := by decide +kernel
theorem dX12_inhibitorOf_11 : decode cX12_inhibitorOf 11 = .ok (.ireturn, 1) := by decide +kernel
theorem dX12_inhibitorOf_12 : decode cX12_inhibitorOf 12 = .ok (.iconst 0, 1) := by decide +kernel
theorem dX12_inhibitorOf_13 : decode cX12_inhibitorOf 13 = .ok (.istore_n 2, 1) := by decide +kernel
theorem dX12_inhibitorOf_14 : decode cX12_inhibitorOf 14 = .ok (.iload_n 2, 1) := by decide +kernel
theorem dX12_inhibitorOf_15 : decode cX12_inhibitorOf 15 = .ok (.bipush 60, 2) := by decide +kernel
theorem dX12_inhibitorOf_17 : decode cX12_inhibitorOf 17 = .ok (.if_icmp .ge 34, 3) := by decide +kernel
theorem dX12_inhibitorOf_20 : decode cX12_inhibitorOf 20 = .ok (.iload_n 2, 1) := by decide +kernel
theorem dX12_inhibitorOf_21 : decode cX12_inhibitorOf 21 = .ok (.iload_n 1, 1) := by decide +kernel
theorem dX12_inhibitorOf_22 : decode cX12_inhibitorOf 22 = .ok (.if_icmp .eq 23, 3) := by decide +kernel
theorem dX12_inhibitorOf_25 : decode cX12_inhibitorOf 25 = .ok (.aload_n 0, 1) := by decide +kernel
theorem dX12_inhibitorOf_26 : decode cX12_inhibitorOf 26 = .ok (.iload_n 2, 1) := by decide +kernel
theorem dX12_inhibitorOf_27 : decode cX12_inhibitorOf 27 = .ok (.invokevirtual 104, 3) := by decide +kernel
theorem dX12_inhibitorOf_30 : decode cX12_inhibitorOf 30 = .ok (.iconst 2, 1) := by decide +kernel
theorem dX12_inhibitorOf_31 : decode cX12_inhibitorOf 31 = .ok (.if_icmp .ne 14, 3) := by decide +kernel
theorem dX12_inhibitorOf_34 : decode cX12_inhibitorOf 34 = .ok (.aload_n 0, 1) := by decide +kernel
theorem dX12_inhibitorOf_35 : decode cX12_inhibitorOf 35 = .ok (.iload_n 1, 1) := by decide +kernel
theorem dX12_inhibitorOf_36 : decode cX12_inhibitorOf 36 = .ok (.iload_n 2, 1) := by decide +kernel
theorem dX12_inhibitorOf_37 : decode cX12_inhibitorOf 37 = .ok (.invokevirtual 107, 3) := by decide +kernel
theorem dX12_inhibitorOf_40 : decode cX12_inhibitorOf 40 = .ok (.ifCond .eq 5, 3) := by decide +kernel
theorem dX12_inhibitorOf_43 : decode cX12_inhibitorOf 43 = .ok (.iload_n 2, 1) := by decide +kernel
theorem dX12_inhibitorOf_44 : decode cX12_inhibitorOf 44 = .ok (.ireturn, 1) := by decide +kernel
theorem dX12_inhibitorOf_45 : decode cX12_inhibitorOf 45 = .ok (.iinc 2 1, 3) := by decide +kernel
theorem dX12_inhibitorOf_48 : decode cX12_inhibitorOf 48 = .ok (.goto (-34), 3) := by decide +kernel
theorem dX12_inhibitorOf_51 : decode cX12_inhibitorOf 51 = .ok (.bipush (-5), 2) := by decide +kernel
theorem dX12_inhibitorOf_53 : decode cX12_inhibitorOf 53 = .ok (.ireturn, 1) := by decide +kernel
theorem dX12_flaps_0 : decode cX12_flaps 0 = .ok (.sipush 206, 3) := by decide +kernel
theorem dX12_flaps_3 : decode cX12_flaps 3 = .ok (.bipush 23, 2) := by decide +kernel
theorem dX12_flaps_5 : decode cX12_flaps 5 = .ok (.iload_n 1, 1) := by decide +kernel
theorem dX12_flaps_6 : decode cX12_flaps 6 = .ok (.imul, 1) := by decide +kernel
theorem dX12_flaps_7 : decode cX12_flaps 7 = .ok (.iadd, 1) := by decide +kernel
theorem dX12_flaps_8 : decode cX12_flaps 8 = .ok (.istore_n 2, 1) := by decide +kernel
theorem dX12_flaps_9 : decode cX12_flaps 9 = .ok (.iconst 0, 1) := by decide +kernel
theorem dX12_flaps_10 : decode cX12_flaps 10 = .ok (.istore_n 3, 1) := by decide +kernel
theorem dX12_flaps_11 : decode cX12_flaps 11 = .ok (.iconst 0, 1) := by decide +kernel
theorem dX12_flaps_12 : decode cX12_flaps 12 = .ok (.istore 4, 2) := by decide +kernel
theorem dX12_flaps_14 : decode cX12_flaps 14 = .ok (.iload 4, 2) := by decide +kernel
theorem dX12_flaps_16 : decode cX12_flaps 16 = .ok (.aload_n 0, 1) := by decide +kernel
theorem dX12_flaps_17 : decode cX12_flaps 17 = .ok (.getfield 9, 3) := by decide +kernel
theorem dX12_flaps_20 : decode cX12_flaps 20 = .ok (.iload_n 2, 1) := by decide +kernel
theorem dX12_flaps_21 : decode cX12_flaps 21 = .ok (.iconst 2, 1) := by decide +kernel
theorem dX12_flaps_22 : decode cX12_flaps 22 = .ok (.iadd, 1) := by decide +kernel
theorem dX12_flaps_23 : decode cX12_flaps 23 = .ok (.iaload, 1) := by decide +kernel
theorem dX12_flaps_24 : decode cX12_flaps 24 = .ok (.if_icmp .ge 48, 3) := by decide +kernel
theorem dX12_flaps_27 : decode cX12_flaps 27 = .ok (.iload_n 3, 1) := by decide +kernel
theorem dX12_flaps_28 : decode cX12_flaps 28 = .ok (.aload_n 0, 1) := by decide +kernel
theorem dX12_flaps_29 : decode cX12_flaps 29 = .ok (.getfield 9, 3) := by decide +kernel
theorem dX12_flaps_32 : decode cX12_flaps 32 = .ok (.iload_n 2, 1) := by decide +kernel
theorem dX12_flaps_33 : decode cX12_flaps 33 = .ok (.iconst 3, 1) := by decide +kernel
theorem dX12_flaps_34 : decode cX12_flaps 34 = .ok (.iadd, 1) := by decide +kernel
theorem dX12_flaps_35 : decode cX12_flaps 35 = .ok (.iload 4, 2) := by decide +kernel
theorem dX12_flaps_37 : decode cX12_flaps 37 = .ok (.iadd, 1) := by decide +kernel
theorem dX12_flaps_38 : decode cX12_flaps 38 = .ok (.iaload, 1) := by decide +kernel
theorem dX12_flaps_39 : decode cX12_flaps 39 = .ok (.aload_n 0, 1) := by decide +kernel
theorem dX12_flaps_40 : decode cX12_flaps 40 = .ok (.getfield 9, 3) := by decide +kernel
theorem dX12_flaps_43 : decode cX12_flaps 43 = .ok (.sipush 1847, 3) := by decide +kernel
theorem dX12_flaps_46 : decode cX12_flaps 46 = .ok (.iaload, 1) := by decide +kernel
theorem dX12_flaps_47 : decode cX12_flaps 47 = .ok (.aload_n 0, 1) := by decide +kernel
theorem dX12_flaps_48 : decode cX12_flaps 48 = .ok (.getfield 9, 3) := by decide +kernel
theorem dX12_flaps_51 : decode cX12_flaps 51 = .ok (.sipush 1844, 3) := by decide +kernel
theorem dX12_flaps_54 : decode cX12_flaps 54 = .ok (.iaload, 1) := by decide +kernel
theorem dX12_flaps_55 : decode cX12_flaps 55 = .ok (.isub, 1) := by decide +kernel
theorem dX12_flaps_56 : decode cX12_flaps 56 = .ok (.if_icmp .le 7, 3) := by decide +kernel
theorem dX12_flaps_59 : decode cX12_flaps 59 = .ok (.iconst 1, 1) := by decide +kernel
theorem dX12_flaps_60 : decode cX12_flaps 60 = .ok (.goto 4, 3) := by decide +kernel
theorem dX12_flaps_63 : decode cX12_flaps 63 = .ok (.iconst 0, 1) := by decide +kernel
theorem dX12_flaps_64 : decode cX12_flaps 64 = .ok (.iadd, 1) := by decide +kernel
theorem dX12_flaps_65 : decode cX12_flaps 65 = .ok (.istore_n 3, 1) := by decide +kernel
theorem dX12_flaps_66 : decode cX12_flaps 66 = .ok (.iinc 4 1, 3) := by decide +kernel
theorem dX12_flaps_69 : decode cX12_flaps 69 = .ok (.goto (-55), 3) := by decide +kernel
theorem dX12_flaps_72 : decode cX12_flaps 72 = .ok (.iload_n 3, 1) := by decide +kernel
theorem dX12_flaps_73 : decode cX12_flaps 73 = .ok (.ireturn, 1) := by decide +kernel
theorem dX12_isFlapping_0 : decode cX12_isFlapping 0 = .ok (.aload_n 0, 1) := by decide +kernel
theorem dX12_isFlapping_1 : decode cX12_isFlapping 1 = .ok (.iload_n 1, 1) := by decide +kernel
theorem dX12_isFlapping_2 : decode cX12_isFlapping 2 = .ok (.invokevirtual 110, 3) := by decide +kernel
theorem dX12_isFlapping_5 : decode cX12_isFlapping 5 = .ok (.aload_n 0, 1) := by decide +kernel
theorem dX12_isFlapping_6 : decode cX12_isFlapping 6 = .ok (.getfield 9, 3) := by decide +kernel
theorem dX12_isFlapping_9 : decode cX12_isFlapping 9 = .ok (.sipush 1845, 3) := by decide +kernel
theorem dX12_isFlapping_12 : decode cX12_isFlapping 12 = .ok (.iaload, 1) := by decide +kernel
theorem dX12_isFlapping_13 : decode cX12_isFlapping 13 = .ok (.if_icmp .lt 7, 3) := by decide +kernel
theorem dX12_isFlapping_16 : decode cX12_isFlapping 16 = .ok (.iconst 1, 1) := by decide +kernel
theorem dX12_isFlapping_17 : decode cX12_isFlapping 17 = .ok (.goto 4, 3) := by decide +kernel
theorem dX12_isFlapping_20 : decode cX12_isFlapping 20 = .ok (.iconst 0, 1) := by decide +kernel
theorem dX12_isFlapping_21 : decode cX12_isFlapping 21 = .ok (.ireturn, 1) := by decide +kernel
theorem dX12_isActive_0 : decode cX12_isActive 0 = .ok (.aload_n 0, 1) := by decide +kernel
theorem dX12_isActive_1 : decode cX12_isActive 1 = .ok (.iload_n 1, 1) := by decide +kernel
theorem dX12_isActive_2 : decode cX12_isActive 2 = .ok (.invokevirtual 104, 3) := by decide +kernel
theorem dX12_isActive_5 : decode cX12_isActive 5 = .ok (.iconst 2, 1) := by decide +kernel
theorem dX12_isActive_6 : decode cX12_isActive 6 = .ok (.if_icmp .ne 31, 3) := by decide +kernel
theorem dX12_isActive_9 : decode cX12_isActive 9 = .ok (.aload_n 0, 1) := by decide +kernel
theorem dX12_isActive_10 : decode cX12_isActive 10 = .ok (.iload_n 1, 1) := by decide +kernel
theorem dX12_isActive_11 : decode cX12_isActive 11 = .ok (.invokevirtual 113, 3) := by decide +kernel
theorem dX12_isActive_14 : decode cX12_isActive 14 = .ok (.ifCond .ge 23, 3) := by decide +kernel
theorem dX12_isActive_17 : decode cX12_isActive 17 = .ok (.aload_n 0, 1) := by decide +kernel
theorem dX12_isActive_18 : decode cX12_isActive 18 = .ok (.iload_n 1, 1) := by decide +kernel
theorem dX12_isActive_19 : decode cX12_isActive 19 = .ok (.invokevirtual 116, 3) := by decide +kernel
theorem dX12_isActive_22 : decode cX12_isActive 22 = .ok (.ifCond .ne 15, 3) := by decide +kernel
theorem dX12_isActive_25 : decode cX12_isActive 25 = .ok (.aload_n 0, 1) := by decide +kernel
theorem dX12_isActive_26 : decode cX12_isActive 26 = .ok (.iload_n 1, 1) := by decide +kernel
theorem dX12_isActive_27 : decode cX12_isActive 27 = .ok (.invokevirtual 120, 3) := by decide +kernel
theorem dX12_isActive_30 : decode cX12_isActive 30 = .ok (.ifCond .ge 7, 3) := by decide +kernel
theorem dX12_isActive_33 : decode cX12_isActive 33 = .ok (.iconst 1, 1) := by decide +kernel
theorem dX12_isActive_34 : decode cX12_isActive 34 = .ok (.goto 4, 3) := by decide +kernel
theorem dX12_isActive_37 : decode cX12_isActive 37 = .ok (.iconst 0, 1) := by decide +kernel
theorem dX12_isActive_38 : decode cX12_isActive 38 = .ok (.ireturn, 1) := by decide +kernel
theorem dX12_keyOf_0 : decode cX12_keyOf 0 = .ok (.iconst 0, 1) := by decide +kernel
theorem dX12_keyOf_1 : decode cX12_keyOf 1 = .ok (.iconst 3, 1) := by decide +kernel
theorem dX12_keyOf_2 : decode cX12_keyOf 2 = .ok (.iload_n 1, 1) := by decide +kernel
theorem dX12_keyOf_3 : decode cX12_keyOf 3 = .ok (.bipush 12, 2) := by decide +kernel
theorem dX12_keyOf_5 : decode cX12_keyOf 5 = .ok (.irem, 1) := by decide +kernel
theorem dX12_keyOf_6 : decode cX12_keyOf 6 = .ok (.imul, 1) := by decide +kernel
theorem dX12_keyOf_7 : decode cX12_keyOf 7 = .ok (.iadd, 1) := by decide +kernel
theorem dX12_keyOf_8 : decode cX12_keyOf 8 = .ok (.istore_n 2, 1) := by decide +kernel
theorem dX12_keyOf_9 : decode cX12_keyOf 9 = .ok (.aload_n 0, 1) := by decide +kernel
theorem dX12_keyOf_10 : decode cX12_keyOf 10 = .ok (.getfield 9, 3) := by decide +kernel
theorem dX12_keyOf_13 : decode cX12_keyOf 13 = .ok (.sipush 1846, 3) := by decide +kernel
theorem dX12_keyOf_16 : decode cX12_keyOf 16 = .ok (.iaload, 1) := by decide +kernel
theorem dX12_keyOf_17 : decode cX12_keyOf 17 = .ok (.istore_n 3, 1) := by decide +kernel
theorem dX12_keyOf_18 : decode cX12_keyOf 18 = .ok (.bipush 32, 2) := by decide +kernel
theorem dX12_keyOf_20 : decode cX12_keyOf 20 = .ok (.aload_n 0, 1) := by decide +kernel
theorem dX12_keyOf_21 : decode cX12_keyOf 21 = .ok (.getfield 9, 3) := by decide +kernel
theorem dX12_keyOf_24 : decode cX12_keyOf 24 = .ok (.iload_n 2, 1) := by decide +kernel
theorem dX12_keyOf_25 : decode cX12_keyOf 25 = .ok (.iaload, 1) := by decide +kernel
theorem dX12_keyOf_26 : decode cX12_keyOf 26 = .ok (.imul, 1) := by decide +kernel
theorem dX12_keyOf_27 : decode cX12_keyOf 27 = .ok (.iload_n 3, 1) := by decide +kernel
theorem dX12_keyOf_28 : decode cX12_keyOf 28 = .ok (.iconst 1, 1) := by decide +kernel
theorem dX12_keyOf_29 : decode cX12_keyOf 29 = .ok (.iand, 1) := by decide +kernel
theorem dX12_keyOf_30 : decode cX12_keyOf 30 = .ok (.imul, 1) := by decide +kernel
theorem dX12_keyOf_31 : decode cX12_keyOf 31 = .ok (.iconst 4, 1) := by decide +kernel
theorem dX12_keyOf_32 : decode cX12_keyOf 32 = .ok (.aload_n 0, 1) := by decide +kernel
theorem dX12_keyOf_33 : decode cX12_keyOf 33 = .ok (.getfield 9, 3) := by decide +kernel
theorem dX12_keyOf_36 : decode cX12_keyOf 36 = .ok (.iload_n 2, 1) := by decide +kernel
theorem dX12_keyOf_37 : decode cX12_keyOf 37 = .ok (.iconst 1, 1) := by decide +kernel
theorem dX12_keyOf_38 : decode cX12_keyOf 38 = .ok (.iadd, 1) := by decide +kernel
theorem dX12_keyOf_39 : decode cX12_keyOf 39 = .ok (.iaload, 1) := by decide +kernel
theorem dX12_keyOf_40 : decode cX12_keyOf 40 = .ok (.imul, 1) := by decide +kernel
theorem dX12_keyOf_41 : decode cX12_keyOf 41 = .ok (.iload_n 3, 1) := by decide +kernel
theorem dX12_keyOf_42 : decode cX12_keyOf 42 = .ok (.iconst 1, 1) := by decide +kernel
theorem dX12_keyOf_43 : decode cX12_keyOf 43 = .ok (.ishr, 1) := by decide +kernel
theorem dX12_keyOf_44 : decode cX12_keyOf 44 = .ok (.iconst 1, 1) := by decide +kernel
theorem dX12_keyOf_45 : decode cX12_keyOf 45 = .ok (.iand, 1) := by decide +kernel
theorem dX12_keyOf_46 : decode cX12_keyOf 46 = .ok (.imul, 1) := by decide +kernel
theorem dX12_keyOf_47 : decode cX12_keyOf 47 = .ok (.iadd, 1) := by decide +kernel
theorem dX12_keyOf_48 : decode cX12_keyOf 48 = .ok (.aload_n 0, 1) := by decide +kernel
theorem dX12_keyOf_49 : decode cX12_keyOf 49 = .ok (.getfield 9, 3) := by decide +kernel
theorem dX12_keyOf_52 : decode cX12_keyOf 52 = .ok (.iload_n 2, 1) := by decide +kernel
theorem dX12_keyOf_53 : decode cX12_keyOf 53 = .ok (.iconst 2, 1) := by decide +kernel
theorem dX12_keyOf_54 : decode cX12_keyOf 54 = .ok (.iadd, 1) := by decide +kernel
theorem dX12_keyOf_55 : decode cX12_keyOf 55 = .ok (.iaload, 1) := by decide +kernel
theorem dX12_keyOf_56 : decode cX12_keyOf 56 = .ok (.iload_n 3, 1) := by decide +kernel
theorem dX12_keyOf_57 : decode cX12_keyOf 57 = .ok (.iconst 2, 1) := by decide +kernel
theorem dX12_keyOf_58 : decode cX12_keyOf 58 = .ok (.ishr, 1) := by decide +kernel
theorem dX12_keyOf_59 : decode cX12_keyOf 59 = .ok (.imul, 1) := by decide +kernel
theorem dX12_keyOf_60 : decode cX12_keyOf 60 = .ok (.iadd, 1) := by decide +kernel
theorem dX12_keyOf_61 : decode cX12_keyOf 61 = .ok (.ireturn, 1) := by decide +kernel
theorem dX12_severity_0 : decode cX12_severity 0 = .ok (.aload_n 0, 1) := by decide +kernel
theorem dX12_severity_1 : decode cX12_severity 1 = .ok (.getfield 9, 3) := by decide +kernel
theorem dX12_severity_4 : decode cX12_severity 4 = .ok (.bipush 60, 2) := by decide +kernel
theorem dX12_severity_6 : decode cX12_severity 6 = .ok (.bipush 10, 2) := by decide +kernel
theorem dX12_severity_8 : decode cX12_severity 8 = .ok (.iload_n 1, 1) := by decide +kernel
theorem dX12_severity_9 : decode cX12_severity 9 = .ok (.bipush 12, 2) := by decide +kernel
theorem dX12_severity_11 : decode cX12_severity 11 = .ok (.idiv, 1) := by decide +kernel
theorem dX12_severity_12 : decode cX12_severity 12 = .ok (.imul, 1) := by decide +kernel
theorem dX12_severity_13 : decode cX12_severity 13 = .ok (.iadd, 1) := by decide +kernel
theorem dX12_severity_14 : decode cX12_severity 14 = .ok (.bipush 9, 2) := by decide +kernel
theorem dX12_severity_16 : decode cX12_severity 16 = .ok (.iadd, 1) := by decide +kernel
theorem dX12_severity_17 : decode cX12_severity 17 = .ok (.iaload, 1) := by decide +kernel
theorem dX12_severity_18 : decode cX12_severity 18 = .ok (.ireturn, 1) := by decide +kernel
theorem dX12_actives_0 : decode cX12_actives 0 = .ok (.lconst 0, 1) := by decide +kernel
theorem dX12_actives_1 : decode cX12_actives 1 = .ok (.lstore_n 1, 1) := by decide +kernel
theorem dX12_actives_2 : decode cX12_actives 2 = .ok (.iconst 0, 1) := by decide +kernel
theorem dX12_actives_3 : decode cX12_actives 3 = .ok (.istore_n 3, 1) := by decide +kernel
theorem dX12_actives_4 : decode cX12_actives 4 = .ok (.iload_n 3, 1) := by decide +kernel
theorem dX12_actives_5 : decode cX12_actives 5 = .ok (.bipush 60, 2) := by decide +kernel
theorem dX12_actives_7 : decode cX12_actives 7 = .ok (.if_icmp .ge 27, 3) := by decide +kernel
theorem dX12_actives_10 : decode cX12_actives 10 = .ok (.lload_n 1, 1) := by decide +kernel
theorem dX12_actives_11 : decode cX12_actives 11 = .ok (.aload_n 0, 1) := by decide +kernel
theorem dX12_actives_12 : decode cX12_actives 12 = .ok (.iload_n 3, 1) := by decide +kernel
theorem dX12_actives_13 : decode cX12_actives 13 = .ok (.invokevirtual 123, 3) := by decide +kernel
theorem dX12_actives_16 : decode cX12_actives 16 = .ok (.ifCond .eq 9, 3) := by decide +kernel
theorem dX12_actives_19 : decode cX12_actives 19 = .ok (.lconst 1, 1) := by decide +kernel
theorem dX12_actives_20 : decode cX12_actives 20 = .ok (.iload_n 3, 1) := by decide +kernel
theorem dX12_actives_21 : decode cX12_actives 21 = .ok (.lshl, 1) := by decide +kernel
theorem dX12_actives_22 : decode cX12_actives 22 = .ok (.goto 4, 3) := by decide +kernel
theorem dX12_actives_25 : decode cX12_actives 25 = .ok (.lconst 0, 1) := by decide +kernel
theorem dX12_actives_26 : decode cX12_actives 26 = .ok (.lor, 1) := by decide +kernel
theorem dX12_actives_27 : decode cX12_actives 27 = .ok (.lstore_n 1, 1) := by decide +kernel
theorem dX12_actives_28 : decode cX12_actives 28 = .ok (.iinc 3 1, 3) := by decide +kernel
theorem dX12_actives_31 : decode cX12_actives 31 = .ok (.goto (-27), 3) := by decide +kernel
theorem dX12_actives_34 : decode cX12_actives 34 = .ok (.lload_n 1, 1) := by decide +kernel
theorem dX12_actives_35 : decode cX12_actives 35 = .ok (.lreturn, 1) := by decide +kernel
theorem dX12_size_0 : decode cX12_size 0 = .ok (.iconst 0, 1) := by decide +kernel
theorem dX12_size_1 : decode cX12_size 1 = .ok (.istore_n 2, 1) := by decide +kernel
theorem dX12_size_2 : decode cX12_size 2 = .ok (.iconst 0, 1) := by decide +kernel
theorem dX12_size_3 : decode cX12_size 3 = .ok (.istore_n 3, 1) := by decide +kernel
theorem dX12_size_4 : decode cX12_size 4 = .ok (.iload_n 3, 1) := by decide +kernel
theorem dX12_size_5 : decode cX12_size 5 = .ok (.bipush 60, 2) := by decide +kernel
theorem dX12_size_7 : decode cX12_size 7 = .ok (.if_icmp .ge 18, 3) := by decide +kernel
theorem dX12_size_10 : decode cX12_size 10 = .ok (.iload_n 2, 1) := by decide +kernel
theorem dX12_size_11 : decode cX12_size 11 = .ok (.lload_n 0, 1) := by decide +kernel
theorem dX12_size_12 : decode cX12_size 12 = .ok (.iload_n 3, 1) := by decide +kernel
theorem dX12_size_13 : decode cX12_size 13 = .ok (.lshr, 1) := by decide +kernel
theorem dX12_size_14 : decode cX12_size 14 = .ok (.lconst 1, 1) := by decide +kernel
theorem dX12_size_15 : decode cX12_size 15 = .ok (.land, 1) := by decide +kernel
theorem dX12_size_16 : decode cX12_size 16 = .ok (.l2i, 1) := by decide +kernel
theorem dX12_size_17 : decode cX12_size 17 = .ok (.iadd, 1) := by decide +kernel
theorem dX12_size_18 : decode cX12_size 18 = .ok (.istore_n 2, 1) := by decide +kernel
theorem dX12_size_19 : decode cX12_size 19 = .ok (.iinc 3 1, 3) := by decide +kernel
theorem dX12_size_22 : decode cX12_size 22 = .ok (.goto (-18), 3) := by decide +kernel
theorem dX12_size_25 : decode cX12_size 25 = .ok (.iload_n 2, 1) := by decide +kernel
theorem dX12_size_26 : decode cX12_size 26 = .ok (.ireturn, 1) := by decide +kernel
theorem dX12_withKey_0 : decode cX12_withKey 0 = .ok (.lconst 0, 1) := by decide +kernel
theorem dX12_withKey_1 : decode cX12_withKey 1 = .ok (.lstore 4, 2) := by decide +kernel
theorem dX12_withKey_3 : decode cX12_withKey 3 = .ok (.iconst 0, 1) := by decide +kernel
theorem dX12_withKey_4 : decode cX12_withKey 4 = .ok (.istore 6, 2) := by decide +kernel
theorem dX12_withKey_6 : decode cX12_withKey 6 = .ok (.iload 6, 2) := by decide +kernel
theorem dX12_withKey_8 : decode cX12_withKey 8 = .ok (.bipush 60, 2) := by decide +kernel
theorem dX12_withKey_10 : decode cX12_withKey 10 = .ok (.if_icmp .ge 43, 3) := by decide +kernel
theorem dX12_withKey_13 : decode cX12_withKey 13 = .ok (.lload 4, 2) := by decide +kernel
theorem dX12_withKey_15 : decode cX12_withKey 15 = .ok (.lload_n 1, 1) := by decide +kernel
theorem dX12_withKey_16 : decode cX12_withKey 16 = .ok (.iload 6, 2) := by decide +kernel
theorem dX12_withKey_18 : decode cX12_withKey 18 = .ok (.lshr, 1) := by decide +kernel
theorem dX12_withKey_19 : decode cX12_withKey 19 = .ok (.lconst 1, 1) := by decide +kernel
theorem dX12_withKey_20 : decode cX12_withKey 20 = .ok (.land, 1) := by decide +kernel
theorem dX12_withKey_21 : decode cX12_withKey 21 = .ok (.lconst 1, 1) := by decide +kernel
theorem dX12_withKey_22 : decode cX12_withKey 22 = .ok (.lcmp, 1) := by decide +kernel
theorem dX12_withKey_23 : decode cX12_withKey 23 = .ok (.ifCond .ne 20, 3) := by decide +kernel
theorem dX12_withKey_26 : decode cX12_withKey 26 = .ok (.aload_n 0, 1) := by decide +kernel
theorem dX12_withKey_27 : decode cX12_withKey 27 = .ok (.iload 6, 2) := by decide +kernel
theorem dX12_withKey_29 : decode cX12_withKey 29 = .ok (.invokevirtual 126, 3) := by decide +kernel
theorem dX12_withKey_32 : decode cX12_withKey 32 = .ok (.iload_n 3, 1) := by decide +kernel
theorem dX12_withKey_33 : decode cX12_withKey 33 = .ok (.if_icmp .ne 10, 3) := by decide +kernel
theorem dX12_withKey_36 : decode cX12_withKey 36 = .ok (.lconst 1, 1) := by decide +kernel
theorem dX12_withKey_37 : decode cX12_withKey 37 = .ok (.iload 6, 2) := by decide +kernel
theorem dX12_withKey_39 : decode cX12_withKey 39 = .ok (.lshl, 1) := by decide +kernel
theorem dX12_withKey_40 : decode cX12_withKey 40 = .ok (.goto 4, 3) := by decide +kernel
theorem dX12_withKey_43 : decode cX12_withKey 43 = .ok (.lconst 0, 1) := by decide +kernel
theorem dX12_withKey_44 : decode cX12_withKey 44 = .ok (.lor, 1) := by decide +kernel
theorem dX12_withKey_45 : decode cX12_withKey 45 = .ok (.lstore 4, 2) := by decide +kernel
theorem dX12_withKey_47 : decode cX12_withKey 47 = .ok (.iinc 6 1, 3) := by decide +kernel
theorem dX12_withKey_50 : decode cX12_withKey 50 = .ok (.goto (-44), 3) := by decide +kernel
theorem dX12_withKey_53 : decode cX12_withKey 53 = .ok (.lload 4, 2) := by decide +kernel
theorem dX12_withKey_55 : decode cX12_withKey 55 = .ok (.lreturn, 1) := by decide +kernel
theorem dX12_greatest_0 : decode cX12_greatest 0 = .ok (.bipush (-5), 2) := by decide +kernel
theorem dX12_greatest_2 : decode cX12_greatest 2 = .ok (.istore_n 3, 1) := by decide +kernel
theorem dX12_greatest_3 : decode cX12_greatest 3 = .ok (.iconst 0, 1) := by decide +kernel
theorem dX12_greatest_4 : decode cX12_greatest 4 = .ok (.istore 4, 2) := by decide +kernel
theorem dX12_greatest_6 : decode cX12_greatest 6 = .ok (.iload 4, 2) := by decide +kernel
theorem dX12_greatest_8 : decode cX12_greatest 8 = .ok (.bipush 60, 2) := by decide +kernel
theorem dX12_greatest_10 : decode cX12_greatest 10 = .ok (.if_icmp .ge 37, 3) := by decide +kernel
theorem dX12_greatest_13 : decode cX12_greatest 13 = .ok (.lload_n 1, 1) := by decide +kernel
theorem dX12_greatest_14 : decode cX12_greatest 14 = .ok (.iload 4, 2) := by decide +kernel
theorem dX12_greatest_16 : decode cX12_greatest 16 = .ok (.lshr, 1) := by decide +kernel
theorem dX12_greatest_17 : decode cX12_greatest 17 = .ok (.lconst 1, 1) := by decide +kernel
theorem dX12_greatest_18 : decode cX12_greatest 18 = .ok (.land, 1) := by decide +kernel
theorem dX12_greatest_19 : decode cX12_greatest 19 = .ok (.lconst 1, 1) := by decide +kernel
theorem dX12_greatest_20 : decode cX12_greatest 20 = .ok (.lcmp, 1) := by decide +kernel
theorem dX12_greatest_21 : decode cX12_greatest 21 = .ok (.ifCond .ne 20, 3) := by decide +kernel
theorem dX12_greatest_24 : decode cX12_greatest 24 = .ok (.aload_n 0, 1) := by decide +kernel
theorem dX12_greatest_25 : decode cX12_greatest 25 = .ok (.iload 4, 2) := by decide +kernel
theorem dX12_greatest_27 : decode cX12_greatest 27 = .ok (.invokevirtual 129, 3) := by decide +kernel
theorem dX12_greatest_30 : decode cX12_greatest 30 = .ok (.iload_n 3, 1) := by decide +kernel
theorem dX12_greatest_31 : decode cX12_greatest 31 = .ok (.if_icmp .le 10, 3) := by decide +kernel
theorem dX12_greatest_34 : decode cX12_greatest 34 = .ok (.aload_n 0, 1) := by decide +kernel
theorem dX12_greatest_35 : decode cX12_greatest 35 = .ok (.iload 4, 2) := by decide +kernel
theorem dX12_greatest_37 : decode cX12_greatest 37 = .ok (.invokevirtual 129, 3) := by decide +kernel
theorem dX12_greatest_40 : decode cX12_greatest 40 = .ok (.istore_n 3, 1) := by decide +kernel
theorem dX12_greatest_41 : decode cX12_greatest 41 = .ok (.iinc 4 1, 3) := by decide +kernel
theorem dX12_greatest_44 : decode cX12_greatest 44 = .ok (.goto (-38), 3) := by decide +kernel
theorem dX12_greatest_47 : decode cX12_greatest 47 = .ok (.iload_n 3, 1) := by decide +kernel
theorem dX12_greatest_48 : decode cX12_greatest 48 = .ok (.ireturn, 1) := by decide +kernel
theorem dX12_turns_0 : decode cX12_turns 0 = .ok (.sipush 206, 3) := by decide +kernel
theorem dX12_turns_3 : decode cX12_turns 3 = .ok (.bipush 23, 2) := by decide +kernel
theorem dX12_turns_5 : decode cX12_turns 5 = .ok (.iload_n 1, 1) := by decide +kernel
theorem dX12_turns_6 : decode cX12_turns 6 = .ok (.imul, 1) := by decide +kernel
theorem dX12_turns_7 : decode cX12_turns 7 = .ok (.iadd, 1) := by decide +kernel
theorem dX12_turns_8 : decode cX12_turns 8 = .ok (.istore_n 2, 1) := by decide +kernel
theorem dX12_turns_9 : decode cX12_turns 9 = .ok (.aload_n 0, 1) := by decide +kernel
theorem dX12_turns_10 : decode cX12_turns 10 = .ok (.getfield 9, 3) := by decide +kernel
theorem dX12_turns_13 : decode cX12_turns 13 = .ok (.iload_n 2, 1) := by decide +kernel
theorem dX12_turns_14 : decode cX12_turns 14 = .ok (.iconst 2, 1) := by decide +kernel
theorem dX12_turns_15 : decode cX12_turns 15 = .ok (.iadd, 1) := by decide +kernel
theorem dX12_turns_16 : decode cX12_turns 16 = .ok (.iaload, 1) := by decide +kernel
theorem dX12_turns_17 : decode cX12_turns 17 = .ok (.bipush 20, 2) := by decide +kernel
theorem dX12_turns_19 : decode cX12_turns 19 = .ok (.if_icmp .ne 49, 3) := by decide +kernel
theorem dX12_turns_22 : decode cX12_turns 22 = .ok (.iconst 1, 1) := by decide +kernel
theorem dX12_turns_23 : decode cX12_turns 23 = .ok (.istore_n 3, 1) := by decide +kernel
theorem dX12_turns_24 : decode cX12_turns 24 = .ok (.iload_n 3, 1) := by decide +kernel
theorem dX12_turns_25 : decode cX12_turns 25 = .ok (.bipush 20, 2) := by decide +kernel
theorem dX12_turns_27 : decode cX12_turns 27 = .ok (.if_icmp .ge 29, 3) := by decide +kernel
theorem dX12_turns_30 : decode cX12_turns 30 = .ok (.aload_n 0, 1) := by decide +kernel
theorem dX12_turns_31 : decode cX12_turns 31 = .ok (.getfield 9, 3) := by decide +kernel
theorem dX12_turns_34 : decode cX12_turns 34 = .ok (.iload_n 2, 1) := by decide +kernel
theorem dX12_turns_35 : decode cX12_turns 35 = .ok (.iconst 2, 1) := by decide +kernel
theorem dX12_turns_36 : decode cX12_turns 36 = .ok (.iadd, 1) := by decide +kernel
theorem dX12_turns_37 : decode cX12_turns 37 = .ok (.iload_n 3, 1) := by decide +kernel
theorem dX12_turns_38 : decode cX12_turns 38 = .ok (.iadd, 1) := by decide +kernel
theorem dX12_turns_39 : decode cX12_turns 39 = .ok (.aload_n 0, 1) := by decide +kernel
theorem dX12_turns_40 : decode cX12_turns 40 = .ok (.getfield 9, 3) := by decide +kernel
theorem dX12_turns_43 : decode cX12_turns 43 = .ok (.iload_n 2, 1) := by decide +kernel
theorem dX12_turns_44 : decode cX12_turns 44 = .ok (.iconst 3, 1) := by decide +kernel
theorem dX12_turns_45 : decode cX12_turns 45 = .ok (.iadd, 1) := by decide +kernel
theorem dX12_turns_46 : decode cX12_turns 46 = .ok (.iload_n 3, 1) := by decide +kernel
theorem dX12_turns_47 : decode cX12_turns 47 = .ok (.iadd, 1) := by decide +kernel
theorem dX12_turns_48 : decode cX12_turns 48 = .ok (.iaload, 1) := by decide +kernel
theorem dX12_turns_49 : decode cX12_turns 49 = .ok (.iastore, 1) := by decide +kernel
theorem dX12_turns_50 : decode cX12_turns 50 = .ok (.iinc 3 1, 3) := by decide +kernel
theorem dX12_turns_53 : decode cX12_turns 53 = .ok (.goto (-29), 3) := by decide +kernel
theorem dX12_turns_56 : decode cX12_turns 56 = .ok (.aload_n 0, 1) := by decide +kernel
theorem dX12_turns_57 : decode cX12_turns 57 = .ok (.getfield 9, 3) := by decide +kernel
theorem dX12_turns_60 : decode cX12_turns 60 = .ok (.iload_n 2, 1) := by decide +kernel
theorem dX12_turns_61 : decode cX12_turns 61 = .ok (.iconst 2, 1) := by decide +kernel
theorem dX12_turns_62 : decode cX12_turns 62 = .ok (.iadd, 1) := by decide +kernel
theorem dX12_turns_63 : decode cX12_turns 63 = .ok (.dup2, 1) := by decide +kernel
theorem dX12_turns_64 : decode cX12_turns 64 = .ok (.iaload, 1) := by decide +kernel
theorem dX12_turns_65 : decode cX12_turns 65 = .ok (.iconst 1, 1) := by decide +kernel
theorem dX12_turns_66 : decode cX12_turns 66 = .ok (.isub, 1) := by decide +kernel
theorem dX12_turns_67 : decode cX12_turns 67 = .ok (.iastore, 1) := by decide +kernel
theorem dX12_turns_68 : decode cX12_turns 68 = .ok (.aload_n 0, 1) := by decide +kernel
theorem dX12_turns_69 : decode cX12_turns 69 = .ok (.getfield 9, 3) := by decide +kernel
theorem dX12_turns_72 : decode cX12_turns 72 = .ok (.iload_n 2, 1) := by decide +kernel
theorem dX12_turns_73 : decode cX12_turns 73 = .ok (.iconst 3, 1) := by decide +kernel
theorem dX12_turns_74 : decode cX12_turns 74 = .ok (.iadd, 1) := by decide +kernel
theorem dX12_turns_75 : decode cX12_turns 75 = .ok (.aload_n 0, 1) := by decide +kernel
theorem dX12_turns_76 : decode cX12_turns 76 = .ok (.getfield 9, 3) := by decide +kernel
theorem dX12_turns_79 : decode cX12_turns 79 = .ok (.iload_n 2, 1) := by decide +kernel
theorem dX12_turns_80 : decode cX12_turns 80 = .ok (.iconst 2, 1) := by decide +kernel
theorem dX12_turns_81 : decode cX12_turns 81 = .ok (.iadd, 1) := by decide +kernel
theorem dX12_turns_82 : decode cX12_turns 82 = .ok (.iaload, 1) := by decide +kernel
theorem dX12_turns_83 : decode cX12_turns 83 = .ok (.iadd, 1) := by decide +kernel
end
section
theorem dX12_turns_84 : decode cX12_turns 84 = .ok (.aload_n 0, 1) := by decide +kernel
theorem dX12_turns_85 : decode cX12_turns 85 = .ok (.getfield 9, 3) := by decide +kernel
theorem dX12_turns_88 : decode cX12_turns 88 = .ok (.sipush 1847, 3) := by decide +kernel
theorem dX12_turns_91 : decode cX12_turns 91 = .ok (.iaload, 1) := by decide +kernel
theorem dX12_turns_92 : decode cX12_turns 92 = .ok (.iastore, 1) := by decide +kernel
theorem dX12_turns_93 : decode cX12_turns 93 = .ok (.aload_n 0, 1) := by decide +kernel
theorem dX12_turns_94 : decode cX12_turns 94 = .ok (.getfield 9, 3) := by decide +kernel
theorem dX12_turns_97 : decode cX12_turns 97 = .ok (.iload_n 2, 1) := by decide +kernel
theorem dX12_turns_98 : decode cX12_turns 98 = .ok (.iconst 2, 1) := by decide +kernel
theorem dX12_turns_99 : decode cX12_turns 99 = .ok (.iadd, 1) := by decide +kernel
theorem dX12_turns_100 : decode cX12_turns 100 = .ok (.dup2, 1) := by decide +kernel
theorem dX12_turns_101 : decode cX12_turns 101 = .ok (.iaload, 1) := by decide +kernel
theorem dX12_turns_102 : decode cX12_turns 102 = .ok (.iconst 1, 1) := by decide +kernel
theorem dX12_turns_103 : decode cX12_turns 103 = .ok (.iadd, 1) := by decide +kernel
theorem dX12_turns_104 : decode cX12_turns 104 = .ok (.iastore, 1) := by decide +kernel
theorem dX12_turns_105 : decode cX12_turns 105 = .ok (.return_, 1) := by decide +kernel
theorem dX12_goesOn_0 : decode cX12_goesOn 0 = .ok (.sipush 206, 3) := by decide +kernel
theorem dX12_goesOn_3 : decode cX12_goesOn 3 = .ok (.bipush 23, 2) := by decide +kernel
theorem dX12_goesOn_5 : decode cX12_goesOn 5 = .ok (.iload_n 1, 1) := by decide +kernel
theorem dX12_goesOn_6 : decode cX12_goesOn 6 = .ok (.imul, 1) := by decide +kernel
theorem dX12_goesOn_7 : decode cX12_goesOn 7 = .ok (.iadd, 1) := by decide +kernel
theorem dX12_goesOn_8 : decode cX12_goesOn 8 = .ok (.istore_n 2, 1) := by decide +kernel
theorem dX12_goesOn_9 : decode cX12_goesOn 9 = .ok (.aload_n 0, 1) := by decide +kernel
theorem dX12_goesOn_10 : decode cX12_goesOn 10 = .ok (.iload_n 1, 1) := by decide +kernel
theorem dX12_goesOn_11 : decode cX12_goesOn 11 = .ok (.invokevirtual 132, 3) := by decide +kernel
theorem dX12_goesOn_14 : decode cX12_goesOn 14 = .ok (.ifCond .ne 26, 3) := by decide +kernel
theorem dX12_goesOn_17 : decode cX12_goesOn 17 = .ok (.aload_n 0, 1) := by decide +kernel
theorem dX12_goesOn_18 : decode cX12_goesOn 18 = .ok (.getfield 9, 3) := by decide +kernel
theorem dX12_goesOn_21 : decode cX12_goesOn 21 = .ok (.iload_n 2, 1) := by decide +kernel
theorem dX12_goesOn_22 : decode cX12_goesOn 22 = .ok (.iaload, 1) := by decide +kernel
theorem dX12_goesOn_23 : decode cX12_goesOn 23 = .ok (.iconst 2, 1) := by decide +kernel
theorem dX12_goesOn_24 : decode cX12_goesOn 24 = .ok (.if_icmp .ne 8, 3) := by decide +kernel
theorem dX12_goesOn_27 : decode cX12_goesOn 27 = .ok (.aload_n 0, 1) := by decide +kernel
theorem dX12_goesOn_28 : decode cX12_goesOn 28 = .ok (.iload_n 1, 1) := by decide +kernel
theorem dX12_goesOn_29 : decode cX12_goesOn 29 = .ok (.invokevirtual 135, 3) := by decide +kernel
theorem dX12_goesOn_32 : decode cX12_goesOn 32 = .ok (.aload_n 0, 1) := by decide +kernel
theorem dX12_goesOn_33 : decode cX12_goesOn 33 = .ok (.getfield 9, 3) := by decide +kernel
theorem dX12_goesOn_36 : decode cX12_goesOn 36 = .ok (.iload_n 2, 1) := by decide +kernel
theorem dX12_goesOn_37 : decode cX12_goesOn 37 = .ok (.iconst 0, 1) := by decide +kernel
theorem dX12_goesOn_38 : decode cX12_goesOn 38 = .ok (.iastore, 1) := by decide +kernel
theorem dX12_goesOn_39 : decode cX12_goesOn 39 = .ok (.return_, 1) := by decide +kernel
theorem dX12_goesOn_40 : decode cX12_goesOn 40 = .ok (.aload_n 0, 1) := by decide +kernel
theorem dX12_goesOn_41 : decode cX12_goesOn 41 = .ok (.getfield 9, 3) := by decide +kernel
theorem dX12_goesOn_44 : decode cX12_goesOn 44 = .ok (.iload_n 2, 1) := by decide +kernel
theorem dX12_goesOn_45 : decode cX12_goesOn 45 = .ok (.iaload, 1) := by decide +kernel
theorem dX12_goesOn_46 : decode cX12_goesOn 46 = .ok (.ifCond .ne 26, 3) := by decide +kernel
theorem dX12_goesOn_49 : decode cX12_goesOn 49 = .ok (.aload_n 0, 1) := by decide +kernel
theorem dX12_goesOn_50 : decode cX12_goesOn 50 = .ok (.getfield 9, 3) := by decide +kernel
theorem dX12_goesOn_53 : decode cX12_goesOn 53 = .ok (.iload_n 2, 1) := by decide +kernel
theorem dX12_goesOn_54 : decode cX12_goesOn 54 = .ok (.iconst 1, 1) := by decide +kernel
theorem dX12_goesOn_55 : decode cX12_goesOn 55 = .ok (.iastore, 1) := by decide +kernel
theorem dX12_goesOn_56 : decode cX12_goesOn 56 = .ok (.aload_n 0, 1) := by decide +kernel
theorem dX12_goesOn_57 : decode cX12_goesOn 57 = .ok (.getfield 9, 3) := by decide +kernel
theorem dX12_goesOn_60 : decode cX12_goesOn 60 = .ok (.iload_n 2, 1) := by decide +kernel
theorem dX12_goesOn_61 : decode cX12_goesOn 61 = .ok (.iconst 1, 1) := by decide +kernel
theorem dX12_goesOn_62 : decode cX12_goesOn 62 = .ok (.iadd, 1) := by decide +kernel
theorem dX12_goesOn_63 : decode cX12_goesOn 63 = .ok (.aload_n 0, 1) := by decide +kernel
theorem dX12_goesOn_64 : decode cX12_goesOn 64 = .ok (.getfield 9, 3) := by decide +kernel
theorem dX12_goesOn_67 : decode cX12_goesOn 67 = .ok (.sipush 1847, 3) := by decide +kernel
theorem dX12_goesOn_70 : decode cX12_goesOn 70 = .ok (.iaload, 1) := by decide +kernel
theorem dX12_goesOn_71 : decode cX12_goesOn 71 = .ok (.iastore, 1) := by decide +kernel
theorem dX12_goesOn_72 : decode cX12_goesOn 72 = .ok (.aload_n 0, 1) := by decide +kernel
theorem dX12_goesOn_73 : decode cX12_goesOn 73 = .ok (.getfield 9, 3) := by decide +kernel
theorem dX12_goesOn_76 : decode cX12_goesOn 76 = .ok (.iload_n 2, 1) := by decide +kernel
theorem dX12_goesOn_77 : decode cX12_goesOn 77 = .ok (.iaload, 1) := by decide +kernel
theorem dX12_goesOn_78 : decode cX12_goesOn 78 = .ok (.iconst 1, 1) := by decide +kernel
theorem dX12_goesOn_79 : decode cX12_goesOn 79 = .ok (.if_icmp .ne 69, 3) := by decide +kernel
theorem dX12_goesOn_82 : decode cX12_goesOn 82 = .ok (.aload_n 0, 1) := by decide +kernel
theorem dX12_goesOn_83 : decode cX12_goesOn 83 = .ok (.getfield 9, 3) := by decide +kernel
theorem dX12_goesOn_86 : decode cX12_goesOn 86 = .ok (.sipush 1847, 3) := by decide +kernel
theorem dX12_goesOn_89 : decode cX12_goesOn 89 = .ok (.iaload, 1) := by decide +kernel
theorem dX12_goesOn_90 : decode cX12_goesOn 90 = .ok (.aload_n 0, 1) := by decide +kernel
theorem dX12_goesOn_91 : decode cX12_goesOn 91 = .ok (.getfield 9, 3) := by decide +kernel
theorem dX12_goesOn_94 : decode cX12_goesOn 94 = .ok (.iload_n 2, 1) := by decide +kernel
theorem dX12_goesOn_95 : decode cX12_goesOn 95 = .ok (.iconst 1, 1) := by decide +kernel
theorem dX12_goesOn_96 : decode cX12_goesOn 96 = .ok (.iadd, 1) := by decide +kernel
theorem dX12_goesOn_97 : decode cX12_goesOn 97 = .ok (.iaload, 1) := by decide +kernel
theorem dX12_goesOn_98 : decode cX12_goesOn 98 = .ok (.isub, 1) := by decide +kernel
theorem dX12_goesOn_99 : decode cX12_goesOn 99 = .ok (.aload_n 0, 1) := by decide +kernel
theorem dX12_goesOn_100 : decode cX12_goesOn 100 = .ok (.getfield 9, 3) := by decide +kernel
theorem dX12_goesOn_103 : decode cX12_goesOn 103 = .ok (.bipush 60, 2) := by decide +kernel
theorem dX12_goesOn_105 : decode cX12_goesOn 105 = .ok (.bipush 10, 2) := by decide +kernel
theorem dX12_goesOn_107 : decode cX12_goesOn 107 = .ok (.iload_n 1, 1) := by decide +kernel
theorem dX12_goesOn_108 : decode cX12_goesOn 108 = .ok (.bipush 12, 2) := by decide +kernel
theorem dX12_goesOn_110 : decode cX12_goesOn 110 = .ok (.idiv, 1) := by decide +kernel
theorem dX12_goesOn_111 : decode cX12_goesOn 111 = .ok (.imul, 1) := by decide +kernel
theorem dX12_goesOn_112 : decode cX12_goesOn 112 = .ok (.iadd, 1) := by decide +kernel
theorem dX12_goesOn_113 : decode cX12_goesOn 113 = .ok (.bipush 8, 2) := by decide +kernel
theorem dX12_goesOn_115 : decode cX12_goesOn 115 = .ok (.iadd, 1) := by decide +kernel
theorem dX12_goesOn_116 : decode cX12_goesOn 116 = .ok (.iaload, 1) := by decide +kernel
theorem dX12_goesOn_117 : decode cX12_goesOn 117 = .ok (.if_icmp .lt 31, 3) := by decide +kernel
theorem dX12_goesOn_120 : decode cX12_goesOn 120 = .ok (.aload_n 0, 1) := by decide +kernel
theorem dX12_goesOn_121 : decode cX12_goesOn 121 = .ok (.getfield 9, 3) := by decide +kernel
theorem dX12_goesOn_124 : decode cX12_goesOn 124 = .ok (.iload_n 2, 1) := by decide +kernel
theorem dX12_goesOn_125 : decode cX12_goesOn 125 = .ok (.iconst 2, 1) := by decide +kernel
theorem dX12_goesOn_126 : decode cX12_goesOn 126 = .ok (.iastore, 1) := by decide +kernel
theorem dX12_goesOn_127 : decode cX12_goesOn 127 = .ok (.aload_n 0, 1) := by decide +kernel
theorem dX12_goesOn_128 : decode cX12_goesOn 128 = .ok (.getfield 9, 3) := by decide +kernel
theorem dX12_goesOn_131 : decode cX12_goesOn 131 = .ok (.iload_n 2, 1) := by decide +kernel
theorem dX12_goesOn_132 : decode cX12_goesOn 132 = .ok (.iconst 1, 1) := by decide +kernel
theorem dX12_goesOn_133 : decode cX12_goesOn 133 = .ok (.iadd, 1) := by decide +kernel
theorem dX12_goesOn_134 : decode cX12_goesOn 134 = .ok (.aload_n 0, 1) := by decide +kernel
theorem dX12_goesOn_135 : decode cX12_goesOn 135 = .ok (.getfield 9, 3) := by decide +kernel
theorem dX12_goesOn_138 : decode cX12_goesOn 138 = .ok (.sipush 1847, 3) := by decide +kernel
theorem dX12_goesOn_141 : decode cX12_goesOn 141 = .ok (.iaload, 1) := by decide +kernel
theorem dX12_goesOn_142 : decode cX12_goesOn 142 = .ok (.iastore, 1) := by decide +kernel
theorem dX12_goesOn_143 : decode cX12_goesOn 143 = .ok (.aload_n 0, 1) := by decide +kernel
theorem dX12_goesOn_144 : decode cX12_goesOn 144 = .ok (.iload_n 1, 1) := by decide +kernel
theorem dX12_goesOn_145 : decode cX12_goesOn 145 = .ok (.invokevirtual 135, 3) := by decide +kernel
theorem dX12_goesOn_148 : decode cX12_goesOn 148 = .ok (.return_, 1) := by decide +kernel
theorem dX12_sends_0 : decode cX12_sends 0 = .ok (.sipush 149, 3) := by decide +kernel
theorem dX12_sends_3 : decode cX12_sends 3 = .ok (.istore 5, 2) := by decide +kernel
theorem dX12_sends_5 : decode cX12_sends 5 = .ok (.iload 5, 2) := by decide +kernel
theorem dX12_sends_7 : decode cX12_sends 7 = .ok (.iconst 5, 1) := by decide +kernel
theorem dX12_sends_8 : decode cX12_sends 8 = .ok (.if_icmp .lt 33, 3) := by decide +kernel
theorem dX12_sends_11 : decode cX12_sends 11 = .ok (.aload_n 0, 1) := by decide +kernel
theorem dX12_sends_12 : decode cX12_sends 12 = .ok (.getfield 9, 3) := by decide +kernel
theorem dX12_sends_15 : decode cX12_sends 15 = .ok (.sipush 1849, 3) := by decide +kernel
theorem dX12_sends_18 : decode cX12_sends 18 = .ok (.iload 5, 2) := by decide +kernel
theorem dX12_sends_20 : decode cX12_sends 20 = .ok (.iadd, 1) := by decide +kernel
theorem dX12_sends_21 : decode cX12_sends 21 = .ok (.aload_n 0, 1) := by decide +kernel
theorem dX12_sends_22 : decode cX12_sends 22 = .ok (.getfield 9, 3) := by decide +kernel
theorem dX12_sends_25 : decode cX12_sends 25 = .ok (.sipush 1849, 3) := by decide +kernel
theorem dX12_sends_28 : decode cX12_sends 28 = .ok (.iload 5, 2) := by decide +kernel
theorem dX12_sends_30 : decode cX12_sends 30 = .ok (.iadd, 1) := by decide +kernel
theorem dX12_sends_31 : decode cX12_sends 31 = .ok (.iconst 5, 1) := by decide +kernel
theorem dX12_sends_32 : decode cX12_sends 32 = .ok (.isub, 1) := by decide +kernel
theorem dX12_sends_33 : decode cX12_sends 33 = .ok (.iaload, 1) := by decide +kernel
theorem dX12_sends_34 : decode cX12_sends 34 = .ok (.iastore, 1) := by decide +kernel
theorem dX12_sends_35 : decode cX12_sends 35 = .ok (.iinc 5 (-1), 3) := by decide +kernel
theorem dX12_sends_38 : decode cX12_sends 38 = .ok (.goto (-33), 3) := by decide +kernel
theorem dX12_sends_41 : decode cX12_sends 41 = .ok (.aload_n 0, 1) := by decide +kernel
theorem dX12_sends_42 : decode cX12_sends 42 = .ok (.getfield 9, 3) := by decide +kernel
theorem dX12_sends_45 : decode cX12_sends 45 = .ok (.sipush 1849, 3) := by decide +kernel
theorem dX12_sends_48 : decode cX12_sends 48 = .ok (.aload_n 0, 1) := by decide +kernel
theorem dX12_sends_49 : decode cX12_sends 49 = .ok (.getfield 9, 3) := by decide +kernel
theorem dX12_sends_52 : decode cX12_sends 52 = .ok (.sipush 1847, 3) := by decide +kernel
theorem dX12_sends_55 : decode cX12_sends 55 = .ok (.iaload, 1) := by decide +kernel
theorem dX12_sends_56 : decode cX12_sends 56 = .ok (.iastore, 1) := by decide +kernel
theorem dX12_sends_57 : decode cX12_sends 57 = .ok (.aload_n 0, 1) := by decide +kernel
theorem dX12_sends_58 : decode cX12_sends 58 = .ok (.getfield 9, 3) := by decide +kernel
theorem dX12_sends_61 : decode cX12_sends 61 = .ok (.sipush 1850, 3) := by decide +kernel
theorem dX12_sends_64 : decode cX12_sends 64 = .ok (.iload_n 1, 1) := by decide +kernel
theorem dX12_sends_65 : decode cX12_sends 65 = .ok (.iastore, 1) := by decide +kernel
theorem dX12_sends_66 : decode cX12_sends 66 = .ok (.aload_n 0, 1) := by decide +kernel
theorem dX12_sends_67 : decode cX12_sends 67 = .ok (.getfield 9, 3) := by decide +kernel
theorem dX12_sends_70 : decode cX12_sends 70 = .ok (.sipush 1851, 3) := by decide +kernel
theorem dX12_sends_73 : decode cX12_sends 73 = .ok (.iload_n 2, 1) := by decide +kernel
theorem dX12_sends_74 : decode cX12_sends 74 = .ok (.iastore, 1) := by decide +kernel
theorem dX12_sends_75 : decode cX12_sends 75 = .ok (.aload_n 0, 1) := by decide +kernel
theorem dX12_sends_76 : decode cX12_sends 76 = .ok (.getfield 9, 3) := by decide +kernel
theorem dX12_sends_79 : decode cX12_sends 79 = .ok (.sipush 1852, 3) := by decide +kernel
theorem dX12_sends_82 : decode cX12_sends 82 = .ok (.lload_n 3, 1) := by decide +kernel
theorem dX12_sends_83 : decode cX12_sends 83 = .ok (.invokestatic 138, 3) := by decide +kernel
theorem dX12_sends_86 : decode cX12_sends 86 = .ok (.iastore, 1) := by decide +kernel
theorem dX12_sends_87 : decode cX12_sends 87 = .ok (.aload_n 0, 1) := by decide +kernel
theorem dX12_sends_88 : decode cX12_sends 88 = .ok (.getfield 9, 3) := by decide +kernel
theorem dX12_sends_91 : decode cX12_sends 91 = .ok (.sipush 1853, 3) := by decide +kernel
theorem dX12_sends_94 : decode cX12_sends 94 = .ok (.iload_n 2, 1) := by decide +kernel
theorem dX12_sends_95 : decode cX12_sends 95 = .ok (.iconst 3, 1) := by decide +kernel
theorem dX12_sends_96 : decode cX12_sends 96 = .ok (.if_icmp .ne 8, 3) := by decide +kernel
theorem dX12_sends_99 : decode cX12_sends 99 = .ok (.bipush (-5), 2) := by decide +kernel
theorem dX12_sends_101 : decode cX12_sends 101 = .ok (.goto 8, 3) := by decide +kernel
theorem dX12_sends_104 : decode cX12_sends 104 = .ok (.aload_n 0, 1) := by decide +kernel
theorem dX12_sends_105 : decode cX12_sends 105 = .ok (.lload_n 3, 1) := by decide +kernel
theorem dX12_sends_106 : decode cX12_sends 106 = .ok (.invokevirtual 142, 3) := by decide +kernel
theorem dX12_sends_109 : decode cX12_sends 109 = .ok (.iastore, 1) := by decide +kernel
theorem dX12_sends_110 : decode cX12_sends 110 = .ok (.aload_n 0, 1) := by decide +kernel
theorem dX12_sends_111 : decode cX12_sends 111 = .ok (.getfield 9, 3) := by decide +kernel
theorem dX12_sends_114 : decode cX12_sends 114 = .ok (.sipush 1848, 3) := by decide +kernel
theorem dX12_sends_117 : decode cX12_sends 117 = .ok (.dup2, 1) := by decide +kernel
theorem dX12_sends_118 : decode cX12_sends 118 = .ok (.iaload, 1) := by decide +kernel
theorem dX12_sends_119 : decode cX12_sends 119 = .ok (.iconst 1, 1) := by decide +kernel
theorem dX12_sends_120 : decode cX12_sends 120 = .ok (.iadd, 1) := by decide +kernel
theorem dX12_sends_121 : decode cX12_sends 121 = .ok (.iastore, 1) := by decide +kernel
theorem dX12_sends_122 : decode cX12_sends 122 = .ok (.aload_n 0, 1) := by decide +kernel
theorem dX12_sends_123 : decode cX12_sends 123 = .ok (.getfield 9, 3) := by decide +kernel
theorem dX12_sends_126 : decode cX12_sends 126 = .ok (.sipush 1586, 3) := by decide +kernel
theorem dX12_sends_129 : decode cX12_sends 129 = .ok (.iconst 2, 1) := by decide +kernel
theorem dX12_sends_130 : decode cX12_sends 130 = .ok (.iload_n 1, 1) := by decide +kernel
theorem dX12_sends_131 : decode cX12_sends 131 = .ok (.imul, 1) := by decide +kernel
theorem dX12_sends_132 : decode cX12_sends 132 = .ok (.iadd, 1) := by decide +kernel
theorem dX12_sends_133 : decode cX12_sends 133 = .ok (.iload_n 2, 1) := by decide +kernel
theorem dX12_sends_134 : decode cX12_sends 134 = .ok (.iconst 3, 1) := by decide +kernel
theorem dX12_sends_135 : decode cX12_sends 135 = .ok (.if_icmp .ne 7, 3) := by decide +kernel
theorem dX12_sends_138 : decode cX12_sends 138 = .ok (.iconst 0, 1) := by decide +kernel
theorem dX12_sends_139 : decode cX12_sends 139 = .ok (.goto 4, 3) := by decide +kernel
theorem dX12_sends_142 : decode cX12_sends 142 = .ok (.iconst 1, 1) := by decide +kernel
theorem dX12_sends_143 : decode cX12_sends 143 = .ok (.iastore, 1) := by decide +kernel
theorem dX12_sends_144 : decode cX12_sends 144 = .ok (.aload_n 0, 1) := by decide +kernel
theorem dX12_sends_145 : decode cX12_sends 145 = .ok (.getfield 9, 3) := by decide +kernel
theorem dX12_sends_148 : decode cX12_sends 148 = .ok (.sipush 1586, 3) := by decide +kernel
theorem dX12_sends_151 : decode cX12_sends 151 = .ok (.iconst 2, 1) := by decide +kernel
theorem dX12_sends_152 : decode cX12_sends 152 = .ok (.iload_n 1, 1) := by decide +kernel
theorem dX12_sends_153 : decode cX12_sends 153 = .ok (.imul, 1) := by decide +kernel
theorem dX12_sends_154 : decode cX12_sends 154 = .ok (.iadd, 1) := by decide +kernel
theorem dX12_sends_155 : decode cX12_sends 155 = .ok (.iconst 1, 1) := by decide +kernel
theorem dX12_sends_156 : decode cX12_sends 156 = .ok (.iadd, 1) := by decide +kernel
theorem dX12_sends_157 : decode cX12_sends 157 = .ok (.aload_n 0, 1) := by decide +kernel
theorem dX12_sends_158 : decode cX12_sends 158 = .ok (.getfield 9, 3) := by decide +kernel
theorem dX12_sends_161 : decode cX12_sends 161 = .ok (.sipush 1847, 3) := by decide +kernel
theorem dX12_sends_164 : decode cX12_sends 164 = .ok (.iaload, 1) := by decide +kernel
theorem dX12_sends_165 : decode cX12_sends 165 = .ok (.iastore, 1) := by decide +kernel
theorem dX12_sends_166 : decode cX12_sends 166 = .ok (.aload_n 0, 1) := by decide +kernel
theorem dX12_sends_167 : decode cX12_sends 167 = .ok (.getfield 19, 3) := by decide +kernel
theorem dX12_sends_170 : decode cX12_sends 170 = .ok (.iload_n 1, 1) := by decide +kernel
theorem dX12_sends_171 : decode cX12_sends 171 = .ok (.lload_n 3, 1) := by decide +kernel
theorem dX12_sends_172 : decode cX12_sends 172 = .ok (.lastore, 1) := by decide +kernel
theorem dX12_sends_173 : decode cX12_sends 173 = .ok (.return_, 1) := by decide +kernel
theorem dX12_step_0 : decode cX12_step 0 = .ok (.aload_n 0, 1) := by decide +kernel
theorem dX12_step_1 : decode cX12_step 1 = .ok (.getfield 9, 3) := by decide +kernel
theorem dX12_step_4 : decode cX12_step 4 = .ok (.sipush 1847, 3) := by decide +kernel
theorem dX12_step_7 : decode cX12_step 7 = .ok (.dup2, 1) := by decide +kernel
theorem dX12_step_8 : decode cX12_step 8 = .ok (.iaload, 1) := by decide +kernel
theorem dX12_step_9 : decode cX12_step 9 = .ok (.iconst 1, 1) := by decide +kernel
theorem dX12_step_10 : decode cX12_step 10 = .ok (.iadd, 1) := by decide +kernel
theorem dX12_step_11 : decode cX12_step 11 = .ok (.iastore, 1) := by decide +kernel
theorem dX12_step_12 : decode cX12_step 12 = .ok (.iconst 0, 1) := by decide +kernel
theorem dX12_step_13 : decode cX12_step 13 = .ok (.istore_n 1, 1) := by decide +kernel
theorem dX12_step_14 : decode cX12_step 14 = .ok (.iload_n 1, 1) := by decide +kernel
theorem dX12_step_15 : decode cX12_step 15 = .ok (.bipush 60, 2) := by decide +kernel
theorem dX12_step_17 : decode cX12_step 17 = .ok (.if_icmp .ge 14, 3) := by decide +kernel
theorem dX12_step_20 : decode cX12_step 20 = .ok (.aload_n 0, 1) := by decide +kernel
theorem dX12_step_21 : decode cX12_step 21 = .ok (.iload_n 1, 1) := by decide +kernel
theorem dX12_step_22 : decode cX12_step 22 = .ok (.invokevirtual 145, 3) := by decide +kernel
theorem dX12_step_25 : decode cX12_step 25 = .ok (.iinc 1 1, 3) := by decide +kernel
theorem dX12_step_28 : decode cX12_step 28 = .ok (.goto (-14), 3) := by decide +kernel
theorem dX12_step_31 : decode cX12_step 31 = .ok (.aload_n 0, 1) := by decide +kernel
theorem dX12_step_32 : decode cX12_step 32 = .ok (.invokevirtual 148, 3) := by decide +kernel
theorem dX12_step_35 : decode cX12_step 35 = .ok (.lstore_n 1, 1) := by decide +kernel
theorem dX12_step_36 : decode cX12_step 36 = .ok (.aload_n 0, 1) := by decide +kernel
theorem dX12_step_37 : decode cX12_step 37 = .ok (.getfield 9, 3) := by decide +kernel
theorem dX12_step_40 : decode cX12_step 40 = .ok (.sipush 1848, 3) := by decide +kernel
theorem dX12_step_43 : decode cX12_step 43 = .ok (.iaload, 1) := by decide +kernel
theorem dX12_step_44 : decode cX12_step 44 = .ok (.istore_n 3, 1) := by decide +kernel
theorem dX12_step_45 : decode cX12_step 45 = .ok (.iconst 0, 1) := by decide +kernel
theorem dX12_step_46 : decode cX12_step 46 = .ok (.istore 4, 2) := by decide +kernel
theorem dX12_step_48 : decode cX12_step 48 = .ok (.iload 4, 2) := by decide +kernel
theorem dX12_step_50 : decode cX12_step 50 = .ok (.sipush 128, 3) := by decide +kernel
theorem dX12_step_53 : decode cX12_step 53 = .ok (.if_icmp .ge 191, 3) := by decide +kernel
theorem dX12_step_56 : decode cX12_step 56 = .ok (.aload_n 0, 1) := by decide +kernel
theorem dX12_step_57 : decode cX12_step 57 = .ok (.getfield 9, 3) := by decide +kernel
theorem dX12_step_60 : decode cX12_step 60 = .ok (.sipush 1586, 3) := by decide +kernel
theorem dX12_step_63 : decode cX12_step 63 = .ok (.iconst 2, 1) := by decide +kernel
theorem dX12_step_64 : decode cX12_step 64 = .ok (.iload 4, 2) := by decide +kernel
theorem dX12_step_66 : decode cX12_step 66 = .ok (.imul, 1) := by decide +kernel
theorem dX12_step_67 : decode cX12_step 67 = .ok (.iadd, 1) := by decide +kernel
theorem dX12_step_68 : decode cX12_step 68 = .ok (.iaload, 1) := by decide +kernel
theorem dX12_step_69 : decode cX12_step 69 = .ok (.iconst 1, 1) := by decide +kernel
theorem dX12_step_70 : decode cX12_step 70 = .ok (.if_icmp .ne 7, 3) := by decide +kernel
theorem dX12_step_73 : decode cX12_step 73 = .ok (.iconst 1, 1) := by decide +kernel
theorem dX12_step_74 : decode cX12_step 74 = .ok (.goto 4, 3) := by decide +kernel
theorem dX12_step_77 : decode cX12_step 77 = .ok (.iconst 0, 1) := by decide +kernel
theorem dX12_step_78 : decode cX12_step 78 = .ok (.istore 5, 2) := by decide +kernel
theorem dX12_step_80 : decode cX12_step 80 = .ok (.lload_n 1, 1) := by decide +kernel
theorem dX12_step_81 : decode cX12_step 81 = .ok (.lconst 0, 1) := by decide +kernel
theorem dX12_step_82 : decode cX12_step 82 = .ok (.lcmp, 1) := by decide +kernel
theorem dX12_step_83 : decode cX12_step 83 = .ok (.ifCond .ne 11, 3) := by decide +kernel
theorem dX12_step_86 : decode cX12_step 86 = .ok (.iload 5, 2) := by decide +kernel
theorem dX12_step_88 : decode cX12_step 88 = .ok (.ifCond .ne 6, 3) := by decide +kernel
theorem dX12_step_91 : decode cX12_step 91 = .ok (.goto 147, 3) := by decide +kernel
theorem dX12_step_94 : decode cX12_step 94 = .ok (.aload_n 0, 1) := by decide +kernel
theorem dX12_step_95 : decode cX12_step 95 = .ok (.lload_n 1, 1) := by decide +kernel
theorem dX12_step_96 : decode cX12_step 96 = .ok (.iload 4, 2) := by decide +kernel
theorem dX12_step_98 : decode cX12_step 98 = .ok (.invokevirtual 152, 3) := by decide +kernel
theorem dX12_step_101 : decode cX12_step 101 = .ok (.lstore 6, 2) := by decide +kernel
theorem dX12_step_103 : decode cX12_step 103 = .ok (.aload_n 0, 1) := by decide +kernel
theorem dX12_step_104 : decode cX12_step 104 = .ok (.getfield 9, 3) := by decide +kernel
theorem dX12_step_107 : decode cX12_step 107 = .ok (.sipush 1847, 3) := by decide +kernel
theorem dX12_step_110 : decode cX12_step 110 = .ok (.iaload, 1) := by decide +kernel
theorem dX12_step_111 : decode cX12_step 111 = .ok (.aload_n 0, 1) := by decide +kernel
theorem dX12_step_112 : decode cX12_step 112 = .ok (.getfield 9, 3) := by decide +kernel
theorem dX12_step_115 : decode cX12_step 115 = .ok (.sipush 1586, 3) := by decide +kernel
theorem dX12_step_118 : decode cX12_step 118 = .ok (.iconst 2, 1) := by decide +kernel
theorem dX12_step_119 : decode cX12_step 119 = .ok (.iload 4, 2) := by decide +kernel
theorem dX12_step_121 : decode cX12_step 121 = .ok (.imul, 1) := by decide +kernel
theorem dX12_step_122 : decode cX12_step 122 = .ok (.iadd, 1) := by decide +kernel
theorem dX12_step_123 : decode cX12_step 123 = .ok (.iconst 1, 1) := by decide +kernel
theorem dX12_step_124 : decode cX12_step 124 = .ok (.iadd, 1) := by decide +kernel
theorem dX12_step_125 : decode cX12_step 125 = .ok (.iaload, 1) := by decide +kernel
theorem dX12_step_126 : decode cX12_step 126 = .ok (.isub, 1) := by decide +kernel
theorem dX12_step_127 : decode cX12_step 127 = .ok (.istore 8, 2) := by decide +kernel
theorem dX12_step_129 : decode cX12_step 129 = .ok (.iload 5, 2) := by decide +kernel
theorem dX12_step_131 : decode cX12_step 131 = .ok (.ifCond .ne 22, 3) := by decide +kernel
theorem dX12_step_134 : decode cX12_step 134 = .ok (.lload 6, 2) := by decide +kernel
theorem dX12_step_136 : decode cX12_step 136 = .ok (.lconst 0, 1) := by decide +kernel
theorem dX12_step_137 : decode cX12_step 137 = .ok (.lcmp, 1) := by decide +kernel
theorem dX12_step_138 : decode cX12_step 138 = .ok (.ifCond .eq 100, 3) := by decide +kernel
theorem dX12_step_141 : decode cX12_step 141 = .ok (.aload_n 0, 1) := by decide +kernel
theorem dX12_step_142 : decode cX12_step 142 = .ok (.iload 4, 2) := by decide +kernel
theorem dX12_step_144 : decode cX12_step 144 = .ok (.iconst 0, 1) := by decide +kernel
theorem dX12_step_145 : decode cX12_step 145 = .ok (.lload 6, 2) := by decide +kernel
theorem dX12_step_147 : decode cX12_step 147 = .ok (.invokevirtual 156, 3) := by decide +kernel
theorem dX12_step_150 : decode cX12_step 150 = .ok (.goto 88, 3) := by decide +kernel
theorem dX12_step_153 : decode cX12_step 153 = .ok (.lload 6, 2) := by decide +kernel
theorem dX12_step_155 : decode cX12_step 155 = .ok (.aload_n 0, 1) := by decide +kernel
theorem dX12_step_156 : decode cX12_step 156 = .ok (.getfield 19, 3) := by decide +kernel
theorem dX12_step_159 : decode cX12_step 159 = .ok (.iload 4, 2) := by decide +kernel
theorem dX12_step_161 : decode cX12_step 161 = .ok (.laload, 1) := by decide +kernel
theorem dX12_step_162 : decode cX12_step 162 = .ok (.ldc2_w 160, 3) := by decide +kernel
theorem dX12_step_165 : decode cX12_step 165 = .ok (.lxor, 1) := by decide +kernel
theorem dX12_step_166 : decode cX12_step 166 = .ok (.land, 1) := by decide +kernel
theorem dX12_step_167 : decode cX12_step 167 = .ok (.lconst 0, 1) := by decide +kernel
theorem dX12_step_168 : decode cX12_step 168 = .ok (.lcmp, 1) := by decide +kernel
theorem dX12_step_169 : decode cX12_step 169 = .ok (.ifCond .eq 28, 3) := by decide +kernel
theorem dX12_step_172 : decode cX12_step 172 = .ok (.iload 8, 2) := by decide +kernel
theorem dX12_step_174 : decode cX12_step 174 = .ok (.aload_n 0, 1) := by decide +kernel
theorem dX12_step_175 : decode cX12_step 175 = .ok (.getfield 9, 3) := by decide +kernel
theorem dX12_step_178 : decode cX12_step 178 = .ok (.sipush 1842, 3) := by decide +kernel
theorem dX12_step_181 : decode cX12_step 181 = .ok (.iaload, 1) := by decide +kernel
theorem dX12_step_182 : decode cX12_step 182 = .ok (.if_icmp .lt 15, 3) := by decide +kernel
theorem dX12_step_185 : decode cX12_step 185 = .ok (.aload_n 0, 1) := by decide +kernel
theorem dX12_step_186 : decode cX12_step 186 = .ok (.iload 4, 2) := by decide +kernel
theorem dX12_step_188 : decode cX12_step 188 = .ok (.iconst 1, 1) := by decide +kernel
theorem dX12_step_189 : decode cX12_step 189 = .ok (.lload 6, 2) := by decide +kernel
theorem dX12_step_191 : decode cX12_step 191 = .ok (.invokevirtual 156, 3) := by decide +kernel
theorem dX12_step_194 : decode cX12_step 194 = .ok (.goto 44, 3) := by decide +kernel
theorem dX12_step_197 : decode cX12_step 197 = .ok (.lload 6, 2) := by decide +kernel
theorem dX12_step_199 : decode cX12_step 199 = .ok (.lconst 0, 1) := by decide +kernel
theorem dX12_step_200 : decode cX12_step 200 = .ok (.lcmp, 1) := by decide +kernel
theorem dX12_step_201 : decode cX12_step 201 = .ok (.ifCond .eq 28, 3) := by decide +kernel
theorem dX12_step_204 : decode cX12_step 204 = .ok (.iload 8, 2) := by decide +kernel
theorem dX12_step_206 : decode cX12_step 206 = .ok (.aload_n 0, 1) := by decide +kernel
theorem dX12_step_207 : decode cX12_step 207 = .ok (.getfield 9, 3) := by decide +kernel
theorem dX12_step_210 : decode cX12_step 210 = .ok (.sipush 1843, 3) := by decide +kernel
theorem dX12_step_213 : decode cX12_step 213 = .ok (.iaload, 1) := by decide +kernel
theorem dX12_step_214 : decode cX12_step 214 = .ok (.if_icmp .lt 24, 3) := by decide +kernel
theorem dX12_step_217 : decode cX12_step 217 = .ok (.aload_n 0, 1) := by decide +kernel
theorem dX12_step_218 : decode cX12_step 218 = .ok (.iload 4, 2) := by decide +kernel
theorem dX12_step_220 : decode cX12_step 220 = .ok (.iconst 2, 1) := by decide +kernel
theorem dX12_step_221 : decode cX12_step 221 = .ok (.lload 6, 2) := by decide +kernel
theorem dX12_step_223 : decode cX12_step 223 = .ok (.invokevirtual 156, 3) := by decide +kernel
theorem dX12_step_226 : decode cX12_step 226 = .ok (.goto 12, 3) := by decide +kernel
theorem dX12_step_229 : decode cX12_step 229 = .ok (.aload_n 0, 1) := by decide +kernel
theorem dX12_step_230 : decode cX12_step 230 = .ok (.iload 4, 2) := by decide +kernel
theorem dX12_step_232 : decode cX12_step 232 = .ok (.iconst 3, 1) := by decide +kernel
theorem dX12_step_233 : decode cX12_step 233 = .ok (.lload 6, 2) := by decide +kernel
theorem dX12_step_235 : decode cX12_step 235 = .ok (.invokevirtual 156, 3) := by decide +kernel
theorem dX12_step_238 : decode cX12_step 238 = .ok (.iinc 4 1, 3) := by decide +kernel
theorem dX12_step_241 : decode cX12_step 241 = .ok (.goto (-193), 3) := by decide +kernel
theorem dX12_step_244 : decode cX12_step 244 = .ok (.aload_n 0, 1) := by decide +kernel
theorem dX12_step_245 : decode cX12_step 245 = .ok (.getfield 9, 3) := by decide +kernel
theorem dX12_step_248 : decode cX12_step 248 = .ok (.sipush 1848, 3) := by decide +kernel
theorem dX12_step_251 : decode cX12_step 251 = .ok (.iaload, 1) := by decide +kernel
theorem dX12_step_252 : decode cX12_step 252 = .ok (.iload_n 3, 1) := by decide +kernel
theorem dX12_step_253 : decode cX12_step 253 = .ok (.isub, 1) := by decide +kernel
theorem dX12_step_254 : decode cX12_step 254 = .ok (.ireturn, 1) := by decide +kernel
theorem dX12_pass_0 : decode cX12_pass 0 = .ok (.iload_n 1, 1) := by decide +kernel
theorem dX12_pass_1 : decode cX12_pass 1 = .ok (.iconst 1, 1) := by decide +kernel
theorem dX12_pass_2 : decode cX12_pass 2 = .ok (.bipush 100, 2) := by decide +kernel
theorem dX12_pass_4 : decode cX12_pass 4 = .ok (.invokestatic 35, 3) := by decide +kernel
theorem dX12_pass_7 : decode cX12_pass 7 = .ok (.ifCond .ne 6, 3) := by decide +kernel
theorem dX12_pass_10 : decode cX12_pass 10 = .ok (.bipush (-2), 2) := by decide +kernel
theorem dX12_pass_12 : decode cX12_pass 12 = .ok (.ireturn, 1) := by decide +kernel
theorem dX12_pass_13 : decode cX12_pass 13 = .ok (.aload_n 0, 1) := by decide +kernel
theorem dX12_pass_14 : decode cX12_pass 14 = .ok (.getfield 9, 3) := by decide +kernel
theorem dX12_pass_17 : decode cX12_pass 17 = .ok (.sipush 1847, 3) := by decide +kernel
theorem dX12_pass_20 : decode cX12_pass 20 = .ok (.iaload, 1) := by decide +kernel
theorem dX12_pass_21 : decode cX12_pass 21 = .ok (.iload_n 1, 1) := by decide +kernel
theorem dX12_pass_22 : decode cX12_pass 22 = .ok (.iadd, 1) := by decide +kernel
theorem dX12_pass_23 : decode cX12_pass 23 = .ok (.ldc 162, 2) := by decide +kernel
theorem dX12_pass_25 : decode cX12_pass 25 = .ok (.if_icmp .le 6, 3) := by decide +kernel
theorem dX12_pass_28 : decode cX12_pass 28 = .ok (.bipush (-4), 2) := by decide +kernel
theorem dX12_pass_30 : decode cX12_pass 30 = .ok (.ireturn, 1) := by decide +kernel
theorem dX12_pass_31 : decode cX12_pass 31 = .ok (.iconst 0, 1) := by decide +kernel
theorem dX12_pass_32 : decode cX12_pass 32 = .ok (.istore_n 2, 1) := by decide +kernel
theorem dX12_pass_33 : decode cX12_pass 33 = .ok (.iconst 0, 1) := by decide +kernel
theorem dX12_pass_34 : decode cX12_pass 34 = .ok (.istore_n 3, 1) := by decide +kernel
theorem dX12_pass_35 : decode cX12_pass 35 = .ok (.iload_n 3, 1) := by decide +kernel
theorem dX12_pass_36 : decode cX12_pass 36 = .ok (.iload_n 1, 1) := by decide +kernel
theorem dX12_pass_37 : decode cX12_pass 37 = .ok (.if_icmp .ge 16, 3) := by decide +kernel
theorem dX12_pass_40 : decode cX12_pass 40 = .ok (.iload_n 2, 1) := by decide +kernel
theorem dX12_pass_41 : decode cX12_pass 41 = .ok (.aload_n 0, 1) := by decide +kernel
theorem dX12_pass_42 : decode cX12_pass 42 = .ok (.invokevirtual 163, 3) := by decide +kernel
theorem dX12_pass_45 : decode cX12_pass 45 = .ok (.iadd, 1) := by decide +kernel
theorem dX12_pass_46 : decode cX12_pass 46 = .ok (.istore_n 2, 1) := by decide +kernel
theorem dX12_pass_47 : decode cX12_pass 47 = .ok (.iinc 3 1, 3) := by decide +kernel
theorem dX12_pass_50 : decode cX12_pass 50 = .ok (.goto (-15), 3) := by decide +kernel
theorem dX12_pass_53 : decode cX12_pass 53 = .ok (.iload_n 2, 1) := by decide +kernel
theorem dX12_pass_54 : decode cX12_pass 54 = .ok (.ireturn, 1) := by decide +kernel
theorem dX12_alert_0 : decode cX12_alert 0 = .ok (.aload_n 0, 1) := by decide +kernel
theorem dX12_alert_1 : decode cX12_alert 1 = .ok (.iconst 0, 1) := by decide +kernel
theorem dX12_alert_2 : decode cX12_alert 2 = .ok (.iload_n 1, 1) := by decide +kernel
theorem dX12_alert_3 : decode cX12_alert 3 = .ok (.invokevirtual 82, 3) := by decide +kernel
theorem dX12_alert_6 : decode cX12_alert 6 = .ok (.ifCond .eq 23, 3) := by decide +kernel
theorem dX12_alert_9 : decode cX12_alert 9 = .ok (.iload_n 2, 1) := by decide +kernel
theorem dX12_alert_10 : decode cX12_alert 10 = .ok (.iconst 0, 1) := by decide +kernel
theorem dX12_alert_11 : decode cX12_alert 11 = .ok (.bipush 11, 2) := by decide +kernel
theorem dX12_alert_13 : decode cX12_alert 13 = .ok (.invokestatic 35, 3) := by decide +kernel
theorem dX12_alert_16 : decode cX12_alert 16 = .ok (.ifCond .eq 13, 3) := by decide +kernel
theorem dX12_alert_19 : decode cX12_alert 19 = .ok (.iload_n 3, 1) := by decide +kernel
theorem dX12_alert_20 : decode cX12_alert 20 = .ok (.iconst 0, 1) := by decide +kernel
theorem dX12_alert_21 : decode cX12_alert 21 = .ok (.bipush 10, 2) := by decide +kernel
theorem dX12_alert_23 : decode cX12_alert 23 = .ok (.invokestatic 35, 3) := by decide +kernel
theorem dX12_alert_26 : decode cX12_alert 26 = .ok (.ifCond .ne 5, 3) := by decide +kernel
theorem dX12_alert_29 : decode cX12_alert 29 = .ok (.iconst (-1), 1) := by decide +kernel
theorem dX12_alert_30 : decode cX12_alert 30 = .ok (.ireturn, 1) := by decide +kernel
theorem dX12_alert_31 : decode cX12_alert 31 = .ok (.bipush 12, 2) := by decide +kernel
theorem dX12_alert_33 : decode cX12_alert 33 = .ok (.iload_n 1, 1) := by decide +kernel
theorem dX12_alert_34 : decode cX12_alert 34 = .ok (.imul, 1) := by decide +kernel
theorem dX12_alert_35 : decode cX12_alert 35 = .ok (.iload_n 2, 1) := by decide +kernel
theorem dX12_alert_36 : decode cX12_alert 36 = .ok (.iadd, 1) := by decide +kernel
theorem dX12_alert_37 : decode cX12_alert 37 = .ok (.istore 4, 2) := by decide +kernel
theorem dX12_alert_39 : decode cX12_alert 39 = .ok (.iload_n 3, 1) := by decide +kernel
theorem dX12_alert_40 : decode cX12_alert 40 = .ok (.tableswitch 182 0 9 #[56, 63, 94, 109, 124, 139, 154, 161, 168, 175], 56) := by decide +kernel
theorem dX12_alert_96 : decode cX12_alert 96 = .ok (.aload_n 0, 1) := by decide +kernel
theorem dX12_alert_97 : decode cX12_alert 97 = .ok (.iload 4, 2) := by decide +kernel
theorem dX12_alert_99 : decode cX12_alert 99 = .ok (.invokevirtual 104, 3) := by decide +kernel
theorem dX12_alert_102 : decode cX12_alert 102 = .ok (.ireturn, 1) := by decide +kernel
theorem dX12_alert_103 : decode cX12_alert 103 = .ok (.aload_n 0, 1) := by decide +kernel
theorem dX12_alert_104 : decode cX12_alert 104 = .ok (.iload 4, 2) := by decide +kernel
theorem dX12_alert_106 : decode cX12_alert 106 = .ok (.invokevirtual 104, 3) := by decide +kernel
theorem dX12_alert_109 : decode cX12_alert 109 = .ok (.ifCond .ne 8, 3) := by decide +kernel
theorem dX12_alert_112 : decode cX12_alert 112 = .ok (.bipush (-5), 2) := by decide +kernel
theorem dX12_alert_114 : decode cX12_alert 114 = .ok (.goto 19, 3) := by decide +kernel
theorem dX12_alert_117 : decode cX12_alert 117 = .ok (.aload_n 0, 1) := by decide +kernel
theorem dX12_alert_118 : decode cX12_alert 118 = .ok (.getfield 9, 3) := by decide +kernel
theorem dX12_alert_121 : decode cX12_alert 121 = .ok (.sipush 206, 3) := by decide +kernel
theorem dX12_alert_124 : decode cX12_alert 124 = .ok (.bipush 23, 2) := by decide +kernel
theorem dX12_alert_126 : decode cX12_alert 126 = .ok (.iload 4, 2) := by decide +kernel
theorem dX12_alert_128 : decode cX12_alert 128 = .ok (.imul, 1) := by decide +kernel
theorem dX12_alert_129 : decode cX12_alert 129 = .ok (.iadd, 1) := by decide +kernel
theorem dX12_alert_130 : decode cX12_alert 130 = .ok (.iconst 1, 1) := by decide +kernel
theorem dX12_alert_131 : decode cX12_alert 131 = .ok (.iadd, 1) := by decide +kernel
theorem dX12_alert_132 : decode cX12_alert 132 = .ok (.iaload, 1) := by decide +kernel
theorem dX12_alert_133 : decode cX12_alert 133 = .ok (.ireturn, 1) := by decide +kernel
theorem dX12_alert_134 : decode cX12_alert 134 = .ok (.aload_n 0, 1) := by decide +kernel
theorem dX12_alert_135 : decode cX12_alert 135 = .ok (.iload 4, 2) := by decide +kernel
theorem dX12_alert_137 : decode cX12_alert 137 = .ok (.invokevirtual 113, 3) := by decide +kernel
theorem dX12_alert_140 : decode cX12_alert 140 = .ok (.ifCond .lt 7, 3) := by decide +kernel
theorem dX12_alert_143 : decode cX12_alert 143 = .ok (.iconst 1, 1) := by decide +kernel
theorem dX12_alert_144 : decode cX12_alert 144 = .ok (.goto 4, 3) := by decide +kernel
theorem dX12_alert_147 : decode cX12_alert 147 = .ok (.iconst 0, 1) := by decide +kernel
theorem dX12_alert_148 : decode cX12_alert 148 = .ok (.ireturn, 1) := by decide +kernel
theorem dX12_alert_149 : decode cX12_alert 149 = .ok (.aload_n 0, 1) := by decide +kernel
theorem dX12_alert_150 : decode cX12_alert 150 = .ok (.iload 4, 2) := by decide +kernel
theorem dX12_alert_152 : decode cX12_alert 152 = .ok (.invokevirtual 120, 3) := by decide +kernel
theorem dX12_alert_155 : decode cX12_alert 155 = .ok (.ifCond .lt 7, 3) := by decide +kernel
theorem dX12_alert_158 : decode cX12_alert 158 = .ok (.iconst 1, 1) := by decide +kernel
theorem dX12_alert_159 : decode cX12_alert 159 = .ok (.goto 4, 3) := by decide +kernel
theorem dX12_alert_162 : decode cX12_alert 162 = .ok (.iconst 0, 1) := by decide +kernel
theorem dX12_alert_163 : decode cX12_alert 163 = .ok (.ireturn, 1) := by decide +kernel
theorem dX12_alert_164 : decode cX12_alert 164 = .ok (.aload_n 0, 1) := by decide +kernel
theorem dX12_alert_165 : decode cX12_alert 165 = .ok (.iload 4, 2) := by decide +kernel
theorem dX12_alert_167 : decode cX12_alert 167 = .ok (.invokevirtual 116, 3) := by decide +kernel
theorem dX12_alert_170 : decode cX12_alert 170 = .ok (.ifCond .eq 7, 3) := by decide +kernel
theorem dX12_alert_173 : decode cX12_alert 173 = .ok (.iconst 1, 1) := by decide +kernel
theorem dX12_alert_174 : decode cX12_alert 174 = .ok (.goto 4, 3) := by decide +kernel
theorem dX12_alert_177 : decode cX12_alert 177 = .ok (.iconst 0, 1) := by decide +kernel
theorem dX12_alert_178 : decode cX12_alert 178 = .ok (.ireturn, 1) := by decide +kernel
theorem dX12_alert_179 : decode cX12_alert 179 = .ok (.aload_n 0, 1) := by decide +kernel
theorem dX12_alert_180 : decode cX12_alert 180 = .ok (.iload 4, 2) := by decide +kernel
theorem dX12_alert_182 : decode cX12_alert 182 = .ok (.invokevirtual 123, 3) := by decide +kernel
theorem dX12_alert_185 : decode cX12_alert 185 = .ok (.ifCond .eq 7, 3) := by decide +kernel
theorem dX12_alert_188 : decode cX12_alert 188 = .ok (.iconst 1, 1) := by decide +kernel
theorem dX12_alert_189 : decode cX12_alert 189 = .ok (.goto 4, 3) := by decide +kernel
theorem dX12_alert_192 : decode cX12_alert 192 = .ok (.iconst 0, 1) := by decide +kernel
theorem dX12_alert_193 : decode cX12_alert 193 = .ok (.ireturn, 1) := by decide +kernel
theorem dX12_alert_194 : decode cX12_alert 194 = .ok (.aload_n 0, 1) := by decide +kernel
theorem dX12_alert_195 : decode cX12_alert 195 = .ok (.iload 4, 2) := by decide +kernel
theorem dX12_alert_197 : decode cX12_alert 197 = .ok (.invokevirtual 110, 3) := by decide +kernel
theorem dX12_alert_200 : decode cX12_alert 200 = .ok (.ireturn, 1) := by decide +kernel
theorem dX12_alert_201 : decode cX12_alert 201 = .ok (.aload_n 0, 1) := by decide +kernel
theorem dX12_alert_202 : decode cX12_alert 202 = .ok (.iload 4, 2) := by decide +kernel
theorem dX12_alert_204 : decode cX12_alert 204 = .ok (.invokevirtual 126, 3) := by decide +kernel
theorem dX12_alert_207 : decode cX12_alert 207 = .ok (.ireturn, 1) := by decide +kernel
theorem dX12_alert_208 : decode cX12_alert 208 = .ok (.aload_n 0, 1) := by decide +kernel
theorem dX12_alert_209 : decode cX12_alert 209 = .ok (.iload 4, 2) := by decide +kernel
theorem dX12_alert_211 : decode cX12_alert 211 = .ok (.invokevirtual 113, 3) := by decide +kernel
theorem dX12_alert_214 : decode cX12_alert 214 = .ok (.ireturn, 1) := by decide +kernel
theorem dX12_alert_215 : decode cX12_alert 215 = .ok (.aload_n 0, 1) := by decide +kernel
theorem dX12_alert_216 : decode cX12_alert 216 = .ok (.iload 4, 2) := by decide +kernel
theorem dX12_alert_218 : decode cX12_alert 218 = .ok (.invokevirtual 120, 3) := by decide +kernel
theorem dX12_alert_221 : decode cX12_alert 221 = .ok (.ireturn, 1) := by decide +kernel
theorem dX12_alert_222 : decode cX12_alert 222 = .ok (.aload_n 0, 1) := by decide +kernel
theorem dX12_alert_223 : decode cX12_alert 223 = .ok (.iload 4, 2) := by decide +kernel
theorem dX12_alert_225 : decode cX12_alert 225 = .ok (.invokevirtual 132, 3) := by decide +kernel
theorem dX12_alert_228 : decode cX12_alert 228 = .ok (.ifCond .eq 7, 3) := by decide +kernel
theorem dX12_alert_231 : decode cX12_alert 231 = .ok (.iconst 1, 1) := by decide +kernel
theorem dX12_alert_232 : decode cX12_alert 232 = .ok (.goto 4, 3) := by decide +kernel
theorem dX12_alert_235 : decode cX12_alert 235 = .ok (.iconst 0, 1) := by decide +kernel
theorem dX12_alert_236 : decode cX12_alert 236 = .ok (.ireturn, 1) := by decide +kernel
theorem dX12_isOf_0 : decode cX12_isOf 0 = .ok (.iload_n 2, 1) := by decide +kernel
theorem dX12_isOf_1 : decode cX12_isOf 1 = .ok (.tableswitch 135 0 5 #[39, 54, 69, 92, 106, 129], 39) := by decide +kernel
theorem dX12_isOf_40 : decode cX12_isOf 40 = .ok (.aload_n 0, 1) := by decide +kernel
theorem dX12_isOf_41 : decode cX12_isOf 41 = .ok (.iload_n 1, 1) := by decide +kernel
theorem dX12_isOf_42 : decode cX12_isOf 42 = .ok (.invokevirtual 104, 3) := by decide +kernel
theorem dX12_isOf_45 : decode cX12_isOf 45 = .ok (.iconst 1, 1) := by decide +kernel
theorem dX12_isOf_46 : decode cX12_isOf 46 = .ok (.if_icmp .ne 7, 3) := by decide +kernel
theorem dX12_isOf_49 : decode cX12_isOf 49 = .ok (.iconst 1, 1) := by decide +kernel
theorem dX12_isOf_50 : decode cX12_isOf 50 = .ok (.goto 4, 3) := by decide +kernel
theorem dX12_isOf_53 : decode cX12_isOf 53 = .ok (.iconst 0, 1) := by decide +kernel
theorem dX12_isOf_54 : decode cX12_isOf 54 = .ok (.ireturn, 1) := by decide +kernel
theorem dX12_isOf_55 : decode cX12_isOf 55 = .ok (.aload_n 0, 1) := by decide +kernel
theorem dX12_isOf_56 : decode cX12_isOf 56 = .ok (.iload_n 1, 1) := by decide +kernel
theorem dX12_isOf_57 : decode cX12_isOf 57 = .ok (.invokevirtual 104, 3) := by decide +kernel
theorem dX12_isOf_60 : decode cX12_isOf 60 = .ok (.iconst 2, 1) := by decide +kernel
theorem dX12_isOf_61 : decode cX12_isOf 61 = .ok (.if_icmp .ne 7, 3) := by decide +kernel
theorem dX12_isOf_64 : decode cX12_isOf 64 = .ok (.iconst 1, 1) := by decide +kernel
theorem dX12_isOf_65 : decode cX12_isOf 65 = .ok (.goto 4, 3) := by decide +kernel
theorem dX12_isOf_68 : decode cX12_isOf 68 = .ok (.iconst 0, 1) := by decide +kernel
theorem dX12_isOf_69 : decode cX12_isOf 69 = .ok (.ireturn, 1) := by decide +kernel
theorem dX12_isOf_70 : decode cX12_isOf 70 = .ok (.aload_n 0, 1) := by decide +kernel
theorem dX12_isOf_71 : decode cX12_isOf 71 = .ok (.iload_n 1, 1) := by decide +kernel
theorem dX12_isOf_72 : decode cX12_isOf 72 = .ok (.invokevirtual 104, 3) := by decide +kernel
theorem dX12_isOf_75 : decode cX12_isOf 75 = .ok (.iconst 2, 1) := by decide +kernel
theorem dX12_isOf_76 : decode cX12_isOf 76 = .ok (.if_icmp .ne 15, 3) := by decide +kernel
theorem dX12_isOf_79 : decode cX12_isOf 79 = .ok (.aload_n 0, 1) := by decide +kernel
theorem dX12_isOf_80 : decode cX12_isOf 80 = .ok (.iload_n 1, 1) := by decide +kernel
theorem dX12_isOf_81 : decode cX12_isOf 81 = .ok (.invokevirtual 113, 3) := by decide +kernel
theorem dX12_isOf_84 : decode cX12_isOf 84 = .ok (.ifCond .lt 7, 3) := by decide +kernel
theorem dX12_isOf_87 : decode cX12_isOf 87 = .ok (.iconst 1, 1) := by decide +kernel
theorem dX12_isOf_88 : decode cX12_isOf 88 = .ok (.goto 4, 3) := by decide +kernel
theorem dX12_isOf_91 : decode cX12_isOf 91 = .ok (.iconst 0, 1) := by decide +kernel
theorem dX12_isOf_92 : decode cX12_isOf 92 = .ok (.ireturn, 1) := by decide +kernel
theorem dX12_isOf_93 : decode cX12_isOf 93 = .ok (.aload_n 0, 1) := by decide +kernel
theorem dX12_isOf_94 : decode cX12_isOf 94 = .ok (.iload_n 1, 1) := by decide +kernel
theorem dX12_isOf_95 : decode cX12_isOf 95 = .ok (.invokevirtual 120, 3) := by decide +kernel
theorem dX12_isOf_98 : decode cX12_isOf 98 = .ok (.ifCond .lt 7, 3) := by decide +kernel
theorem dX12_isOf_101 : decode cX12_isOf 101 = .ok (.iconst 1, 1) := by decide +kernel
theorem dX12_isOf_102 : decode cX12_isOf 102 = .ok (.goto 4, 3) := by decide +kernel
theorem dX12_isOf_105 : decode cX12_isOf 105 = .ok (.iconst 0, 1) := by decide +kernel
theorem dX12_isOf_106 : decode cX12_isOf 106 = .ok (.ireturn, 1) := by decide +kernel
theorem dX12_isOf_107 : decode cX12_isOf 107 = .ok (.aload_n 0, 1) := by decide +kernel
theorem dX12_isOf_108 : decode cX12_isOf 108 = .ok (.iload_n 1, 1) := by decide +kernel
theorem dX12_isOf_109 : decode cX12_isOf 109 = .ok (.invokevirtual 104, 3) := by decide +kernel
theorem dX12_isOf_112 : decode cX12_isOf 112 = .ok (.iconst 2, 1) := by decide +kernel
theorem dX12_isOf_113 : decode cX12_isOf 113 = .ok (.if_icmp .ne 15, 3) := by decide +kernel
theorem dX12_isOf_116 : decode cX12_isOf 116 = .ok (.aload_n 0, 1) := by decide +kernel
theorem dX12_isOf_117 : decode cX12_isOf 117 = .ok (.iload_n 1, 1) := by decide +kernel
theorem dX12_isOf_118 : decode cX12_isOf 118 = .ok (.invokevirtual 116, 3) := by decide +kernel
theorem dX12_isOf_121 : decode cX12_isOf 121 = .ok (.ifCond .eq 7, 3) := by decide +kernel
theorem dX12_isOf_124 : decode cX12_isOf 124 = .ok (.iconst 1, 1) := by decide +kernel
theorem dX12_isOf_125 : decode cX12_isOf 125 = .ok (.goto 4, 3) := by decide +kernel
theorem dX12_isOf_128 : decode cX12_isOf 128 = .ok (.iconst 0, 1) := by decide +kernel
theorem dX12_isOf_129 : decode cX12_isOf 129 = .ok (.ireturn, 1) := by decide +kernel
theorem dX12_isOf_130 : decode cX12_isOf 130 = .ok (.aload_n 0, 1) := by decide +kernel
theorem dX12_isOf_131 : decode cX12_isOf 131 = .ok (.iload_n 1, 1) := by decide +kernel
theorem dX12_isOf_132 : decode cX12_isOf 132 = .ok (.invokevirtual 123, 3) := by decide +kernel
theorem dX12_isOf_135 : decode cX12_isOf 135 = .ok (.ireturn, 1) := by decide +kernel
theorem dX12_isOf_136 : decode cX12_isOf 136 = .ok (.aload_n 0, 1) := by decide +kernel
theorem dX12_isOf_137 : decode cX12_isOf 137 = .ok (.iload_n 1, 1) := by decide +kernel
theorem dX12_isOf_138 : decode cX12_isOf 138 = .ok (.invokevirtual 132, 3) := by decide +kernel
theorem dX12_isOf_141 : decode cX12_isOf 141 = .ok (.ireturn, 1) := by decide +kernel
theorem dX12_alerts_0 : decode cX12_alerts 0 = .ok (.iload_n 1, 1) := by decide +kernel
theorem dX12_alerts_1 : decode cX12_alerts 1 = .ok (.iconst 0, 1) := by decide +kernel
theorem dX12_alerts_2 : decode cX12_alerts 2 = .ok (.bipush 6, 2) := by decide +kernel
theorem dX12_alerts_4 : decode cX12_alerts 4 = .ok (.invokestatic 35, 3) := by decide +kernel
theorem dX12_alerts_7 : decode cX12_alerts 7 = .ok (.ifCond .ne 7, 3) := by decide +kernel
theorem dX12_alerts_10 : decode cX12_alerts 10 = .ok (.ldc2_w 160, 3) := by decide +kernel
theorem dX12_alerts_13 : decode cX12_alerts 13 = .ok (.lreturn, 1) := by decide +kernel
theorem dX12_alerts_14 : decode cX12_alerts 14 = .ok (.lconst 0, 1) := by decide +kernel
theorem dX12_alerts_15 : decode cX12_alerts 15 = .ok (.lstore_n 2, 1) := by decide +kernel
theorem dX12_alerts_16 : decode cX12_alerts 16 = .ok (.iconst 0, 1) := by decide +kernel
theorem dX12_alerts_17 : decode cX12_alerts 17 = .ok (.istore 4, 2) := by decide +kernel
theorem dX12_alerts_19 : decode cX12_alerts 19 = .ok (.iload 4, 2) := by decide +kernel
theorem dX12_alerts_21 : decode cX12_alerts 21 = .ok (.bipush 60, 2) := by decide +kernel
theorem dX12_alerts_23 : decode cX12_alerts 23 = .ok (.if_icmp .ge 30, 3) := by decide +kernel
theorem dX12_alerts_26 : decode cX12_alerts 26 = .ok (.lload_n 2, 1) := by decide +kernel
theorem dX12_alerts_27 : decode cX12_alerts 27 = .ok (.aload_n 0, 1) := by decide +kernel
theorem dX12_alerts_28 : decode cX12_alerts 28 = .ok (.iload 4, 2) := by decide +kernel
theorem dX12_alerts_30 : decode cX12_alerts 30 = .ok (.iload_n 1, 1) := by decide +kernel
theorem dX12_alerts_31 : decode cX12_alerts 31 = .ok (.invokevirtual 166, 3) := by decide +kernel
theorem dX12_alerts_34 : decode cX12_alerts 34 = .ok (.ifCond .eq 10, 3) := by decide +kernel
theorem dX12_alerts_37 : decode cX12_alerts 37 = .ok (.lconst 1, 1) := by decide +kernel
theorem dX12_alerts_38 : decode cX12_alerts 38 = .ok (.iload 4, 2) := by decide +kernel
theorem dX12_alerts_40 : decode cX12_alerts 40 = .ok (.lshl, 1) := by decide +kernel
theorem dX12_alerts_41 : decode cX12_alerts 41 = .ok (.goto 4, 3) := by decide +kernel
theorem dX12_alerts_44 : decode cX12_alerts 44 = .ok (.lconst 0, 1) := by decide +kernel
theorem dX12_alerts_45 : decode cX12_alerts 45 = .ok (.lor, 1) := by decide +kernel
theorem dX12_alerts_46 : decode cX12_alerts 46 = .ok (.lstore_n 2, 1) := by decide +kernel
theorem dX12_alerts_47 : decode cX12_alerts 47 = .ok (.iinc 4 1, 3) := by decide +kernel
theorem dX12_alerts_50 : decode cX12_alerts 50 = .ok (.goto (-31), 3) := by decide +kernel
theorem dX12_alerts_53 : decode cX12_alerts 53 = .ok (.lload_n 2, 1) := by decide +kernel
theorem dX12_alerts_54 : decode cX12_alerts 54 = .ok (.lreturn, 1) := by decide +kernel
theorem dX12_later_0 : decode cX12_later 0 = .ok (.iload_n 1, 1) := by decide +kernel
theorem dX12_later_1 : decode cX12_later 1 = .ok (.aload_n 0, 1) := by decide +kernel
theorem dX12_later_2 : decode cX12_later 2 = .ok (.getfield 9, 3) := by decide +kernel
theorem dX12_later_5 : decode cX12_later 5 = .ok (.sipush 1847, 3) := by decide +kernel
theorem dX12_later_8 : decode cX12_later 8 = .ok (.iaload, 1) := by decide +kernel
theorem dX12_later_9 : decode cX12_later 9 = .ok (.if_icmp .le 7, 3) := by decide +kernel
theorem dX12_later_12 : decode cX12_later 12 = .ok (.iload_n 1, 1) := by decide +kernel
theorem dX12_later_13 : decode cX12_later 13 = .ok (.goto 13, 3) := by decide +kernel
theorem dX12_later_16 : decode cX12_later 16 = .ok (.aload_n 0, 1) := by decide +kernel
theorem dX12_later_17 : decode cX12_later 17 = .ok (.getfield 9, 3) := by decide +kernel
theorem dX12_later_20 : decode cX12_later 20 = .ok (.sipush 1847, 3) := by decide +kernel
theorem dX12_later_23 : decode cX12_later 23 = .ok (.iaload, 1) := by decide +kernel
theorem dX12_later_24 : decode cX12_later 24 = .ok (.iconst 1, 1) := by decide +kernel
theorem dX12_later_25 : decode cX12_later 25 = .ok (.iadd, 1) := by decide +kernel
theorem dX12_later_26 : decode cX12_later 26 = .ok (.ireturn, 1) := by decide +kernel
theorem dX12_group_0 : decode cX12_group 0 = .ok (.iload_n 1, 1) := by decide +kernel
theorem dX12_group_1 : decode cX12_group 1 = .ok (.iconst 0, 1) := by decide +kernel
theorem dX12_group_2 : decode cX12_group 2 = .ok (.bipush 127, 2) := by decide +kernel
theorem dX12_group_4 : decode cX12_group 4 = .ok (.invokestatic 35, 3) := by decide +kernel
theorem dX12_group_7 : decode cX12_group 7 = .ok (.ifCond .eq 12, 3) := by decide +kernel
theorem dX12_group_10 : decode cX12_group 10 = .ok (.iload_n 2, 1) := by decide +kernel
theorem dX12_group_11 : decode cX12_group 11 = .ok (.iconst 0, 1) := by decide +kernel
theorem dX12_group_12 : decode cX12_group 12 = .ok (.iconst 4, 1) := by decide +kernel
theorem dX12_group_13 : decode cX12_group 13 = .ok (.invokestatic 35, 3) := by decide +kernel
theorem dX12_group_16 : decode cX12_group 16 = .ok (.ifCond .ne 5, 3) := by decide +kernel
theorem dX12_group_19 : decode cX12_group 19 = .ok (.iconst (-1), 1) := by decide +kernel
theorem dX12_group_20 : decode cX12_group 20 = .ok (.ireturn, 1) := by decide +kernel
theorem dX12_group_21 : decode cX12_group 21 = .ok (.aload_n 0, 1) := by decide +kernel
theorem dX12_group_22 : decode cX12_group 22 = .ok (.getfield 9, 3) := by decide +kernel
theorem dX12_group_25 : decode cX12_group 25 = .ok (.sipush 1586, 3) := by decide +kernel
theorem dX12_group_28 : decode cX12_group 28 = .ok (.iconst 2, 1) := by decide +kernel
theorem dX12_group_29 : decode cX12_group 29 = .ok (.iload_n 1, 1) := by decide +kernel
theorem dX12_group_30 : decode cX12_group 30 = .ok (.imul, 1) := by decide +kernel
theorem dX12_group_31 : decode cX12_group 31 = .ok (.iadd, 1) := by decide +kernel
theorem dX12_group_32 : decode cX12_group 32 = .ok (.iaload, 1) := by decide +kernel
theorem dX12_group_33 : decode cX12_group 33 = .ok (.iconst 1, 1) := by decide +kernel
theorem dX12_group_34 : decode cX12_group 34 = .ok (.if_icmp .ne 7, 3) := by decide +kernel
theorem dX12_group_37 : decode cX12_group 37 = .ok (.iconst 1, 1) := by decide +kernel
theorem dX12_group_38 : decode cX12_group 38 = .ok (.goto 4, 3) := by decide +kernel
theorem dX12_group_41 : decode cX12_group 41 = .ok (.iconst 0, 1) := by decide +kernel
theorem dX12_group_42 : decode cX12_group 42 = .ok (.istore_n 3, 1) := by decide +kernel
theorem dX12_group_43 : decode cX12_group 43 = .ok (.aload_n 0, 1) := by decide +kernel
theorem dX12_group_44 : decode cX12_group 44 = .ok (.getfield 9, 3) := by decide +kernel
theorem dX12_group_47 : decode cX12_group 47 = .ok (.sipush 1586, 3) := by decide +kernel
theorem dX12_group_50 : decode cX12_group 50 = .ok (.iconst 2, 1) := by decide +kernel
theorem dX12_group_51 : decode cX12_group 51 = .ok (.iload_n 1, 1) := by decide +kernel
theorem dX12_group_52 : decode cX12_group 52 = .ok (.imul, 1) := by decide +kernel
theorem dX12_group_53 : decode cX12_group 53 = .ok (.iadd, 1) := by decide +kernel
theorem dX12_group_54 : decode cX12_group 54 = .ok (.iconst 1, 1) := by decide +kernel
theorem dX12_group_55 : decode cX12_group 55 = .ok (.iadd, 1) := by decide +kernel
theorem dX12_group_56 : decode cX12_group 56 = .ok (.iaload, 1) := by decide +kernel
theorem dX12_group_57 : decode cX12_group 57 = .ok (.istore 4, 2) := by decide +kernel
theorem dX12_group_59 : decode cX12_group 59 = .ok (.iload_n 2, 1) := by decide +kernel
theorem dX12_group_60 : decode cX12_group 60 = .ok (.ifCond .ne 13, 3) := by decide +kernel
theorem dX12_group_63 : decode cX12_group 63 = .ok (.iload_n 3, 1) := by decide +kernel
theorem dX12_group_64 : decode cX12_group 64 = .ok (.ifCond .eq 7, 3) := by decide +kernel
theorem dX12_group_67 : decode cX12_group 67 = .ok (.iconst 1, 1) := by decide +kernel
theorem dX12_group_68 : decode cX12_group 68 = .ok (.goto 4, 3) := by decide +kernel
theorem dX12_group_71 : decode cX12_group 71 = .ok (.iconst 0, 1) := by decide +kernel
theorem dX12_group_72 : decode cX12_group 72 = .ok (.ireturn, 1) := by decide +kernel
theorem dX12_group_73 : decode cX12_group 73 = .ok (.iload_n 2, 1) := by decide +kernel
theorem dX12_group_74 : decode cX12_group 74 = .ok (.iconst 1, 1) := by decide +kernel
theorem dX12_group_75 : decode cX12_group 75 = .ok (.if_icmp .ne 15, 3) := by decide +kernel
theorem dX12_group_78 : decode cX12_group 78 = .ok (.iload_n 3, 1) := by decide +kernel
theorem dX12_group_79 : decode cX12_group 79 = .ok (.ifCond .eq 8, 3) := by decide +kernel
theorem dX12_group_82 : decode cX12_group 82 = .ok (.iload 4, 2) := by decide +kernel
theorem dX12_group_84 : decode cX12_group 84 = .ok (.goto 5, 3) := by decide +kernel
theorem dX12_group_87 : decode cX12_group 87 = .ok (.bipush (-5), 2) := by decide +kernel
theorem dX12_group_89 : decode cX12_group 89 = .ok (.ireturn, 1) := by decide +kernel
theorem dX12_group_90 : decode cX12_group 90 = .ok (.aload_n 0, 1) := by decide +kernel
theorem dX12_group_91 : decode cX12_group 91 = .ok (.aload_n 0, 1) := by decide +kernel
theorem dX12_group_92 : decode cX12_group 92 = .ok (.invokevirtual 148, 3) := by decide +kernel
theorem dX12_group_95 : decode cX12_group 95 = .ok (.iload_n 1, 1) := by decide +kernel
theorem dX12_group_96 : decode cX12_group 96 = .ok (.invokevirtual 152, 3) := by decide +kernel
theorem dX12_group_99 : decode cX12_group 99 = .ok (.lstore 5, 2) := by decide +kernel
theorem dX12_group_101 : decode cX12_group 101 = .ok (.iload_n 3, 1) := by decide +kernel
theorem dX12_group_102 : decode cX12_group 102 = .ok (.ifCond .eq 19, 3) := by decide +kernel
theorem dX12_group_105 : decode cX12_group 105 = .ok (.lload 5, 2) := by decide +kernel
theorem dX12_group_107 : decode cX12_group 107 = .ok (.aload_n 0, 1) := by decide +kernel
theorem dX12_group_108 : decode cX12_group 108 = .ok (.getfield 19, 3) := by decide +kernel
theorem dX12_group_111 : decode cX12_group 111 = .ok (.iload_n 1, 1) := by decide +kernel
theorem dX12_group_112 : decode cX12_group 112 = .ok (.laload, 1) := by decide +kernel
theorem dX12_group_113 : decode cX12_group 113 = .ok (.ldc2_w 160, 3) := by decide +kernel
theorem dX12_group_116 : decode cX12_group 116 = .ok (.lxor, 1) := by decide +kernel
theorem dX12_group_117 : decode cX12_group 117 = .ok (.land, 1) := by decide +kernel
theorem dX12_group_118 : decode cX12_group 118 = .ok (.goto 5, 3) := by decide +kernel
theorem dX12_group_121 : decode cX12_group 121 = .ok (.lload 5, 2) := by decide +kernel
theorem dX12_group_123 : decode cX12_group 123 = .ok (.lstore 7, 2) := by decide +kernel
theorem dX12_group_125 : decode cX12_group 125 = .ok (.iload_n 2, 1) := by decide +kernel
theorem dX12_group_126 : decode cX12_group 126 = .ok (.iconst 4, 1) := by decide +kernel
theorem dX12_group_127 : decode cX12_group 127 = .ok (.if_icmp .ge 19, 3) := by decide +kernel
theorem dX12_group_130 : decode cX12_group 130 = .ok (.iload_n 2, 1) := by decide +kernel
theorem dX12_group_131 : decode cX12_group 131 = .ok (.iconst 2, 1) := by decide +kernel
theorem dX12_group_132 : decode cX12_group 132 = .ok (.if_icmp .ne 8, 3) := by decide +kernel
theorem dX12_group_135 : decode cX12_group 135 = .ok (.lload 5, 2) := by decide +kernel
theorem dX12_group_137 : decode cX12_group 137 = .ok (.goto 5, 3) := by decide +kernel
theorem dX12_group_140 : decode cX12_group 140 = .ok (.lload 7, 2) := by decide +kernel
theorem dX12_group_142 : decode cX12_group 142 = .ok (.invokestatic 138, 3) := by decide +kernel
theorem dX12_group_145 : decode cX12_group 145 = .ok (.ireturn, 1) := by decide +kernel
theorem dX12_group_146 : decode cX12_group 146 = .ok (.iload_n 3, 1) := by decide +kernel
theorem dX12_group_147 : decode cX12_group 147 = .ok (.ifCond .ne 13, 3) := by decide +kernel
theorem dX12_group_150 : decode cX12_group 150 = .ok (.lload 5, 2) := by decide +kernel
theorem dX12_group_152 : decode cX12_group 152 = .ok (.lconst 0, 1) := by decide +kernel
theorem dX12_group_153 : decode cX12_group 153 = .ok (.lcmp, 1) := by decide +kernel
theorem dX12_group_154 : decode cX12_group 154 = .ok (.ifCond .ne 6, 3) := by decide +kernel
theorem dX12_group_157 : decode cX12_group 157 = .ok (.bipush (-5), 2) := by decide +kernel
theorem dX12_group_159 : decode cX12_group 159 = .ok (.ireturn, 1) := by decide +kernel
theorem dX12_group_160 : decode cX12_group 160 = .ok (.iload_n 3, 1) := by decide +kernel
theorem dX12_group_161 : decode cX12_group 161 = .ok (.ifCond .eq 10, 3) := by decide +kernel
theorem dX12_group_164 : decode cX12_group 164 = .ok (.lload 5, 2) := by decide +kernel
theorem dX12_group_166 : decode cX12_group 166 = .ok (.lconst 0, 1) := by decide +kernel
theorem dX12_group_167 : decode cX12_group 167 = .ok (.lcmp, 1) := by decide +kernel
theorem dX12_group_168 : decode cX12_group 168 = .ok (.ifCond .ne 14, 3) := by decide +kernel
theorem dX12_group_171 : decode cX12_group 171 = .ok (.aload_n 0, 1) := by decide +kernel
theorem dX12_group_172 : decode cX12_group 172 = .ok (.getfield 9, 3) := by decide +kernel
theorem dX12_group_175 : decode cX12_group 175 = .ok (.sipush 1847, 3) := by decide +kernel
theorem dX12_group_178 : decode cX12_group 178 = .ok (.iaload, 1) := by decide +kernel
theorem dX12_group_179 : decode cX12_group 179 = .ok (.iconst 1, 1) := by decide +kernel
theorem dX12_group_180 : decode cX12_group 180 = .ok (.iadd, 1) := by decide +kernel
theorem dX12_group_181 : decode cX12_group 181 = .ok (.ireturn, 1) := by decide +kernel
theorem dX12_group_182 : decode cX12_group 182 = .ok (.aload_n 0, 1) := by decide +kernel
theorem dX12_group_183 : decode cX12_group 183 = .ok (.iload 4, 2) := by decide +kernel
theorem dX12_group_185 : decode cX12_group 185 = .ok (.aload_n 0, 1) := by decide +kernel
theorem dX12_group_186 : decode cX12_group 186 = .ok (.getfield 9, 3) := by decide +kernel
theorem dX12_group_189 : decode cX12_group 189 = .ok (.sipush 1843, 3) := by decide +kernel
theorem dX12_group_192 : decode cX12_group 192 = .ok (.iaload, 1) := by decide +kernel
theorem dX12_group_193 : decode cX12_group 193 = .ok (.iadd, 1) := by decide +kernel
theorem dX12_group_194 : decode cX12_group 194 = .ok (.invokevirtual 169, 3) := by decide +kernel
theorem dX12_group_197 : decode cX12_group 197 = .ok (.istore 9, 2) := by decide +kernel
theorem dX12_group_199 : decode cX12_group 199 = .ok (.aload_n 0, 1) := by decide +kernel
theorem dX12_group_200 : decode cX12_group 200 = .ok (.iload 4, 2) := by decide +kernel
theorem dX12_group_202 : decode cX12_group 202 = .ok (.aload_n 0, 1) := by decide +kernel
theorem dX12_group_203 : decode cX12_group 203 = .ok (.getfield 9, 3) := by decide +kernel
theorem dX12_group_206 : decode cX12_group 206 = .ok (.sipush 1842, 3) := by decide +kernel
theorem dX12_group_209 : decode cX12_group 209 = .ok (.iaload, 1) := by decide +kernel
theorem dX12_group_210 : decode cX12_group 210 = .ok (.iadd, 1) := by decide +kernel
theorem dX12_group_211 : decode cX12_group 211 = .ok (.invokevirtual 169, 3) := by decide +kernel
theorem dX12_group_214 : decode cX12_group 214 = .ok (.istore 10, 2) := by decide +kernel
theorem dX12_group_216 : decode cX12_group 216 = .ok (.lload 7, 2) := by decide +kernel
theorem dX12_group_218 : decode cX12_group 218 = .ok (.lconst 0, 1) := by decide +kernel
theorem dX12_group_219 : decode cX12_group 219 = .ok (.lcmp, 1) := by decide +kernel
theorem dX12_group_220 : decode cX12_group 220 = .ok (.ifCond .eq 15, 3) := by decide +kernel
theorem dX12_group_223 : decode cX12_group 223 = .ok (.iload 10, 2) := by decide +kernel
theorem dX12_group_225 : decode cX12_group 225 = .ok (.iload 9, 2) := by decide +kernel
theorem dX12_group_227 : decode cX12_group 227 = .ok (.if_icmp .ge 8, 3) := by decide +kernel
theorem dX12_group_230 : decode cX12_group 230 = .ok (.iload 10, 2) := by decide +kernel
theorem dX12_group_232 : decode cX12_group 232 = .ok (.goto 5, 3) := by decide +kernel
theorem dX12_group_235 : decode cX12_group 235 = .ok (.iload 9, 2) := by decide +kernel
theorem dX12_group_237 : decode cX12_group 237 = .ok (.ireturn, 1) := by decide +kernel
theorem dX12_key_0 : decode cX12_key 0 = .ok (.aload_n 0, 1) := by decide +kernel
theorem dX12_key_1 : decode cX12_key 1 = .ok (.invokevirtual 148, 3) := by decide +kernel
theorem dX12_key_4 : decode cX12_key 4 = .ok (.lstore_n 2, 1) := by decide +kernel
theorem dX12_key_5 : decode cX12_key 5 = .ok (.iconst 0, 1) := by decide +kernel
theorem dX12_key_6 : decode cX12_key 6 = .ok (.istore 4, 2) := by decide +kernel
theorem dX12_key_8 : decode cX12_key 8 = .ok (.iconst 0, 1) := by decide +kernel
theorem dX12_key_9 : decode cX12_key 9 = .ok (.istore 5, 2) := by decide +kernel
theorem dX12_key_11 : decode cX12_key 11 = .ok (.iload 5, 2) := by decide +kernel
theorem dX12_key_13 : decode cX12_key 13 = .ok (.sipush 128, 3) := by decide +kernel
theorem dX12_key_16 : decode cX12_key 16 = .ok (.if_icmp .ge 36, 3) := by decide +kernel
theorem dX12_key_19 : decode cX12_key 19 = .ok (.aload_n 0, 1) := by decide +kernel
theorem dX12_key_20 : decode cX12_key 20 = .ok (.lload_n 2, 1) := by decide +kernel
theorem dX12_key_21 : decode cX12_key 21 = .ok (.iload 5, 2) := by decide +kernel
theorem dX12_key_23 : decode cX12_key 23 = .ok (.invokevirtual 152, 3) := by decide +kernel
theorem dX12_key_26 : decode cX12_key 26 = .ok (.lconst 0, 1) := by decide +kernel
theorem dX12_key_27 : decode cX12_key 27 = .ok (.lcmp, 1) := by decide +kernel
theorem dX12_key_28 : decode cX12_key 28 = .ok (.ifCond .ne 6, 3) := by decide +kernel
theorem dX12_key_31 : decode cX12_key 31 = .ok (.goto 15, 3) := by decide +kernel
theorem dX12_key_34 : decode cX12_key 34 = .ok (.iload 4, 2) := by decide +kernel
theorem dX12_key_36 : decode cX12_key 36 = .ok (.iload_n 1, 1) := by decide +kernel
theorem dX12_key_37 : decode cX12_key 37 = .ok (.if_icmp .ne 6, 3) := by decide +kernel
theorem dX12_key_40 : decode cX12_key 40 = .ok (.iload 5, 2) := by decide +kernel
theorem dX12_key_42 : decode cX12_key 42 = .ok (.ireturn, 1) := by decide +kernel
theorem dX12_key_43 : decode cX12_key 43 = .ok (.iinc 4 1, 3) := by decide +kernel
theorem dX12_key_46 : decode cX12_key 46 = .ok (.iinc 5 1, 3) := by decide +kernel
theorem dX12_key_49 : decode cX12_key 49 = .ok (.goto (-38), 3) := by decide +kernel
theorem dX12_key_52 : decode cX12_key 52 = .ok (.iload_n 1, 1) := by decide +kernel
theorem dX12_key_53 : decode cX12_key 53 = .ok (.iconst (-1), 1) := by decide +kernel
theorem dX12_key_54 : decode cX12_key 54 = .ok (.if_icmp .ne 8, 3) := by decide +kernel
theorem dX12_key_57 : decode cX12_key 57 = .ok (.iload 4, 2) := by decide +kernel
theorem dX12_key_59 : decode cX12_key 59 = .ok (.goto 4, 3) := by decide +kernel
theorem dX12_key_62 : decode cX12_key 62 = .ok (.iconst (-1), 1) := by decide +kernel
theorem dX12_key_63 : decode cX12_key 63 = .ok (.ireturn, 1) := by decide +kernel
theorem dX12_sent_0 : decode cX12_sent 0 = .ok (.aload_n 0, 1) := by decide +kernel
theorem dX12_sent_1 : decode cX12_sent 1 = .ok (.getfield 9, 3) := by decide +kernel
theorem dX12_sent_4 : decode cX12_sent 4 = .ok (.sipush 1848, 3) := by decide +kernel
theorem dX12_sent_7 : decode cX12_sent 7 = .ok (.iaload, 1) := by decide +kernel
theorem dX12_sent_8 : decode cX12_sent 8 = .ok (.bipush 30, 2) := by decide +kernel
theorem dX12_sent_10 : decode cX12_sent 10 = .ok (.if_icmp .ge 14, 3) := by decide +kernel
theorem dX12_sent_13 : decode cX12_sent 13 = .ok (.aload_n 0, 1) := by decide +kernel
theorem dX12_sent_14 : decode cX12_sent 14 = .ok (.getfield 9, 3) := by decide +kernel
theorem dX12_sent_17 : decode cX12_sent 17 = .ok (.sipush 1848, 3) := by decide +kernel
theorem dX12_sent_20 : decode cX12_sent 20 = .ok (.iaload, 1) := by decide +kernel
theorem dX12_sent_21 : decode cX12_sent 21 = .ok (.goto 5, 3) := by decide +kernel
theorem dX12_sent_24 : decode cX12_sent 24 = .ok (.bipush 30, 2) := by decide +kernel
theorem dX12_sent_26 : decode cX12_sent 26 = .ok (.istore_n 3, 1) := by decide +kernel
theorem dX12_sent_27 : decode cX12_sent 27 = .ok (.iload_n 1, 1) := by decide +kernel
theorem dX12_sent_28 : decode cX12_sent 28 = .ok (.iconst 0, 1) := by decide +kernel
theorem dX12_sent_29 : decode cX12_sent 29 = .ok (.iload_n 3, 1) := by decide +kernel
theorem dX12_sent_30 : decode cX12_sent 30 = .ok (.iconst 1, 1) := by decide +kernel
theorem dX12_sent_31 : decode cX12_sent 31 = .ok (.isub, 1) := by decide +kernel
theorem dX12_sent_32 : decode cX12_sent 32 = .ok (.invokestatic 35, 3) := by decide +kernel
theorem dX12_sent_35 : decode cX12_sent 35 = .ok (.ifCond .eq 29, 3) := by decide +kernel
theorem dX12_sent_38 : decode cX12_sent 38 = .ok (.iload_n 2, 1) := by decide +kernel
theorem dX12_sent_39 : decode cX12_sent 39 = .ok (.iconst 0, 1) := by decide +kernel
theorem dX12_sent_40 : decode cX12_sent 40 = .ok (.iconst 4, 1) := by decide +kernel
theorem dX12_sent_41 : decode cX12_sent 41 = .ok (.invokestatic 35, 3) := by decide +kernel
theorem dX12_sent_44 : decode cX12_sent 44 = .ok (.ifCond .eq 20, 3) := by decide +kernel
theorem dX12_sent_47 : decode cX12_sent 47 = .ok (.aload_n 0, 1) := by decide +kernel
theorem dX12_sent_48 : decode cX12_sent 48 = .ok (.getfield 9, 3) := by decide +kernel
theorem dX12_sent_51 : decode cX12_sent 51 = .ok (.sipush 1849, 3) := by decide +kernel
theorem dX12_sent_54 : decode cX12_sent 54 = .ok (.iconst 5, 1) := by decide +kernel
theorem dX12_sent_55 : decode cX12_sent 55 = .ok (.iload_n 1, 1) := by decide +kernel
theorem dX12_sent_56 : decode cX12_sent 56 = .ok (.imul, 1) := by decide +kernel
theorem dX12_sent_57 : decode cX12_sent 57 = .ok (.iadd, 1) := by decide +kernel
theorem dX12_sent_58 : decode cX12_sent 58 = .ok (.iload_n 2, 1) := by decide +kernel
theorem dX12_sent_59 : decode cX12_sent 59 = .ok (.iadd, 1) := by decide +kernel
theorem dX12_sent_60 : decode cX12_sent 60 = .ok (.iaload, 1) := by decide +kernel
theorem dX12_sent_61 : decode cX12_sent 61 = .ok (.goto 4, 3) := by decide +kernel
theorem dX12_sent_64 : decode cX12_sent 64 = .ok (.iconst (-1), 1) := by decide +kernel
theorem dX12_sent_65 : decode cX12_sent 65 = .ok (.ireturn, 1) := by decide +kernel
theorem dX12_looks_0 : decode cX12_looks 0 = .ok (.aload_n 0, 1) := by decide +kernel
theorem dX12_looks_1 : decode cX12_looks 1 = .ok (.getfield 9, 3) := by decide +kernel
theorem dX12_looks_4 : decode cX12_looks 4 = .ok (.aload_n 0, 1) := by decide +kernel
theorem dX12_looks_5 : decode cX12_looks 5 = .ok (.getfield 16, 3) := by decide +kernel
theorem dX12_looks_8 : decode cX12_looks 8 = .ok (.aload_n 0, 1) := by decide +kernel
theorem dX12_looks_9 : decode cX12_looks 9 = .ok (.getfield 19, 3) := by decide +kernel
theorem dX12_looks_12 : decode cX12_looks 12 = .ok (.aload_n 0, 1) := by decide +kernel
theorem dX12_looks_13 : decode cX12_looks 13 = .ok (.getfield 26, 3) := by decide +kernel
theorem dX12_looks_16 : decode cX12_looks 16 = .ok (.invokestatic 172, 3) := by decide +kernel
theorem dX12_looks_19 : decode cX12_looks 19 = .ok (.iconst 0, 1) := by decide +kernel
theorem dX12_looks_20 : decode cX12_looks 20 = .ok (.istore_n 3, 1) := by decide +kernel
theorem dX12_looks_21 : decode cX12_looks 21 = .ok (.bipush (-5), 2) := by decide +kernel
theorem dX12_looks_23 : decode cX12_looks 23 = .ok (.istore 4, 2) := by decide +kernel
theorem dX12_looks_25 : decode cX12_looks 25 = .ok (.iconst 0, 1) := by decide +kernel
theorem dX12_looks_26 : decode cX12_looks 26 = .ok (.istore 5, 2) := by decide +kernel
theorem dX12_looks_28 : decode cX12_looks 28 = .ok (.iload 5, 2) := by decide +kernel
theorem dX12_looks_30 : decode cX12_looks 30 = .ok (.iload_n 1, 1) := by decide +kernel
theorem dX12_looks_31 : decode cX12_looks 31 = .ok (.if_icmp .ge 48, 3) := by decide +kernel
theorem dX12_looks_34 : decode cX12_looks 34 = .ok (.iload_n 2, 1) := by decide +kernel
theorem dX12_looks_35 : decode cX12_looks 35 = .ok (.ifCond .eq 7, 3) := by decide +kernel
theorem dX12_looks_38 : decode cX12_looks 38 = .ok (.iload_n 3, 1) := by decide +kernel
theorem dX12_looks_39 : decode cX12_looks 39 = .ok (.ifCond .ne 40, 3) := by decide +kernel
theorem dX12_looks_42 : decode cX12_looks 42 = .ok (.iload_n 3, 1) := by decide +kernel
theorem dX12_looks_43 : decode cX12_looks 43 = .ok (.aload_n 0, 1) := by decide +kernel
theorem dX12_looks_44 : decode cX12_looks 44 = .ok (.invokevirtual 163, 3) := by decide +kernel
theorem dX12_looks_47 : decode cX12_looks 47 = .ok (.iadd, 1) := by decide +kernel
theorem dX12_looks_48 : decode cX12_looks 48 = .ok (.istore_n 3, 1) := by decide +kernel
theorem dX12_looks_49 : decode cX12_looks 49 = .ok (.iload_n 3, 1) := by decide +kernel
theorem dX12_looks_50 : decode cX12_looks 50 = .ok (.ifCond .le 19, 3) := by decide +kernel
theorem dX12_looks_53 : decode cX12_looks 53 = .ok (.iload 4, 2) := by decide +kernel
theorem dX12_looks_55 : decode cX12_looks 55 = .ok (.ifCond .ge 14, 3) := by decide +kernel
theorem dX12_looks_58 : decode cX12_looks 58 = .ok (.aload_n 0, 1) := by decide +kernel
theorem dX12_looks_59 : decode cX12_looks 59 = .ok (.getfield 9, 3) := by decide +kernel
theorem dX12_looks_62 : decode cX12_looks 62 = .ok (.sipush 1847, 3) := by decide +kernel
theorem dX12_looks_65 : decode cX12_looks 65 = .ok (.iaload, 1) := by decide +kernel
theorem dX12_looks_66 : decode cX12_looks 66 = .ok (.goto 5, 3) := by decide +kernel
theorem dX12_looks_69 : decode cX12_looks 69 = .ok (.iload 4, 2) := by decide +kernel
theorem dX12_looks_71 : decode cX12_looks 71 = .ok (.istore 4, 2) := by decide +kernel
theorem dX12_looks_73 : decode cX12_looks 73 = .ok (.iinc 5 1, 3) := by decide +kernel
theorem dX12_looks_76 : decode cX12_looks 76 = .ok (.goto (-48), 3) := by decide +kernel
theorem dX12_looks_79 : decode cX12_looks 79 = .ok (.aload_n 0, 1) := by decide +kernel
theorem dX12_looks_80 : decode cX12_looks 80 = .ok (.getfield 16, 3) := by decide +kernel
theorem dX12_looks_83 : decode cX12_looks 83 = .ok (.aload_n 0, 1) := by decide +kernel
theorem dX12_looks_84 : decode cX12_looks 84 = .ok (.getfield 9, 3) := by decide +kernel
theorem dX12_looks_87 : decode cX12_looks 87 = .ok (.aload_n 0, 1) := by decide +kernel
theorem dX12_looks_88 : decode cX12_looks 88 = .ok (.getfield 26, 3) := by decide +kernel
theorem dX12_looks_91 : decode cX12_looks 91 = .ok (.aload_n 0, 1) := by decide +kernel
theorem dX12_looks_92 : decode cX12_looks 92 = .ok (.getfield 19, 3) := by decide +kernel
theorem dX12_looks_95 : decode cX12_looks 95 = .ok (.invokestatic 172, 3) := by decide +kernel
theorem dX12_looks_98 : decode cX12_looks 98 = .ok (.iload_n 2, 1) := by decide +kernel
theorem dX12_looks_99 : decode cX12_looks 99 = .ok (.ifCond .eq 8, 3) := by decide +kernel
theorem dX12_looks_102 : decode cX12_looks 102 = .ok (.iload 4, 2) := by decide +kernel
theorem dX12_looks_104 : decode cX12_looks 104 = .ok (.goto 4, 3) := by decide +kernel
theorem dX12_looks_107 : decode cX12_looks 107 = .ok (.iload_n 3, 1) := by decide +kernel
theorem dX12_looks_108 : decode cX12_looks 108 = .ok (.ireturn, 1) := by decide +kernel
theorem dX12_ahead_0 : decode cX12_ahead 0 = .ok (.iload_n 1, 1) := by decide +kernel
theorem dX12_ahead_1 : decode cX12_ahead 1 = .ok (.iconst 1, 1) := by decide +kernel
theorem dX12_ahead_2 : decode cX12_ahead 2 = .ok (.bipush 100, 2) := by decide +kernel
theorem dX12_ahead_4 : decode cX12_ahead 4 = .ok (.invokestatic 35, 3) := by decide +kernel
theorem dX12_ahead_7 : decode cX12_ahead 7 = .ok (.ifCond .eq 12, 3) := by decide +kernel
theorem dX12_ahead_10 : decode cX12_ahead 10 = .ok (.aload_n 0, 1) := by decide +kernel
theorem dX12_ahead_11 : decode cX12_ahead 11 = .ok (.iload_n 1, 1) := by decide +kernel
theorem dX12_ahead_12 : decode cX12_ahead 12 = .ok (.iconst 0, 1) := by decide +kernel
theorem dX12_ahead_13 : decode cX12_ahead 13 = .ok (.invokevirtual 176, 3) := by decide +kernel
theorem dX12_ahead_16 : decode cX12_ahead 16 = .ok (.goto 5, 3) := by decide +kernel
theorem dX12_ahead_19 : decode cX12_ahead 19 = .ok (.bipush (-2), 2) := by decide +kernel
theorem dX12_ahead_21 : decode cX12_ahead 21 = .ok (.ireturn, 1) := by decide +kernel
theorem dX12_next_0 : decode cX12_next 0 = .ok (.iload_n 1, 1) := by decide +kernel
theorem dX12_next_1 : decode cX12_next 1 = .ok (.iconst 1, 1) := by decide +kernel
theorem dX12_next_2 : decode cX12_next 2 = .ok (.bipush 100, 2) := by decide +kernel
theorem dX12_next_4 : decode cX12_next 4 = .ok (.invokestatic 35, 3) := by decide +kernel
theorem dX12_next_7 : decode cX12_next 7 = .ok (.ifCond .eq 12, 3) := by decide +kernel
theorem dX12_next_10 : decode cX12_next 10 = .ok (.aload_n 0, 1) := by decide +kernel
theorem dX12_next_11 : decode cX12_next 11 = .ok (.iload_n 1, 1) := by decide +kernel
theorem dX12_next_12 : decode cX12_next 12 = .ok (.iconst 1, 1) := by decide +kernel
theorem dX12_next_13 : decode cX12_next 13 = .ok (.invokevirtual 176, 3) := by decide +kernel
theorem dX12_next_16 : decode cX12_next 16 = .ok (.goto 5, 3) := by decide +kernel
theorem dX12_next_19 : decode cX12_next 19 = .ok (.bipush (-2), 2) := by decide +kernel
theorem dX12_next_21 : decode cX12_next 21 = .ok (.ireturn, 1) := by decide +kernel
theorem dX12_saved_0 : decode cX12_saved 0 = .ok (.aload_n 0, 1) := by decide +kernel
theorem dX12_saved_1 : decode cX12_saved 1 = .ok (.iconst 1, 1) := by decide +kernel
theorem dX12_saved_2 : decode cX12_saved 2 = .ok (.iload_n 1, 1) := by decide +kernel
theorem dX12_saved_3 : decode cX12_saved 3 = .ok (.invokevirtual 82, 3) := by decide +kernel
theorem dX12_saved_6 : decode cX12_saved 6 = .ok (.ifCond .ne 5, 3) := by decide +kernel
theorem dX12_saved_9 : decode cX12_saved 9 = .ok (.iconst (-1), 1) := by decide +kernel
theorem dX12_saved_10 : decode cX12_saved 10 = .ok (.ireturn, 1) := by decide +kernel
theorem dX12_saved_11 : decode cX12_saved 11 = .ok (.iload_n 2, 1) := by decide +kernel
theorem dX12_saved_12 : decode cX12_saved 12 = .ok (.iconst 1, 1) := by decide +kernel
theorem dX12_saved_13 : decode cX12_saved 13 = .ok (.bipush 100, 2) := by decide +kernel
theorem dX12_saved_15 : decode cX12_saved 15 = .ok (.invokestatic 35, 3) := by decide +kernel
theorem dX12_saved_18 : decode cX12_saved 18 = .ok (.ifCond .ne 6, 3) := by decide +kernel
theorem dX12_saved_21 : decode cX12_saved 21 = .ok (.bipush (-2), 2) := by decide +kernel
theorem dX12_saved_23 : decode cX12_saved 23 = .ok (.ireturn, 1) := by decide +kernel
theorem dX12_saved_24 : decode cX12_saved 24 = .ok (.aload_n 0, 1) := by decide +kernel
theorem dX12_saved_25 : decode cX12_saved 25 = .ok (.iload_n 2, 1) := by decide +kernel
theorem dX12_saved_26 : decode cX12_saved 26 = .ok (.iconst 0, 1) := by decide +kernel
theorem dX12_saved_27 : decode cX12_saved 27 = .ok (.invokevirtual 176, 3) := by decide +kernel
theorem dX12_saved_30 : decode cX12_saved 30 = .ok (.istore_n 3, 1) := by decide +kernel
theorem dX12_saved_31 : decode cX12_saved 31 = .ok (.aload_n 0, 1) := by decide +kernel
theorem dX12_saved_32 : decode cX12_saved 32 = .ok (.getfield 9, 3) := by decide +kernel
theorem dX12_saved_35 : decode cX12_saved 35 = .ok (.bipush 110, 2) := by decide +kernel
theorem dX12_saved_37 : decode cX12_saved 37 = .ok (.bipush 8, 2) := by decide +kernel
theorem dX12_saved_39 : decode cX12_saved 39 = .ok (.iload_n 1, 1) := by decide +kernel
theorem dX12_saved_40 : decode cX12_saved 40 = .ok (.imul, 1) := by decide +kernel
theorem dX12_saved_41 : decode cX12_saved 41 = .ok (.iadd, 1) := by decide +kernel
end
section
theorem dX12_saved_42 : decode cX12_saved 42 = .ok (.iconst 0, 1) := by decide +kernel
theorem dX12_saved_43 : decode cX12_saved 43 = .ok (.iastore, 1) := by decide +kernel
theorem dX12_saved_44 : decode cX12_saved 44 = .ok (.aload_n 0, 1) := by decide +kernel
theorem dX12_saved_45 : decode cX12_saved 45 = .ok (.iload_n 2, 1) := by decide +kernel
theorem dX12_saved_46 : decode cX12_saved 46 = .ok (.iconst 0, 1) := by decide +kernel
theorem dX12_saved_47 : decode cX12_saved 47 = .ok (.invokevirtual 176, 3) := by decide +kernel
theorem dX12_saved_50 : decode cX12_saved 50 = .ok (.istore 4, 2) := by decide +kernel
theorem dX12_saved_52 : decode cX12_saved 52 = .ok (.aload_n 0, 1) := by decide +kernel
theorem dX12_saved_53 : decode cX12_saved 53 = .ok (.getfield 9, 3) := by decide +kernel
theorem dX12_saved_56 : decode cX12_saved 56 = .ok (.bipush 110, 2) := by decide +kernel
theorem dX12_saved_58 : decode cX12_saved 58 = .ok (.bipush 8, 2) := by decide +kernel
theorem dX12_saved_60 : decode cX12_saved 60 = .ok (.iload_n 1, 1) := by decide +kernel
theorem dX12_saved_61 : decode cX12_saved 61 = .ok (.imul, 1) := by decide +kernel
theorem dX12_saved_62 : decode cX12_saved 62 = .ok (.iadd, 1) := by decide +kernel
theorem dX12_saved_63 : decode cX12_saved 63 = .ok (.iconst 1, 1) := by decide +kernel
theorem dX12_saved_64 : decode cX12_saved 64 = .ok (.iastore, 1) := by decide +kernel
theorem dX12_saved_65 : decode cX12_saved 65 = .ok (.iload 4, 2) := by decide +kernel
theorem dX12_saved_67 : decode cX12_saved 67 = .ok (.iload_n 3, 1) := by decide +kernel
theorem dX12_saved_68 : decode cX12_saved 68 = .ok (.isub, 1) := by decide +kernel
theorem dX12_saved_69 : decode cX12_saved 69 = .ok (.sipush 1000, 3) := by decide +kernel
theorem dX12_saved_72 : decode cX12_saved 72 = .ok (.iadd, 1) := by decide +kernel
theorem dX12_saved_73 : decode cX12_saved 73 = .ok (.ireturn, 1) := by decide +kernel
theorem dX12_image_0 : decode cX12_image 0 = .ok (.aload_n 0, 1) := by decide +kernel
theorem dX12_image_1 : decode cX12_image 1 = .ok (.getfield 9, 3) := by decide +kernel
theorem dX12_image_4 : decode cX12_image 4 = .ok (.aload_n 0, 1) := by decide +kernel
theorem dX12_image_5 : decode cX12_image 5 = .ok (.getfield 13, 3) := by decide +kernel
theorem dX12_image_8 : decode cX12_image 8 = .ok (.aload_n 0, 1) := by decide +kernel
theorem dX12_image_9 : decode cX12_image 9 = .ok (.getfield 19, 3) := by decide +kernel
theorem dX12_image_12 : decode cX12_image 12 = .ok (.aload_n 0, 1) := by decide +kernel
theorem dX12_image_13 : decode cX12_image 13 = .ok (.getfield 23, 3) := by decide +kernel
theorem dX12_image_16 : decode cX12_image 16 = .ok (.invokestatic 172, 3) := by decide +kernel
theorem dX12_image_19 : decode cX12_image 19 = .ok (.aload_n 0, 1) := by decide +kernel
theorem dX12_image_20 : decode cX12_image 20 = .ok (.iconst 1, 1) := by decide +kernel
theorem dX12_image_21 : decode cX12_image 21 = .ok (.putfield 180, 3) := by decide +kernel
theorem dX12_image_24 : decode cX12_image 24 = .ok (.aload_n 0, 1) := by decide +kernel
theorem dX12_image_25 : decode cX12_image 25 = .ok (.getfield 9, 3) := by decide +kernel
theorem dX12_image_28 : decode cX12_image 28 = .ok (.sipush 1847, 3) := by decide +kernel
theorem dX12_image_31 : decode cX12_image 31 = .ok (.iaload, 1) := by decide +kernel
theorem dX12_image_32 : decode cX12_image 32 = .ok (.ireturn, 1) := by decide +kernel
theorem dX12_undo_0 : decode cX12_undo 0 = .ok (.aload_n 0, 1) := by decide +kernel
theorem dX12_undo_1 : decode cX12_undo 1 = .ok (.getfield 180, 3) := by decide +kernel
theorem dX12_undo_4 : decode cX12_undo 4 = .ok (.ifCond .ne 6, 3) := by decide +kernel
theorem dX12_undo_7 : decode cX12_undo 7 = .ok (.bipush (-3), 2) := by decide +kernel
theorem dX12_undo_9 : decode cX12_undo 9 = .ok (.ireturn, 1) := by decide +kernel
theorem dX12_undo_10 : decode cX12_undo 10 = .ok (.aload_n 0, 1) := by decide +kernel
theorem dX12_undo_11 : decode cX12_undo 11 = .ok (.getfield 13, 3) := by decide +kernel
theorem dX12_undo_14 : decode cX12_undo 14 = .ok (.aload_n 0, 1) := by decide +kernel
theorem dX12_undo_15 : decode cX12_undo 15 = .ok (.getfield 9, 3) := by decide +kernel
theorem dX12_undo_18 : decode cX12_undo 18 = .ok (.aload_n 0, 1) := by decide +kernel
theorem dX12_undo_19 : decode cX12_undo 19 = .ok (.getfield 23, 3) := by decide +kernel
theorem dX12_undo_22 : decode cX12_undo 22 = .ok (.aload_n 0, 1) := by decide +kernel
theorem dX12_undo_23 : decode cX12_undo 23 = .ok (.getfield 19, 3) := by decide +kernel
theorem dX12_undo_26 : decode cX12_undo 26 = .ok (.invokestatic 172, 3) := by decide +kernel
theorem dX12_undo_29 : decode cX12_undo 29 = .ok (.aload_n 0, 1) := by decide +kernel
theorem dX12_undo_30 : decode cX12_undo 30 = .ok (.getfield 9, 3) := by decide +kernel
theorem dX12_undo_33 : decode cX12_undo 33 = .ok (.sipush 1847, 3) := by decide +kernel
theorem dX12_undo_36 : decode cX12_undo 36 = .ok (.iaload, 1) := by decide +kernel
theorem dX12_undo_37 : decode cX12_undo 37 = .ok (.ireturn, 1) := by decide +kernel
theorem dX12_silencing_0 : decode cX12_silencing 0 = .ok (.iconst 0, 1) := by decide +kernel
theorem dX12_silencing_1 : decode cX12_silencing 1 = .ok (.istore_n 1, 1) := by decide +kernel
theorem dX12_silencing_2 : decode cX12_silencing 2 = .ok (.iconst 0, 1) := by decide +kernel
theorem dX12_silencing_3 : decode cX12_silencing 3 = .ok (.istore_n 2, 1) := by decide +kernel
theorem dX12_silencing_4 : decode cX12_silencing 4 = .ok (.iload_n 2, 1) := by decide +kernel
theorem dX12_silencing_5 : decode cX12_silencing 5 = .ok (.bipush 6, 2) := by decide +kernel
theorem dX12_silencing_7 : decode cX12_silencing 7 = .ok (.if_icmp .ge 67, 3) := by decide +kernel
theorem dX12_silencing_10 : decode cX12_silencing 10 = .ok (.iconst 0, 1) := by decide +kernel
theorem dX12_silencing_11 : decode cX12_silencing 11 = .ok (.istore_n 3, 1) := by decide +kernel
theorem dX12_silencing_12 : decode cX12_silencing 12 = .ok (.iconst 0, 1) := by decide +kernel
theorem dX12_silencing_13 : decode cX12_silencing 13 = .ok (.istore 4, 2) := by decide +kernel
theorem dX12_silencing_15 : decode cX12_silencing 15 = .ok (.iload 4, 2) := by decide +kernel
theorem dX12_silencing_17 : decode cX12_silencing 17 = .ok (.bipush 60, 2) := by decide +kernel
theorem dX12_silencing_19 : decode cX12_silencing 19 = .ok (.if_icmp .ge 37, 3) := by decide +kernel
theorem dX12_silencing_22 : decode cX12_silencing 22 = .ok (.iload_n 3, 1) := by decide +kernel
theorem dX12_silencing_23 : decode cX12_silencing 23 = .ok (.aload_n 0, 1) := by decide +kernel
theorem dX12_silencing_24 : decode cX12_silencing 24 = .ok (.iload 4, 2) := by decide +kernel
theorem dX12_silencing_26 : decode cX12_silencing 26 = .ok (.invokevirtual 104, 3) := by decide +kernel
theorem dX12_silencing_29 : decode cX12_silencing 29 = .ok (.iconst 2, 1) := by decide +kernel
theorem dX12_silencing_30 : decode cX12_silencing 30 = .ok (.if_icmp .ne 17, 3) := by decide +kernel
theorem dX12_silencing_33 : decode cX12_silencing 33 = .ok (.aload_n 0, 1) := by decide +kernel
theorem dX12_silencing_34 : decode cX12_silencing 34 = .ok (.iload 4, 2) := by decide +kernel
theorem dX12_silencing_36 : decode cX12_silencing 36 = .ok (.iload_n 2, 1) := by decide +kernel
theorem dX12_silencing_37 : decode cX12_silencing 37 = .ok (.invokevirtual 101, 3) := by decide +kernel
theorem dX12_silencing_40 : decode cX12_silencing 40 = .ok (.ifCond .eq 7, 3) := by decide +kernel
theorem dX12_silencing_43 : decode cX12_silencing 43 = .ok (.iconst 1, 1) := by decide +kernel
theorem dX12_silencing_44 : decode cX12_silencing 44 = .ok (.goto 4, 3) := by decide +kernel
theorem dX12_silencing_47 : decode cX12_silencing 47 = .ok (.iconst 0, 1) := by decide +kernel
theorem dX12_silencing_48 : decode cX12_silencing 48 = .ok (.ior, 1) := by decide +kernel
theorem dX12_silencing_49 : decode cX12_silencing 49 = .ok (.istore_n 3, 1) := by decide +kernel
theorem dX12_silencing_50 : decode cX12_silencing 50 = .ok (.iinc 4 1, 3) := by decide +kernel
theorem dX12_silencing_53 : decode cX12_silencing 53 = .ok (.goto (-38), 3) := by decide +kernel
theorem dX12_silencing_56 : decode cX12_silencing 56 = .ok (.iload_n 1, 1) := by decide +kernel
theorem dX12_silencing_57 : decode cX12_silencing 57 = .ok (.iload_n 3, 1) := by decide +kernel
theorem dX12_silencing_58 : decode cX12_silencing 58 = .ok (.ifCond .eq 7, 3) := by decide +kernel
theorem dX12_silencing_61 : decode cX12_silencing 61 = .ok (.iconst 1, 1) := by decide +kernel
theorem dX12_silencing_62 : decode cX12_silencing 62 = .ok (.goto 4, 3) := by decide +kernel
theorem dX12_silencing_65 : decode cX12_silencing 65 = .ok (.iconst 0, 1) := by decide +kernel
theorem dX12_silencing_66 : decode cX12_silencing 66 = .ok (.iadd, 1) := by decide +kernel
theorem dX12_silencing_67 : decode cX12_silencing 67 = .ok (.istore_n 1, 1) := by decide +kernel
theorem dX12_silencing_68 : decode cX12_silencing 68 = .ok (.iinc 2 1, 3) := by decide +kernel
theorem dX12_silencing_71 : decode cX12_silencing 71 = .ok (.goto (-67), 3) := by decide +kernel
theorem dX12_silencing_74 : decode cX12_silencing 74 = .ok (.iload_n 1, 1) := by decide +kernel
theorem dX12_silencing_75 : decode cX12_silencing 75 = .ok (.ireturn, 1) := by decide +kernel
theorem dX12_count_0 : decode cX12_count 0 = .ok (.iload_n 1, 1) := by decide +kernel
theorem dX12_count_1 : decode cX12_count 1 = .ok (.iconst 0, 1) := by decide +kernel
theorem dX12_count_2 : decode cX12_count 2 = .ok (.bipush 14, 2) := by decide +kernel
theorem dX12_count_4 : decode cX12_count 4 = .ok (.invokestatic 35, 3) := by decide +kernel
theorem dX12_count_7 : decode cX12_count 7 = .ok (.ifCond .ne 5, 3) := by decide +kernel
theorem dX12_count_10 : decode cX12_count 10 = .ok (.iconst (-1), 1) := by decide +kernel
theorem dX12_count_11 : decode cX12_count 11 = .ok (.ireturn, 1) := by decide +kernel
theorem dX12_count_12 : decode cX12_count 12 = .ok (.iload_n 1, 1) := by decide +kernel
theorem dX12_count_13 : decode cX12_count 13 = .ok (.bipush 10, 2) := by decide +kernel
theorem dX12_count_15 : decode cX12_count 15 = .ok (.if_icmp .lt 17, 3) := by decide +kernel
theorem dX12_count_18 : decode cX12_count 18 = .ok (.aload_n 0, 1) := by decide +kernel
theorem dX12_count_19 : decode cX12_count 19 = .ok (.getfield 9, 3) := by decide +kernel
theorem dX12_count_22 : decode cX12_count 22 = .ok (.sipush 1842, 3) := by decide +kernel
theorem dX12_count_25 : decode cX12_count 25 = .ok (.iload_n 1, 1) := by decide +kernel
theorem dX12_count_26 : decode cX12_count 26 = .ok (.iadd, 1) := by decide +kernel
theorem dX12_count_27 : decode cX12_count 27 = .ok (.bipush 10, 2) := by decide +kernel
theorem dX12_count_29 : decode cX12_count 29 = .ok (.isub, 1) := by decide +kernel
theorem dX12_count_30 : decode cX12_count 30 = .ok (.iaload, 1) := by decide +kernel
theorem dX12_count_31 : decode cX12_count 31 = .ok (.ireturn, 1) := by decide +kernel
theorem dX12_count_32 : decode cX12_count 32 = .ok (.iconst 0, 1) := by decide +kernel
theorem dX12_count_33 : decode cX12_count 33 = .ok (.istore_n 2, 1) := by decide +kernel
theorem dX12_count_34 : decode cX12_count 34 = .ok (.iload_n 1, 1) := by decide +kernel
theorem dX12_count_35 : decode cX12_count 35 = .ok (.tableswitch 149 0 8 #[49, 58, 58, 58, 66, 94, 103, 135, 144], 49) := by decide +kernel
theorem dX12_count_84 : decode cX12_count 84 = .ok (.aload_n 0, 1) := by decide +kernel
theorem dX12_count_85 : decode cX12_count 85 = .ok (.getfield 9, 3) := by decide +kernel
theorem dX12_count_88 : decode cX12_count 88 = .ok (.sipush 1847, 3) := by decide +kernel
theorem dX12_count_91 : decode cX12_count 91 = .ok (.iaload, 1) := by decide +kernel
theorem dX12_count_92 : decode cX12_count 92 = .ok (.ireturn, 1) := by decide +kernel
theorem dX12_count_93 : decode cX12_count 93 = .ok (.aload_n 0, 1) := by decide +kernel
theorem dX12_count_94 : decode cX12_count 94 = .ok (.iload_n 1, 1) := by decide +kernel
theorem dX12_count_95 : decode cX12_count 95 = .ok (.iconst 1, 1) := by decide +kernel
theorem dX12_count_96 : decode cX12_count 96 = .ok (.isub, 1) := by decide +kernel
theorem dX12_count_97 : decode cX12_count 97 = .ok (.invokevirtual 86, 3) := by decide +kernel
theorem dX12_count_100 : decode cX12_count 100 = .ok (.ireturn, 1) := by decide +kernel
theorem dX12_count_101 : decode cX12_count 101 = .ok (.iconst 0, 1) := by decide +kernel
theorem dX12_count_102 : decode cX12_count 102 = .ok (.istore_n 3, 1) := by decide +kernel
theorem dX12_count_103 : decode cX12_count 103 = .ok (.iload_n 3, 1) := by decide +kernel
theorem dX12_count_104 : decode cX12_count 104 = .ok (.bipush 12, 2) := by decide +kernel
theorem dX12_count_106 : decode cX12_count 106 = .ok (.if_icmp .ge 21, 3) := by decide +kernel
theorem dX12_count_109 : decode cX12_count 109 = .ok (.iload_n 2, 1) := by decide +kernel
theorem dX12_count_110 : decode cX12_count 110 = .ok (.aload_n 0, 1) := by decide +kernel
theorem dX12_count_111 : decode cX12_count 111 = .ok (.getfield 9, 3) := by decide +kernel
theorem dX12_count_114 : decode cX12_count 114 = .ok (.bipush 48, 2) := by decide +kernel
theorem dX12_count_116 : decode cX12_count 116 = .ok (.iload_n 3, 1) := by decide +kernel
theorem dX12_count_117 : decode cX12_count 117 = .ok (.iadd, 1) := by decide +kernel
theorem dX12_count_118 : decode cX12_count 118 = .ok (.iaload, 1) := by decide +kernel
theorem dX12_count_119 : decode cX12_count 119 = .ok (.iadd, 1) := by decide +kernel
theorem dX12_count_120 : decode cX12_count 120 = .ok (.istore_n 2, 1) := by decide +kernel
theorem dX12_count_121 : decode cX12_count 121 = .ok (.iinc 3 1, 3) := by decide +kernel
theorem dX12_count_124 : decode cX12_count 124 = .ok (.goto (-21), 3) := by decide +kernel
theorem dX12_count_127 : decode cX12_count 127 = .ok (.iload_n 2, 1) := by decide +kernel
theorem dX12_count_128 : decode cX12_count 128 = .ok (.ireturn, 1) := by decide +kernel
theorem dX12_count_129 : decode cX12_count 129 = .ok (.aload_n 0, 1) := by decide +kernel
theorem dX12_count_130 : decode cX12_count 130 = .ok (.getfield 9, 3) := by decide +kernel
theorem dX12_count_133 : decode cX12_count 133 = .ok (.sipush 1848, 3) := by decide +kernel
theorem dX12_count_136 : decode cX12_count 136 = .ok (.iaload, 1) := by decide +kernel
theorem dX12_count_137 : decode cX12_count 137 = .ok (.ireturn, 1) := by decide +kernel
theorem dX12_count_138 : decode cX12_count 138 = .ok (.iconst 0, 1) := by decide +kernel
theorem dX12_count_139 : decode cX12_count 139 = .ok (.istore_n 3, 1) := by decide +kernel
theorem dX12_count_140 : decode cX12_count 140 = .ok (.iload_n 3, 1) := by decide +kernel
theorem dX12_count_141 : decode cX12_count 141 = .ok (.sipush 128, 3) := by decide +kernel
theorem dX12_count_144 : decode cX12_count 144 = .ok (.if_icmp .ge 24, 3) := by decide +kernel
theorem dX12_count_147 : decode cX12_count 147 = .ok (.iload_n 2, 1) := by decide +kernel
theorem dX12_count_148 : decode cX12_count 148 = .ok (.aload_n 0, 1) := by decide +kernel
theorem dX12_count_149 : decode cX12_count 149 = .ok (.getfield 9, 3) := by decide +kernel
theorem dX12_count_152 : decode cX12_count 152 = .ok (.sipush 1586, 3) := by decide +kernel
theorem dX12_count_155 : decode cX12_count 155 = .ok (.iconst 2, 1) := by decide +kernel
theorem dX12_count_156 : decode cX12_count 156 = .ok (.iload_n 3, 1) := by decide +kernel
theorem dX12_count_157 : decode cX12_count 157 = .ok (.imul, 1) := by decide +kernel
theorem dX12_count_158 : decode cX12_count 158 = .ok (.iadd, 1) := by decide +kernel
theorem dX12_count_159 : decode cX12_count 159 = .ok (.iaload, 1) := by decide +kernel
theorem dX12_count_160 : decode cX12_count 160 = .ok (.iadd, 1) := by decide +kernel
theorem dX12_count_161 : decode cX12_count 161 = .ok (.istore_n 2, 1) := by decide +kernel
theorem dX12_count_162 : decode cX12_count 162 = .ok (.iinc 3 1, 3) := by decide +kernel
theorem dX12_count_165 : decode cX12_count 165 = .ok (.goto (-25), 3) := by decide +kernel
theorem dX12_count_168 : decode cX12_count 168 = .ok (.iload_n 2, 1) := by decide +kernel
theorem dX12_count_169 : decode cX12_count 169 = .ok (.ireturn, 1) := by decide +kernel
theorem dX12_count_170 : decode cX12_count 170 = .ok (.aload_n 0, 1) := by decide +kernel
theorem dX12_count_171 : decode cX12_count 171 = .ok (.aload_n 0, 1) := by decide +kernel
theorem dX12_count_172 : decode cX12_count 172 = .ok (.invokevirtual 148, 3) := by decide +kernel
theorem dX12_count_175 : decode cX12_count 175 = .ok (.invokevirtual 142, 3) := by decide +kernel
theorem dX12_count_178 : decode cX12_count 178 = .ok (.ireturn, 1) := by decide +kernel
theorem dX12_count_179 : decode cX12_count 179 = .ok (.aload_n 0, 1) := by decide +kernel
theorem dX12_count_180 : decode cX12_count 180 = .ok (.invokevirtual 183, 3) := by decide +kernel
theorem dX12_count_183 : decode cX12_count 183 = .ok (.ireturn, 1) := by decide +kernel
theorem dX12_count_184 : decode cX12_count 184 = .ok (.aload_n 0, 1) := by decide +kernel
theorem dX12_count_185 : decode cX12_count 185 = .ok (.getfield 39, 3) := by decide +kernel
theorem dX12_count_188 : decode cX12_count 188 = .ok (.ireturn, 1) := by decide +kernel
end
section
theorem dX0_init_0 : decode cX0_init 0 = .ok (.aload_n 0, 1) := by decide +kernel
theorem dX0_init_1 : decode cX0_init 1 = .ok (.invokespecial 3, 3) := by decide +kernel
theorem dX0_init_4 : decode cX0_init 4 = .ok (.aload_n 0, 1) := by decide +kernel
theorem dX0_init_5 : decode cX0_init 5 = .ok (.bipush 60, 2) := by decide +kernel
theorem dX0_init_7 : decode cX0_init 7 = .ok (.newarray .int, 2) := by decide +kernel
theorem dX0_init_9 : decode cX0_init 9 = .ok (.putfield 9, 3) := by decide +kernel
theorem dX0_init_12 : decode cX0_init 12 = .ok (.aload_n 0, 1) := by decide +kernel
theorem dX0_init_13 : decode cX0_init 13 = .ok (.sipush 1200, 3) := by decide +kernel
theorem dX0_init_16 : decode cX0_init 16 = .ok (.newarray .int, 2) := by decide +kernel
theorem dX0_init_18 : decode cX0_init 18 = .ok (.putfield 15, 3) := by decide +kernel
theorem dX0_init_21 : decode cX0_init 21 = .ok (.aload_n 0, 1) := by decide +kernel
theorem dX0_init_22 : decode cX0_init 22 = .ok (.bipush 60, 2) := by decide +kernel
theorem dX0_init_24 : decode cX0_init 24 = .ok (.newarray .int, 2) := by decide +kernel
theorem dX0_init_26 : decode cX0_init 26 = .ok (.putfield 18, 3) := by decide +kernel
theorem dX0_init_29 : decode cX0_init 29 = .ok (.return_, 1) := by decide +kernel
theorem dX0_copyFrom_0 : decode cX0_copyFrom 0 = .ok (.aload_n 0, 1) := by decide +kernel
theorem dX0_copyFrom_1 : decode cX0_copyFrom 1 = .ok (.aload_n 1, 1) := by decide +kernel
theorem dX0_copyFrom_2 : decode cX0_copyFrom 2 = .ok (.getfield 21, 3) := by decide +kernel
theorem dX0_copyFrom_5 : decode cX0_copyFrom 5 = .ok (.putfield 21, 3) := by decide +kernel
theorem dX0_copyFrom_8 : decode cX0_copyFrom 8 = .ok (.aload_n 0, 1) := by decide +kernel
theorem dX0_copyFrom_9 : decode cX0_copyFrom 9 = .ok (.aload_n 1, 1) := by decide +kernel
theorem dX0_copyFrom_10 : decode cX0_copyFrom 10 = .ok (.getfield 25, 3) := by decide +kernel
theorem dX0_copyFrom_13 : decode cX0_copyFrom 13 = .ok (.putfield 25, 3) := by decide +kernel
theorem dX0_copyFrom_16 : decode cX0_copyFrom 16 = .ok (.aload_n 1, 1) := by decide +kernel
theorem dX0_copyFrom_17 : decode cX0_copyFrom 17 = .ok (.getfield 9, 3) := by decide +kernel
theorem dX0_copyFrom_20 : decode cX0_copyFrom 20 = .ok (.iconst 0, 1) := by decide +kernel
theorem dX0_copyFrom_21 : decode cX0_copyFrom 21 = .ok (.aload_n 0, 1) := by decide +kernel
theorem dX0_copyFrom_22 : decode cX0_copyFrom 22 = .ok (.getfield 9, 3) := by decide +kernel
theorem dX0_copyFrom_25 : decode cX0_copyFrom 25 = .ok (.iconst 0, 1) := by decide +kernel
theorem dX0_copyFrom_26 : decode cX0_copyFrom 26 = .ok (.aload_n 0, 1) := by decide +kernel
theorem dX0_copyFrom_27 : decode cX0_copyFrom 27 = .ok (.getfield 9, 3) := by decide +kernel
theorem dX0_copyFrom_30 : decode cX0_copyFrom 30 = .ok (.arraylength, 1) := by decide +kernel
theorem dX0_copyFrom_31 : decode cX0_copyFrom 31 = .ok (.invokestatic 28, 3) := by decide +kernel
theorem dX0_copyFrom_34 : decode cX0_copyFrom 34 = .ok (.aload_n 1, 1) := by decide +kernel
theorem dX0_copyFrom_35 : decode cX0_copyFrom 35 = .ok (.getfield 15, 3) := by decide +kernel
theorem dX0_copyFrom_38 : decode cX0_copyFrom 38 = .ok (.iconst 0, 1) := by decide +kernel
theorem dX0_copyFrom_39 : decode cX0_copyFrom 39 = .ok (.aload_n 0, 1) := by decide +kernel
theorem dX0_copyFrom_40 : decode cX0_copyFrom 40 = .ok (.getfield 15, 3) := by decide +kernel
theorem dX0_copyFrom_43 : decode cX0_copyFrom 43 = .ok (.iconst 0, 1) := by decide +kernel
theorem dX0_copyFrom_44 : decode cX0_copyFrom 44 = .ok (.aload_n 0, 1) := by decide +kernel
theorem dX0_copyFrom_45 : decode cX0_copyFrom 45 = .ok (.getfield 15, 3) := by decide +kernel
theorem dX0_copyFrom_48 : decode cX0_copyFrom 48 = .ok (.arraylength, 1) := by decide +kernel
theorem dX0_copyFrom_49 : decode cX0_copyFrom 49 = .ok (.invokestatic 28, 3) := by decide +kernel
theorem dX0_copyFrom_52 : decode cX0_copyFrom 52 = .ok (.aload_n 1, 1) := by decide +kernel
theorem dX0_copyFrom_53 : decode cX0_copyFrom 53 = .ok (.getfield 18, 3) := by decide +kernel
theorem dX0_copyFrom_56 : decode cX0_copyFrom 56 = .ok (.iconst 0, 1) := by decide +kernel
theorem dX0_copyFrom_57 : decode cX0_copyFrom 57 = .ok (.aload_n 0, 1) := by decide +kernel
theorem dX0_copyFrom_58 : decode cX0_copyFrom 58 = .ok (.getfield 18, 3) := by decide +kernel
theorem dX0_copyFrom_61 : decode cX0_copyFrom 61 = .ok (.iconst 0, 1) := by decide +kernel
theorem dX0_copyFrom_62 : decode cX0_copyFrom 62 = .ok (.aload_n 0, 1) := by decide +kernel
theorem dX0_copyFrom_63 : decode cX0_copyFrom 63 = .ok (.getfield 18, 3) := by decide +kernel
theorem dX0_copyFrom_66 : decode cX0_copyFrom 66 = .ok (.arraylength, 1) := by decide +kernel
theorem dX0_copyFrom_67 : decode cX0_copyFrom 67 = .ok (.invokestatic 28, 3) := by decide +kernel
theorem dX0_copyFrom_70 : decode cX0_copyFrom 70 = .ok (.return_, 1) := by decide +kernel
theorem dX0_stateOf_0 : decode cX0_stateOf 0 = .ok (.aload_n 0, 1) := by decide +kernel
theorem dX0_stateOf_1 : decode cX0_stateOf 1 = .ok (.getfield 25, 3) := by decide +kernel
theorem dX0_stateOf_4 : decode cX0_stateOf 4 = .ok (.iload_n 1, 1) := by decide +kernel
theorem dX0_stateOf_5 : decode cX0_stateOf 5 = .ok (.invokestatic 34, 3) := by decide +kernel
theorem dX0_stateOf_8 : decode cX0_stateOf 8 = .ok (.ifCond .eq 5, 3) := by decide +kernel
theorem dX0_stateOf_11 : decode cX0_stateOf 11 = .ok (.iconst 2, 1) := by decide +kernel
theorem dX0_stateOf_12 : decode cX0_stateOf 12 = .ok (.ireturn, 1) := by decide +kernel
theorem dX0_stateOf_13 : decode cX0_stateOf 13 = .ok (.aload_n 0, 1) := by decide +kernel
theorem dX0_stateOf_14 : decode cX0_stateOf 14 = .ok (.getfield 21, 3) := by decide +kernel
theorem dX0_stateOf_17 : decode cX0_stateOf 17 = .ok (.iload_n 1, 1) := by decide +kernel
theorem dX0_stateOf_18 : decode cX0_stateOf 18 = .ok (.invokestatic 34, 3) := by decide +kernel
theorem dX0_stateOf_21 : decode cX0_stateOf 21 = .ok (.ifCond .eq 7, 3) := by decide +kernel
theorem dX0_stateOf_24 : decode cX0_stateOf 24 = .ok (.iconst 1, 1) := by decide +kernel
theorem dX0_stateOf_25 : decode cX0_stateOf 25 = .ok (.goto 4, 3) := by decide +kernel
theorem dX0_stateOf_28 : decode cX0_stateOf 28 = .ok (.iconst 0, 1) := by decide +kernel
theorem dX0_stateOf_29 : decode cX0_stateOf 29 = .ok (.ireturn, 1) := by decide +kernel
theorem dX0_sinceOf_0 : decode cX0_sinceOf 0 = .ok (.aload_n 0, 1) := by decide +kernel
theorem dX0_sinceOf_1 : decode cX0_sinceOf 1 = .ok (.iload_n 1, 1) := by decide +kernel
theorem dX0_sinceOf_2 : decode cX0_sinceOf 2 = .ok (.invokevirtual 38, 3) := by decide +kernel
theorem dX0_sinceOf_5 : decode cX0_sinceOf 5 = .ok (.ifCond .ne 8, 3) := by decide +kernel
theorem dX0_sinceOf_8 : decode cX0_sinceOf 8 = .ok (.bipush (-5), 2) := by decide +kernel
theorem dX0_sinceOf_10 : decode cX0_sinceOf 10 = .ok (.goto 9, 3) := by decide +kernel
theorem dX0_sinceOf_13 : decode cX0_sinceOf 13 = .ok (.aload_n 0, 1) := by decide +kernel
theorem dX0_sinceOf_14 : decode cX0_sinceOf 14 = .ok (.getfield 9, 3) := by decide +kernel
theorem dX0_sinceOf_17 : decode cX0_sinceOf 17 = .ok (.iload_n 1, 1) := by decide +kernel
theorem dX0_sinceOf_18 : decode cX0_sinceOf 18 = .ok (.iaload, 1) := by decide +kernel
theorem dX0_sinceOf_19 : decode cX0_sinceOf 19 = .ok (.ireturn, 1) := by decide +kernel
theorem dX0_advance_0 : decode cX0_advance 0 = .ok (.iconst 0, 1) := by decide +kernel
theorem dX0_advance_1 : decode cX0_advance 1 = .ok (.istore 5, 2) := by decide +kernel
theorem dX0_advance_3 : decode cX0_advance 3 = .ok (.iload 5, 2) := by decide +kernel
theorem dX0_advance_5 : decode cX0_advance 5 = .ok (.bipush 60, 2) := by decide +kernel
theorem dX0_advance_7 : decode cX0_advance 7 = .ok (.if_icmp .ge 42, 3) := by decide +kernel
theorem dX0_advance_10 : decode cX0_advance 10 = .ok (.lload_n 2, 1) := by decide +kernel
theorem dX0_advance_11 : decode cX0_advance 11 = .ok (.iload 5, 2) := by decide +kernel
theorem dX0_advance_13 : decode cX0_advance 13 = .ok (.invokestatic 34, 3) := by decide +kernel
theorem dX0_advance_16 : decode cX0_advance 16 = .ok (.ifCond .eq 20, 3) := by decide +kernel
theorem dX0_advance_19 : decode cX0_advance 19 = .ok (.aload_n 0, 1) := by decide +kernel
theorem dX0_advance_20 : decode cX0_advance 20 = .ok (.iload 5, 2) := by decide +kernel
theorem dX0_advance_22 : decode cX0_advance 22 = .ok (.iload_n 1, 1) := by decide +kernel
theorem dX0_advance_23 : decode cX0_advance 23 = .ok (.aload 4, 2) := by decide +kernel
theorem dX0_advance_25 : decode cX0_advance 25 = .ok (.iload 5, 2) := by decide +kernel
theorem dX0_advance_27 : decode cX0_advance 27 = .ok (.invokevirtual 42, 3) := by decide +kernel
theorem dX0_advance_30 : decode cX0_advance 30 = .ok (.invokevirtual 47, 3) := by decide +kernel
theorem dX0_advance_33 : decode cX0_advance 33 = .ok (.goto 10, 3) := by decide +kernel
theorem dX0_advance_36 : decode cX0_advance 36 = .ok (.aload_n 0, 1) := by decide +kernel
theorem dX0_advance_37 : decode cX0_advance 37 = .ok (.iload 5, 2) := by decide +kernel
theorem dX0_advance_39 : decode cX0_advance 39 = .ok (.iload_n 1, 1) := by decide +kernel
theorem dX0_advance_40 : decode cX0_advance 40 = .ok (.invokevirtual 51, 3) := by decide +kernel
theorem dX0_advance_43 : decode cX0_advance 43 = .ok (.iinc 5 1, 3) := by decide +kernel
theorem dX0_advance_46 : decode cX0_advance 46 = .ok (.goto (-43), 3) := by decide +kernel
theorem dX0_advance_49 : decode cX0_advance 49 = .ok (.return_, 1) := by decide +kernel
theorem dX0_rise_0 : decode cX0_rise 0 = .ok (.aload_n 0, 1) := by decide +kernel
theorem dX0_rise_1 : decode cX0_rise 1 = .ok (.iload_n 1, 1) := by decide +kernel
theorem dX0_rise_2 : decode cX0_rise 2 = .ok (.invokevirtual 38, 3) := by decide +kernel
theorem dX0_rise_5 : decode cX0_rise 5 = .ok (.ifCond .ne 22, 3) := by decide +kernel
theorem dX0_rise_8 : decode cX0_rise 8 = .ok (.aload_n 0, 1) := by decide +kernel
theorem dX0_rise_9 : decode cX0_rise 9 = .ok (.dup, 1) := by decide +kernel
theorem dX0_rise_10 : decode cX0_rise 10 = .ok (.getfield 21, 3) := by decide +kernel
theorem dX0_rise_13 : decode cX0_rise 13 = .ok (.lconst 1, 1) := by decide +kernel
theorem dX0_rise_14 : decode cX0_rise 14 = .ok (.iload_n 1, 1) := by decide +kernel
theorem dX0_rise_15 : decode cX0_rise 15 = .ok (.lshl, 1) := by decide +kernel
theorem dX0_rise_16 : decode cX0_rise 16 = .ok (.lor, 1) := by decide +kernel
theorem dX0_rise_17 : decode cX0_rise 17 = .ok (.putfield 21, 3) := by decide +kernel
theorem dX0_rise_20 : decode cX0_rise 20 = .ok (.aload_n 0, 1) := by decide +kernel
theorem dX0_rise_21 : decode cX0_rise 21 = .ok (.getfield 9, 3) := by decide +kernel
theorem dX0_rise_24 : decode cX0_rise 24 = .ok (.iload_n 1, 1) := by decide +kernel
theorem dX0_rise_25 : decode cX0_rise 25 = .ok (.iload_n 2, 1) := by decide +kernel
theorem dX0_rise_26 : decode cX0_rise 26 = .ok (.iastore, 1) := by decide +kernel
theorem dX0_rise_27 : decode cX0_rise 27 = .ok (.aload_n 0, 1) := by decide +kernel
theorem dX0_rise_28 : decode cX0_rise 28 = .ok (.iload_n 1, 1) := by decide +kernel
theorem dX0_rise_29 : decode cX0_rise 29 = .ok (.invokevirtual 38, 3) := by decide +kernel
theorem dX0_rise_32 : decode cX0_rise 32 = .ok (.iconst 1, 1) := by decide +kernel
theorem dX0_rise_33 : decode cX0_rise 33 = .ok (.if_icmp .ne 56, 3) := by decide +kernel
theorem dX0_rise_36 : decode cX0_rise 36 = .ok (.iload_n 2, 1) := by decide +kernel
theorem dX0_rise_37 : decode cX0_rise 37 = .ok (.aload_n 0, 1) := by decide +kernel
theorem dX0_rise_38 : decode cX0_rise 38 = .ok (.getfield 9, 3) := by decide +kernel
theorem dX0_rise_41 : decode cX0_rise 41 = .ok (.iload_n 1, 1) := by decide +kernel
theorem dX0_rise_42 : decode cX0_rise 42 = .ok (.iaload, 1) := by decide +kernel
theorem dX0_rise_43 : decode cX0_rise 43 = .ok (.isub, 1) := by decide +kernel
theorem dX0_rise_44 : decode cX0_rise 44 = .ok (.iload_n 3, 1) := by decide +kernel
theorem dX0_rise_45 : decode cX0_rise 45 = .ok (.if_icmp .lt 44, 3) := by decide +kernel
theorem dX0_rise_48 : decode cX0_rise 48 = .ok (.aload_n 0, 1) := by decide +kernel
theorem dX0_rise_49 : decode cX0_rise 49 = .ok (.dup, 1) := by decide +kernel
theorem dX0_rise_50 : decode cX0_rise 50 = .ok (.getfield 21, 3) := by decide +kernel
theorem dX0_rise_53 : decode cX0_rise 53 = .ok (.lconst 1, 1) := by decide +kernel
theorem dX0_rise_54 : decode cX0_rise 54 = .ok (.iload_n 1, 1) := by decide +kernel
theorem dX0_rise_55 : decode cX0_rise 55 = .ok (.lshl, 1) := by decide +kernel
theorem dX0_rise_56 : decode cX0_rise 56 = .ok (.ldc2_w 55, 3) := by decide +kernel
theorem dX0_rise_59 : decode cX0_rise 59 = .ok (.lxor, 1) := by decide +kernel
theorem dX0_rise_60 : decode cX0_rise 60 = .ok (.land, 1) := by decide +kernel
theorem dX0_rise_61 : decode cX0_rise 61 = .ok (.putfield 21, 3) := by decide +kernel
theorem dX0_rise_64 : decode cX0_rise 64 = .ok (.aload_n 0, 1) := by decide +kernel
theorem dX0_rise_65 : decode cX0_rise 65 = .ok (.dup, 1) := by decide +kernel
theorem dX0_rise_66 : decode cX0_rise 66 = .ok (.getfield 25, 3) := by decide +kernel
theorem dX0_rise_69 : decode cX0_rise 69 = .ok (.lconst 1, 1) := by decide +kernel
theorem dX0_rise_70 : decode cX0_rise 70 = .ok (.iload_n 1, 1) := by decide +kernel
theorem dX0_rise_71 : decode cX0_rise 71 = .ok (.lshl, 1) := by decide +kernel
theorem dX0_rise_72 : decode cX0_rise 72 = .ok (.lor, 1) := by decide +kernel
theorem dX0_rise_73 : decode cX0_rise 73 = .ok (.putfield 25, 3) := by decide +kernel
theorem dX0_rise_76 : decode cX0_rise 76 = .ok (.aload_n 0, 1) := by decide +kernel
theorem dX0_rise_77 : decode cX0_rise 77 = .ok (.getfield 9, 3) := by decide +kernel
theorem dX0_rise_80 : decode cX0_rise 80 = .ok (.iload_n 1, 1) := by decide +kernel
theorem dX0_rise_81 : decode cX0_rise 81 = .ok (.iload_n 2, 1) := by decide +kernel
theorem dX0_rise_82 : decode cX0_rise 82 = .ok (.iastore, 1) := by decide +kernel
theorem dX0_rise_83 : decode cX0_rise 83 = .ok (.aload_n 0, 1) := by decide +kernel
theorem dX0_rise_84 : decode cX0_rise 84 = .ok (.iload_n 1, 1) := by decide +kernel
theorem dX0_rise_85 : decode cX0_rise 85 = .ok (.iload_n 2, 1) := by decide +kernel
theorem dX0_rise_86 : decode cX0_rise 86 = .ok (.invokevirtual 57, 3) := by decide +kernel
theorem dX0_rise_89 : decode cX0_rise 89 = .ok (.return_, 1) := by decide +kernel
theorem dX0_settle_0 : decode cX0_settle 0 = .ok (.aload_n 0, 1) := by decide +kernel
theorem dX0_settle_1 : decode cX0_settle 1 = .ok (.iload_n 1, 1) := by decide +kernel
theorem dX0_settle_2 : decode cX0_settle 2 = .ok (.invokevirtual 38, 3) := by decide +kernel
theorem dX0_settle_5 : decode cX0_settle 5 = .ok (.iconst 2, 1) := by decide +kernel
theorem dX0_settle_6 : decode cX0_settle 6 = .ok (.if_icmp .ne 9, 3) := by decide +kernel
theorem dX0_settle_9 : decode cX0_settle 9 = .ok (.aload_n 0, 1) := by decide +kernel
theorem dX0_settle_10 : decode cX0_settle 10 = .ok (.iload_n 1, 1) := by decide +kernel
theorem dX0_settle_11 : decode cX0_settle 11 = .ok (.iload_n 2, 1) := by decide +kernel
theorem dX0_settle_12 : decode cX0_settle 12 = .ok (.invokevirtual 57, 3) := by decide +kernel
theorem dX0_settle_15 : decode cX0_settle 15 = .ok (.aload_n 0, 1) := by decide +kernel
theorem dX0_settle_16 : decode cX0_settle 16 = .ok (.dup, 1) := by decide +kernel
theorem dX0_settle_17 : decode cX0_settle 17 = .ok (.getfield 21, 3) := by decide +kernel
theorem dX0_settle_20 : decode cX0_settle 20 = .ok (.lconst 1, 1) := by decide +kernel
theorem dX0_settle_21 : decode cX0_settle 21 = .ok (.iload_n 1, 1) := by decide +kernel
theorem dX0_settle_22 : decode cX0_settle 22 = .ok (.lshl, 1) := by decide +kernel
theorem dX0_settle_23 : decode cX0_settle 23 = .ok (.ldc2_w 55, 3) := by decide +kernel
theorem dX0_settle_26 : decode cX0_settle 26 = .ok (.lxor, 1) := by decide +kernel
theorem dX0_settle_27 : decode cX0_settle 27 = .ok (.land, 1) := by decide +kernel
theorem dX0_settle_28 : decode cX0_settle 28 = .ok (.putfield 21, 3) := by decide +kernel
theorem dX0_settle_31 : decode cX0_settle 31 = .ok (.aload_n 0, 1) := by decide +kernel
theorem dX0_settle_32 : decode cX0_settle 32 = .ok (.dup, 1) := by decide +kernel
theorem dX0_settle_33 : decode cX0_settle 33 = .ok (.getfield 25, 3) := by decide +kernel
theorem dX0_settle_36 : decode cX0_settle 36 = .ok (.lconst 1, 1) := by decide +kernel
theorem dX0_settle_37 : decode cX0_settle 37 = .ok (.iload_n 1, 1) := by decide +kernel
theorem dX0_settle_38 : decode cX0_settle 38 = .ok (.lshl, 1) := by decide +kernel
theorem dX0_settle_39 : decode cX0_settle 39 = .ok (.ldc2_w 55, 3) := by decide +kernel
theorem dX0_settle_42 : decode cX0_settle 42 = .ok (.lxor, 1) := by decide +kernel
theorem dX0_settle_43 : decode cX0_settle 43 = .ok (.land, 1) := by decide +kernel
theorem dX0_settle_44 : decode cX0_settle 44 = .ok (.putfield 25, 3) := by decide +kernel
theorem dX0_settle_47 : decode cX0_settle 47 = .ok (.return_, 1) := by decide +kernel
theorem dX0_remember_0 : decode cX0_remember 0 = .ok (.aload_n 0, 1) := by decide +kernel
theorem dX0_remember_1 : decode cX0_remember 1 = .ok (.getfield 15, 3) := by decide +kernel
theorem dX0_remember_4 : decode cX0_remember 4 = .ok (.iload_n 1, 1) := by decide +kernel
theorem dX0_remember_5 : decode cX0_remember 5 = .ok (.bipush 20, 2) := by decide +kernel
theorem dX0_remember_7 : decode cX0_remember 7 = .ok (.imul, 1) := by decide +kernel
theorem dX0_remember_8 : decode cX0_remember 8 = .ok (.aload_n 0, 1) := by decide +kernel
theorem dX0_remember_9 : decode cX0_remember 9 = .ok (.getfield 18, 3) := by decide +kernel
theorem dX0_remember_12 : decode cX0_remember 12 = .ok (.iload_n 1, 1) := by decide +kernel
theorem dX0_remember_13 : decode cX0_remember 13 = .ok (.iaload, 1) := by decide +kernel
theorem dX0_remember_14 : decode cX0_remember 14 = .ok (.bipush 20, 2) := by decide +kernel
theorem dX0_remember_16 : decode cX0_remember 16 = .ok (.irem, 1) := by decide +kernel
theorem dX0_remember_17 : decode cX0_remember 17 = .ok (.iadd, 1) := by decide +kernel
theorem dX0_remember_18 : decode cX0_remember 18 = .ok (.iload_n 2, 1) := by decide +kernel
theorem dX0_remember_19 : decode cX0_remember 19 = .ok (.iastore, 1) := by decide +kernel
theorem dX0_remember_20 : decode cX0_remember 20 = .ok (.aload_n 0, 1) := by decide +kernel
theorem dX0_remember_21 : decode cX0_remember 21 = .ok (.getfield 18, 3) := by decide +kernel
theorem dX0_remember_24 : decode cX0_remember 24 = .ok (.iload_n 1, 1) := by decide +kernel
theorem dX0_remember_25 : decode cX0_remember 25 = .ok (.dup2, 1) := by decide +kernel
theorem dX0_remember_26 : decode cX0_remember 26 = .ok (.iaload, 1) := by decide +kernel
theorem dX0_remember_27 : decode cX0_remember 27 = .ok (.iconst 1, 1) := by decide +kernel
theorem dX0_remember_28 : decode cX0_remember 28 = .ok (.iadd, 1) := by decide +kernel
theorem dX0_remember_29 : decode cX0_remember 29 = .ok (.iastore, 1) := by decide +kernel
theorem dX0_remember_30 : decode cX0_remember 30 = .ok (.return_, 1) := by decide +kernel
theorem dX0_transitionsAfter_0 : decode cX0_transitionsAfter 0 = .ok (.iconst 0, 1) := by decide +kernel
theorem dX0_transitionsAfter_1 : decode cX0_transitionsAfter 1 = .ok (.istore_n 3, 1) := by decide +kernel
theorem dX0_transitionsAfter_2 : decode cX0_transitionsAfter 2 = .ok (.iconst 0, 1) := by decide +kernel
theorem dX0_transitionsAfter_3 : decode cX0_transitionsAfter 3 = .ok (.istore 4, 2) := by decide +kernel
theorem dX0_transitionsAfter_5 : decode cX0_transitionsAfter 5 = .ok (.iload 4, 2) := by decide +kernel
theorem dX0_transitionsAfter_7 : decode cX0_transitionsAfter 7 = .ok (.bipush 20, 2) := by decide +kernel
theorem dX0_transitionsAfter_9 : decode cX0_transitionsAfter 9 = .ok (.if_icmp .ge 39, 3) := by decide +kernel
theorem dX0_transitionsAfter_12 : decode cX0_transitionsAfter 12 = .ok (.iload 4, 2) := by decide +kernel
theorem dX0_transitionsAfter_14 : decode cX0_transitionsAfter 14 = .ok (.aload_n 0, 1) := by decide +kernel
theorem dX0_transitionsAfter_15 : decode cX0_transitionsAfter 15 = .ok (.getfield 18, 3) := by decide +kernel
theorem dX0_transitionsAfter_18 : decode cX0_transitionsAfter 18 = .ok (.iload_n 1, 1) := by decide +kernel
theorem dX0_transitionsAfter_19 : decode cX0_transitionsAfter 19 = .ok (.iaload, 1) := by decide +kernel
theorem dX0_transitionsAfter_20 : decode cX0_transitionsAfter 20 = .ok (.if_icmp .ge 28, 3) := by decide +kernel
theorem dX0_transitionsAfter_23 : decode cX0_transitionsAfter 23 = .ok (.aload_n 0, 1) := by decide +kernel
theorem dX0_transitionsAfter_24 : decode cX0_transitionsAfter 24 = .ok (.getfield 15, 3) := by decide +kernel
theorem dX0_transitionsAfter_27 : decode cX0_transitionsAfter 27 = .ok (.iload_n 1, 1) := by decide +kernel
theorem dX0_transitionsAfter_28 : decode cX0_transitionsAfter 28 = .ok (.bipush 20, 2) := by decide +kernel
theorem dX0_transitionsAfter_30 : decode cX0_transitionsAfter 30 = .ok (.imul, 1) := by decide +kernel
theorem dX0_transitionsAfter_31 : decode cX0_transitionsAfter 31 = .ok (.iload 4, 2) := by decide +kernel
theorem dX0_transitionsAfter_33 : decode cX0_transitionsAfter 33 = .ok (.iadd, 1) := by decide +kernel
theorem dX0_transitionsAfter_34 : decode cX0_transitionsAfter 34 = .ok (.iaload, 1) := by decide +kernel
theorem dX0_transitionsAfter_35 : decode cX0_transitionsAfter 35 = .ok (.iload_n 2, 1) := by decide +kernel
theorem dX0_transitionsAfter_36 : decode cX0_transitionsAfter 36 = .ok (.if_icmp .le 6, 3) := by decide +kernel
theorem dX0_transitionsAfter_39 : decode cX0_transitionsAfter 39 = .ok (.iinc 3 1, 3) := by decide +kernel
theorem dX0_transitionsAfter_42 : decode cX0_transitionsAfter 42 = .ok (.iinc 4 1, 3) := by decide +kernel
theorem dX0_transitionsAfter_45 : decode cX0_transitionsAfter 45 = .ok (.goto (-40), 3) := by decide +kernel
theorem dX0_transitionsAfter_48 : decode cX0_transitionsAfter 48 = .ok (.iload_n 3, 1) := by decide +kernel
theorem dX0_transitionsAfter_49 : decode cX0_transitionsAfter 49 = .ok (.ireturn, 1) := by decide +kernel
theorem dX0_flapping_0 : decode cX0_flapping 0 = .ok (.lconst 0, 1) := by decide +kernel
theorem dX0_flapping_1 : decode cX0_flapping 1 = .ok (.lstore 5, 2) := by decide +kernel
theorem dX0_flapping_3 : decode cX0_flapping 3 = .ok (.iconst 0, 1) := by decide +kernel
theorem dX0_flapping_4 : decode cX0_flapping 4 = .ok (.istore 7, 2) := by decide +kernel
theorem dX0_flapping_6 : decode cX0_flapping 6 = .ok (.iload 7, 2) := by decide +kernel
theorem dX0_flapping_8 : decode cX0_flapping 8 = .ok (.bipush 60, 2) := by decide +kernel
theorem dX0_flapping_10 : decode cX0_flapping 10 = .ok (.if_icmp .ge 39, 3) := by decide +kernel
theorem dX0_flapping_13 : decode cX0_flapping 13 = .ok (.lload_n 1, 1) := by decide +kernel
theorem dX0_flapping_14 : decode cX0_flapping 14 = .ok (.iload 7, 2) := by decide +kernel
theorem dX0_flapping_16 : decode cX0_flapping 16 = .ok (.invokestatic 34, 3) := by decide +kernel
theorem dX0_flapping_19 : decode cX0_flapping 19 = .ok (.ifCond .eq 24, 3) := by decide +kernel
theorem dX0_flapping_22 : decode cX0_flapping 22 = .ok (.aload_n 0, 1) := by decide +kernel
theorem dX0_flapping_23 : decode cX0_flapping 23 = .ok (.iload 7, 2) := by decide +kernel
theorem dX0_flapping_25 : decode cX0_flapping 25 = .ok (.iload_n 3, 1) := by decide +kernel
theorem dX0_flapping_26 : decode cX0_flapping 26 = .ok (.invokevirtual 60, 3) := by decide +kernel
theorem dX0_flapping_29 : decode cX0_flapping 29 = .ok (.iload 4, 2) := by decide +kernel
theorem dX0_flapping_31 : decode cX0_flapping 31 = .ok (.if_icmp .lt 12, 3) := by decide +kernel
theorem dX0_flapping_34 : decode cX0_flapping 34 = .ok (.lload 5, 2) := by decide +kernel
theorem dX0_flapping_36 : decode cX0_flapping 36 = .ok (.lconst 1, 1) := by decide +kernel
theorem dX0_flapping_37 : decode cX0_flapping 37 = .ok (.iload 7, 2) := by decide +kernel
theorem dX0_flapping_39 : decode cX0_flapping 39 = .ok (.lshl, 1) := by decide +kernel
theorem dX0_flapping_40 : decode cX0_flapping 40 = .ok (.lor, 1) := by decide +kernel
theorem dX0_flapping_41 : decode cX0_flapping 41 = .ok (.lstore 5, 2) := by decide +kernel
theorem dX0_flapping_43 : decode cX0_flapping 43 = .ok (.iinc 7 1, 3) := by decide +kernel
theorem dX0_flapping_46 : decode cX0_flapping 46 = .ok (.goto (-40), 3) := by decide +kernel
theorem dX0_flapping_49 : decode cX0_flapping 49 = .ok (.lload 5, 2) := by decide +kernel
theorem dX0_flapping_51 : decode cX0_flapping 51 = .ok (.lreturn, 1) := by decide +kernel
theorem dX0_forgetRule_0 : decode cX0_forgetRule 0 = .ok (.ldc2_w 64, 3) := by decide +kernel
theorem dX0_forgetRule_3 : decode cX0_forgetRule 3 = .ok (.iload_n 1, 1) := by decide +kernel
theorem dX0_forgetRule_4 : decode cX0_forgetRule 4 = .ok (.bipush 12, 2) := by decide +kernel
theorem dX0_forgetRule_6 : decode cX0_forgetRule 6 = .ok (.imul, 1) := by decide +kernel
theorem dX0_forgetRule_7 : decode cX0_forgetRule 7 = .ok (.lshl, 1) := by decide +kernel
theorem dX0_forgetRule_8 : decode cX0_forgetRule 8 = .ok (.lstore_n 2, 1) := by decide +kernel
theorem dX0_forgetRule_9 : decode cX0_forgetRule 9 = .ok (.aload_n 0, 1) := by decide +kernel
theorem dX0_forgetRule_10 : decode cX0_forgetRule 10 = .ok (.dup, 1) := by decide +kernel
theorem dX0_forgetRule_11 : decode cX0_forgetRule 11 = .ok (.getfield 21, 3) := by decide +kernel
theorem dX0_forgetRule_14 : decode cX0_forgetRule 14 = .ok (.lload_n 2, 1) := by decide +kernel
theorem dX0_forgetRule_15 : decode cX0_forgetRule 15 = .ok (.ldc2_w 55, 3) := by decide +kernel
theorem dX0_forgetRule_18 : decode cX0_forgetRule 18 = .ok (.lxor, 1) := by decide +kernel
theorem dX0_forgetRule_19 : decode cX0_forgetRule 19 = .ok (.land, 1) := by decide +kernel
theorem dX0_forgetRule_20 : decode cX0_forgetRule 20 = .ok (.putfield 21, 3) := by decide +kernel
theorem dX0_forgetRule_23 : decode cX0_forgetRule 23 = .ok (.aload_n 0, 1) := by decide +kernel
theorem dX0_forgetRule_24 : decode cX0_forgetRule 24 = .ok (.dup, 1) := by decide +kernel
theorem dX0_forgetRule_25 : decode cX0_forgetRule 25 = .ok (.getfield 25, 3) := by decide +kernel
theorem dX0_forgetRule_28 : decode cX0_forgetRule 28 = .ok (.lload_n 2, 1) := by decide +kernel
theorem dX0_forgetRule_29 : decode cX0_forgetRule 29 = .ok (.ldc2_w 55, 3) := by decide +kernel
theorem dX0_forgetRule_32 : decode cX0_forgetRule 32 = .ok (.lxor, 1) := by decide +kernel
theorem dX0_forgetRule_33 : decode cX0_forgetRule 33 = .ok (.land, 1) := by decide +kernel
theorem dX0_forgetRule_34 : decode cX0_forgetRule 34 = .ok (.putfield 25, 3) := by decide +kernel
theorem dX0_forgetRule_37 : decode cX0_forgetRule 37 = .ok (.iconst 0, 1) := by decide +kernel
theorem dX0_forgetRule_38 : decode cX0_forgetRule 38 = .ok (.istore 4, 2) := by decide +kernel
theorem dX0_forgetRule_40 : decode cX0_forgetRule 40 = .ok (.iload 4, 2) := by decide +kernel
theorem dX0_forgetRule_42 : decode cX0_forgetRule 42 = .ok (.bipush 12, 2) := by decide +kernel
theorem dX0_forgetRule_44 : decode cX0_forgetRule 44 = .ok (.if_icmp .ge 22, 3) := by decide +kernel
theorem dX0_forgetRule_47 : decode cX0_forgetRule 47 = .ok (.aload_n 0, 1) := by decide +kernel
theorem dX0_forgetRule_48 : decode cX0_forgetRule 48 = .ok (.getfield 18, 3) := by decide +kernel
theorem dX0_forgetRule_51 : decode cX0_forgetRule 51 = .ok (.iload_n 1, 1) := by decide +kernel
theorem dX0_forgetRule_52 : decode cX0_forgetRule 52 = .ok (.bipush 12, 2) := by decide +kernel
theorem dX0_forgetRule_54 : decode cX0_forgetRule 54 = .ok (.imul, 1) := by decide +kernel
theorem dX0_forgetRule_55 : decode cX0_forgetRule 55 = .ok (.iload 4, 2) := by decide +kernel
theorem dX0_forgetRule_57 : decode cX0_forgetRule 57 = .ok (.iadd, 1) := by decide +kernel
theorem dX0_forgetRule_58 : decode cX0_forgetRule 58 = .ok (.iconst 0, 1) := by decide +kernel
theorem dX0_forgetRule_59 : decode cX0_forgetRule 59 = .ok (.iastore, 1) := by decide +kernel
theorem dX0_forgetRule_60 : decode cX0_forgetRule 60 = .ok (.iinc 4 1, 3) := by decide +kernel
theorem dX0_forgetRule_63 : decode cX0_forgetRule 63 = .ok (.goto (-23), 3) := by decide +kernel
theorem dX0_forgetRule_66 : decode cX0_forgetRule 66 = .ok (.return_, 1) := by decide +kernel
theorem dX1_init_0 : decode cX1_init 0 = .ok (.aload_n 0, 1) := by decide +kernel
theorem dX1_init_1 : decode cX1_init 1 = .ok (.invokespecial 1, 3) := by decide +kernel
theorem dX1_init_4 : decode cX1_init 4 = .ok (.return_, 1) := by decide +kernel
theorem dX2_init_0 : decode cX2_init 0 = .ok (.aload_n 0, 1) := by decide +kernel
theorem dX2_init_1 : decode cX2_init 1 = .ok (.invokespecial 3, 3) := by decide +kernel
theorem dX2_init_4 : decode cX2_init 4 = .ok (.aload_n 0, 1) := by decide +kernel
theorem dX2_init_5 : decode cX2_init 5 = .ok (.sipush 128, 3) := by decide +kernel
theorem dX2_init_8 : decode cX2_init 8 = .ok (.newarray .boolean, 2) := by decide +kernel
theorem dX2_init_10 : decode cX2_init 10 = .ok (.putfield 9, 3) := by decide +kernel
theorem dX2_init_13 : decode cX2_init 13 = .ok (.aload_n 0, 1) := by decide +kernel
theorem dX2_init_14 : decode cX2_init 14 = .ok (.sipush 128, 3) := by decide +kernel
theorem dX2_init_17 : decode cX2_init 17 = .ok (.newarray .int, 2) := by decide +kernel
theorem dX2_init_19 : decode cX2_init 19 = .ok (.putfield 15, 3) := by decide +kernel
theorem dX2_init_22 : decode cX2_init 22 = .ok (.aload_n 0, 1) := by decide +kernel
theorem dX2_init_23 : decode cX2_init 23 = .ok (.sipush 128, 3) := by decide +kernel
theorem dX2_init_26 : decode cX2_init 26 = .ok (.newarray .long, 2) := by decide +kernel
theorem dX2_init_28 : decode cX2_init 28 = .ok (.putfield 19, 3) := by decide +kernel
theorem dX2_init_31 : decode cX2_init 31 = .ok (.aload_n 0, 1) := by decide +kernel
theorem dX2_init_32 : decode cX2_init 32 = .ok (.sipush 128, 3) := by decide +kernel
theorem dX2_init_35 : decode cX2_init 35 = .ok (.newarray .long, 2) := by decide +kernel
theorem dX2_init_37 : decode cX2_init 37 = .ok (.putfield 23, 3) := by decide +kernel
theorem dX2_init_40 : decode cX2_init 40 = .ok (.return_, 1) := by decide +kernel
theorem dX2_copyFrom_0 : decode cX2_copyFrom 0 = .ok (.iconst 0, 1) := by decide +kernel
theorem dX2_copyFrom_1 : decode cX2_copyFrom 1 = .ok (.istore_n 2, 1) := by decide +kernel
theorem dX2_copyFrom_2 : decode cX2_copyFrom 2 = .ok (.iload_n 2, 1) := by decide +kernel
theorem dX2_copyFrom_3 : decode cX2_copyFrom 3 = .ok (.sipush 128, 3) := by decide +kernel
theorem dX2_copyFrom_6 : decode cX2_copyFrom 6 = .ok (.if_icmp .ge 21, 3) := by decide +kernel
theorem dX2_copyFrom_9 : decode cX2_copyFrom 9 = .ok (.aload_n 0, 1) := by decide +kernel
theorem dX2_copyFrom_10 : decode cX2_copyFrom 10 = .ok (.getfield 9, 3) := by decide +kernel
theorem dX2_copyFrom_13 : decode cX2_copyFrom 13 = .ok (.iload_n 2, 1) := by decide +kernel
theorem dX2_copyFrom_14 : decode cX2_copyFrom 14 = .ok (.aload_n 1, 1) := by decide +kernel
theorem dX2_copyFrom_15 : decode cX2_copyFrom 15 = .ok (.getfield 9, 3) := by decide +kernel
theorem dX2_copyFrom_18 : decode cX2_copyFrom 18 = .ok (.iload_n 2, 1) := by decide +kernel
theorem dX2_copyFrom_19 : decode cX2_copyFrom 19 = .ok (.baload, 1) := by decide +kernel
theorem dX2_copyFrom_20 : decode cX2_copyFrom 20 = .ok (.bastore, 1) := by decide +kernel
theorem dX2_copyFrom_21 : decode cX2_copyFrom 21 = .ok (.iinc 2 1, 3) := by decide +kernel
theorem dX2_copyFrom_24 : decode cX2_copyFrom 24 = .ok (.goto (-22), 3) := by decide +kernel
theorem dX2_copyFrom_27 : decode cX2_copyFrom 27 = .ok (.aload_n 1, 1) := by decide +kernel
theorem dX2_copyFrom_28 : decode cX2_copyFrom 28 = .ok (.getfield 15, 3) := by decide +kernel
theorem dX2_copyFrom_31 : decode cX2_copyFrom 31 = .ok (.iconst 0, 1) := by decide +kernel
theorem dX2_copyFrom_32 : decode cX2_copyFrom 32 = .ok (.aload_n 0, 1) := by decide +kernel
theorem dX2_copyFrom_33 : decode cX2_copyFrom 33 = .ok (.getfield 15, 3) := by decide +kernel
theorem dX2_copyFrom_36 : decode cX2_copyFrom 36 = .ok (.iconst 0, 1) := by decide +kernel
theorem dX2_copyFrom_37 : decode cX2_copyFrom 37 = .ok (.sipush 128, 3) := by decide +kernel
theorem dX2_copyFrom_40 : decode cX2_copyFrom 40 = .ok (.invokestatic 26, 3) := by decide +kernel
theorem dX2_copyFrom_43 : decode cX2_copyFrom 43 = .ok (.aload_n 1, 1) := by decide +kernel
theorem dX2_copyFrom_44 : decode cX2_copyFrom 44 = .ok (.getfield 19, 3) := by decide +kernel
theorem dX2_copyFrom_47 : decode cX2_copyFrom 47 = .ok (.iconst 0, 1) := by decide +kernel
theorem dX2_copyFrom_48 : decode cX2_copyFrom 48 = .ok (.aload_n 0, 1) := by decide +kernel
theorem dX2_copyFrom_49 : decode cX2_copyFrom 49 = .ok (.getfield 19, 3) := by decide +kernel
theorem dX2_copyFrom_52 : decode cX2_copyFrom 52 = .ok (.iconst 0, 1) := by decide +kernel
theorem dX2_copyFrom_53 : decode cX2_copyFrom 53 = .ok (.sipush 128, 3) := by decide +kernel
theorem dX2_copyFrom_56 : decode cX2_copyFrom 56 = .ok (.invokestatic 26, 3) := by decide +kernel
theorem dX2_copyFrom_59 : decode cX2_copyFrom 59 = .ok (.return_, 1) := by decide +kernel
theorem dX2_forgetAll_0 : decode cX2_forgetAll 0 = .ok (.iconst 0, 1) := by decide +kernel
theorem dX2_forgetAll_1 : decode cX2_forgetAll 1 = .ok (.istore_n 1, 1) := by decide +kernel
theorem dX2_forgetAll_2 : decode cX2_forgetAll 2 = .ok (.iload_n 1, 1) := by decide +kernel
theorem dX2_forgetAll_3 : decode cX2_forgetAll 3 = .ok (.sipush 128, 3) := by decide +kernel
theorem dX2_forgetAll_6 : decode cX2_forgetAll 6 = .ok (.if_icmp .ge 16, 3) := by decide +kernel
theorem dX2_forgetAll_9 : decode cX2_forgetAll 9 = .ok (.aload_n 0, 1) := by decide +kernel
theorem dX2_forgetAll_10 : decode cX2_forgetAll 10 = .ok (.getfield 9, 3) := by decide +kernel
theorem dX2_forgetAll_13 : decode cX2_forgetAll 13 = .ok (.iload_n 1, 1) := by decide +kernel
theorem dX2_forgetAll_14 : decode cX2_forgetAll 14 = .ok (.iconst 0, 1) := by decide +kernel
theorem dX2_forgetAll_15 : decode cX2_forgetAll 15 = .ok (.bastore, 1) := by decide +kernel
theorem dX2_forgetAll_16 : decode cX2_forgetAll 16 = .ok (.iinc 1 1, 3) := by decide +kernel
theorem dX2_forgetAll_19 : decode cX2_forgetAll 19 = .ok (.goto (-17), 3) := by decide +kernel
theorem dX2_forgetAll_22 : decode cX2_forgetAll 22 = .ok (.return_, 1) := by decide +kernel
theorem dX2_sort_0 : decode cX2_sort 0 = .ok (.iconst 0, 1) := by decide +kernel
theorem dX2_sort_1 : decode cX2_sort 1 = .ok (.istore 4, 2) := by decide +kernel
theorem dX2_sort_3 : decode cX2_sort 3 = .ok (.iload 4, 2) := by decide +kernel
theorem dX2_sort_5 : decode cX2_sort 5 = .ok (.sipush 128, 3) := by decide +kernel
theorem dX2_sort_8 : decode cX2_sort 8 = .ok (.if_icmp .ge 17, 3) := by decide +kernel
theorem dX2_sort_11 : decode cX2_sort 11 = .ok (.aload_n 0, 1) := by decide +kernel
theorem dX2_sort_12 : decode cX2_sort 12 = .ok (.getfield 23, 3) := by decide +kernel
theorem dX2_sort_15 : decode cX2_sort 15 = .ok (.iload 4, 2) := by decide +kernel
theorem dX2_sort_17 : decode cX2_sort 17 = .ok (.lconst 0, 1) := by decide +kernel
theorem dX2_sort_18 : decode cX2_sort 18 = .ok (.lastore, 1) := by decide +kernel
theorem dX2_sort_19 : decode cX2_sort 19 = .ok (.iinc 4 1, 3) := by decide +kernel
theorem dX2_sort_22 : decode cX2_sort 22 = .ok (.goto (-19), 3) := by decide +kernel
theorem dX2_sort_25 : decode cX2_sort 25 = .ok (.iconst 0, 1) := by decide +kernel
theorem dX2_sort_26 : decode cX2_sort 26 = .ok (.istore 4, 2) := by decide +kernel
theorem dX2_sort_28 : decode cX2_sort 28 = .ok (.iload 4, 2) := by decide +kernel
theorem dX2_sort_30 : decode cX2_sort 30 = .ok (.bipush 12, 2) := by decide +kernel
theorem dX2_sort_32 : decode cX2_sort 32 = .ok (.if_icmp .ge 31, 3) := by decide +kernel
theorem dX2_sort_35 : decode cX2_sort 35 = .ok (.aload_n 0, 1) := by decide +kernel
theorem dX2_sort_36 : decode cX2_sort 36 = .ok (.getfield 23, 3) := by decide +kernel
theorem dX2_sort_39 : decode cX2_sort 39 = .ok (.aload_n 3, 1) := by decide +kernel
theorem dX2_sort_40 : decode cX2_sort 40 = .ok (.iload 4, 2) := by decide +kernel
theorem dX2_sort_42 : decode cX2_sort 42 = .ok (.invokevirtual 32, 3) := by decide +kernel
theorem dX2_sort_45 : decode cX2_sort 45 = .ok (.dup2, 1) := by decide +kernel
theorem dX2_sort_46 : decode cX2_sort 46 = .ok (.laload, 1) := by decide +kernel
theorem dX2_sort_47 : decode cX2_sort 47 = .ok (.lload_n 1, 1) := by decide +kernel
theorem dX2_sort_48 : decode cX2_sort 48 = .ok (.ldc2_w 38, 3) := by decide +kernel
theorem dX2_sort_51 : decode cX2_sort 51 = .ok (.iload 4, 2) := by decide +kernel
theorem dX2_sort_53 : decode cX2_sort 53 = .ok (.lshl, 1) := by decide +kernel
theorem dX2_sort_54 : decode cX2_sort 54 = .ok (.land, 1) := by decide +kernel
theorem dX2_sort_55 : decode cX2_sort 55 = .ok (.lor, 1) := by decide +kernel
theorem dX2_sort_56 : decode cX2_sort 56 = .ok (.lastore, 1) := by decide +kernel
theorem dX2_sort_57 : decode cX2_sort 57 = .ok (.iinc 4 1, 3) := by decide +kernel
theorem dX2_sort_60 : decode cX2_sort 60 = .ok (.goto (-32), 3) := by decide +kernel
theorem dX2_sort_63 : decode cX2_sort 63 = .ok (.return_, 1) := by decide +kernel
theorem dX2_newcomers_0 : decode cX2_newcomers 0 = .ok (.aload_n 0, 1) := by decide +kernel
theorem dX2_newcomers_1 : decode cX2_newcomers 1 = .ok (.getfield 9, 3) := by decide +kernel
theorem dX2_newcomers_4 : decode cX2_newcomers 4 = .ok (.iload_n 1, 1) := by decide +kernel
theorem dX2_newcomers_5 : decode cX2_newcomers 5 = .ok (.baload, 1) := by decide +kernel
theorem dX2_newcomers_6 : decode cX2_newcomers 6 = .ok (.ifCond .eq 23, 3) := by decide +kernel
theorem dX2_newcomers_9 : decode cX2_newcomers 9 = .ok (.aload_n 0, 1) := by decide +kernel
theorem dX2_newcomers_10 : decode cX2_newcomers 10 = .ok (.getfield 23, 3) := by decide +kernel
theorem dX2_newcomers_13 : decode cX2_newcomers 13 = .ok (.iload_n 1, 1) := by decide +kernel
theorem dX2_newcomers_14 : decode cX2_newcomers 14 = .ok (.laload, 1) := by decide +kernel
theorem dX2_newcomers_15 : decode cX2_newcomers 15 = .ok (.aload_n 0, 1) := by decide +kernel
theorem dX2_newcomers_16 : decode cX2_newcomers 16 = .ok (.getfield 19, 3) := by decide +kernel
theorem dX2_newcomers_19 : decode cX2_newcomers 19 = .ok (.iload_n 1, 1) := by decide +kernel
theorem dX2_newcomers_20 : decode cX2_newcomers 20 = .ok (.laload, 1) := by decide +kernel
theorem dX2_newcomers_21 : decode cX2_newcomers 21 = .ok (.ldc2_w 40, 3) := by decide +kernel
theorem dX2_newcomers_24 : decode cX2_newcomers 24 = .ok (.lxor, 1) := by decide +kernel
theorem dX2_newcomers_25 : decode cX2_newcomers 25 = .ok (.land, 1) := by decide +kernel
theorem dX2_newcomers_26 : decode cX2_newcomers 26 = .ok (.goto 9, 3) := by decide +kernel
theorem dX2_newcomers_29 : decode cX2_newcomers 29 = .ok (.aload_n 0, 1) := by decide +kernel
theorem dX2_newcomers_30 : decode cX2_newcomers 30 = .ok (.getfield 23, 3) := by decide +kernel
theorem dX2_newcomers_33 : decode cX2_newcomers 33 = .ok (.iload_n 1, 1) := by decide +kernel
theorem dX2_newcomers_34 : decode cX2_newcomers 34 = .ok (.laload, 1) := by decide +kernel
theorem dX2_newcomers_35 : decode cX2_newcomers 35 = .ok (.lreturn, 1) := by decide +kernel
theorem dX2_dueKind_0 : decode cX2_dueKind 0 = .ok (.aload_n 0, 1) := by decide +kernel
theorem dX2_dueKind_1 : decode cX2_dueKind 1 = .ok (.getfield 9, 3) := by decide +kernel
theorem dX2_dueKind_4 : decode cX2_dueKind 4 = .ok (.iload_n 1, 1) := by decide +kernel
theorem dX2_dueKind_5 : decode cX2_dueKind 5 = .ok (.baload, 1) := by decide +kernel
theorem dX2_dueKind_6 : decode cX2_dueKind 6 = .ok (.ifCond .ne 21, 3) := by decide +kernel
theorem dX2_dueKind_9 : decode cX2_dueKind 9 = .ok (.aload_n 0, 1) := by decide +kernel
theorem dX2_dueKind_10 : decode cX2_dueKind 10 = .ok (.getfield 23, 3) := by decide +kernel
theorem dX2_dueKind_13 : decode cX2_dueKind 13 = .ok (.iload_n 1, 1) := by decide +kernel
theorem dX2_dueKind_14 : decode cX2_dueKind 14 = .ok (.laload, 1) := by decide +kernel
theorem dX2_dueKind_15 : decode cX2_dueKind 15 = .ok (.lconst 0, 1) := by decide +kernel
theorem dX2_dueKind_16 : decode cX2_dueKind 16 = .ok (.lcmp, 1) := by decide +kernel
theorem dX2_dueKind_17 : decode cX2_dueKind 17 = .ok (.ifCond .ne 8, 3) := by decide +kernel
theorem dX2_dueKind_20 : decode cX2_dueKind 20 = .ok (.bipush (-5), 2) := by decide +kernel
theorem dX2_dueKind_22 : decode cX2_dueKind 22 = .ok (.goto 4, 3) := by decide +kernel
theorem dX2_dueKind_25 : decode cX2_dueKind 25 = .ok (.iconst 0, 1) := by decide +kernel
theorem dX2_dueKind_26 : decode cX2_dueKind 26 = .ok (.ireturn, 1) := by decide +kernel
theorem dX2_dueKind_27 : decode cX2_dueKind 27 = .ok (.aload_n 0, 1) := by decide +kernel
theorem dX2_dueKind_28 : decode cX2_dueKind 28 = .ok (.getfield 23, 3) := by decide +kernel
theorem dX2_dueKind_31 : decode cX2_dueKind 31 = .ok (.iload_n 1, 1) := by decide +kernel
theorem dX2_dueKind_32 : decode cX2_dueKind 32 = .ok (.laload, 1) := by decide +kernel
theorem dX2_dueKind_33 : decode cX2_dueKind 33 = .ok (.lconst 0, 1) := by decide +kernel
theorem dX2_dueKind_34 : decode cX2_dueKind 34 = .ok (.lcmp, 1) := by decide +kernel
theorem dX2_dueKind_35 : decode cX2_dueKind 35 = .ok (.ifCond .ne 5, 3) := by decide +kernel
theorem dX2_dueKind_38 : decode cX2_dueKind 38 = .ok (.iconst 3, 1) := by decide +kernel
theorem dX2_dueKind_39 : decode cX2_dueKind 39 = .ok (.ireturn, 1) := by decide +kernel
theorem dX2_dueKind_40 : decode cX2_dueKind 40 = .ok (.iload_n 2, 1) := by decide +kernel
theorem dX2_dueKind_41 : decode cX2_dueKind 41 = .ok (.aload_n 0, 1) := by decide +kernel
theorem dX2_dueKind_42 : decode cX2_dueKind 42 = .ok (.getfield 15, 3) := by decide +kernel
theorem dX2_dueKind_45 : decode cX2_dueKind 45 = .ok (.iload_n 1, 1) := by decide +kernel
theorem dX2_dueKind_46 : decode cX2_dueKind 46 = .ok (.iaload, 1) := by decide +kernel
theorem dX2_dueKind_47 : decode cX2_dueKind 47 = .ok (.isub, 1) := by decide +kernel
theorem dX2_dueKind_48 : decode cX2_dueKind 48 = .ok (.istore 4, 2) := by decide +kernel
theorem dX2_dueKind_50 : decode cX2_dueKind 50 = .ok (.aload_n 0, 1) := by decide +kernel
theorem dX2_dueKind_51 : decode cX2_dueKind 51 = .ok (.iload_n 1, 1) := by decide +kernel
theorem dX2_dueKind_52 : decode cX2_dueKind 52 = .ok (.invokevirtual 42, 3) := by decide +kernel
theorem dX2_dueKind_55 : decode cX2_dueKind 55 = .ok (.lconst 0, 1) := by decide +kernel
theorem dX2_dueKind_56 : decode cX2_dueKind 56 = .ok (.lcmp, 1) := by decide +kernel
theorem dX2_dueKind_57 : decode cX2_dueKind 57 = .ok (.ifCond .eq 16, 3) := by decide +kernel
theorem dX2_dueKind_60 : decode cX2_dueKind 60 = .ok (.iload 4, 2) := by decide +kernel
theorem dX2_dueKind_62 : decode cX2_dueKind 62 = .ok (.aload_n 3, 1) := by decide +kernel
theorem dX2_dueKind_63 : decode cX2_dueKind 63 = .ok (.getfield 46, 3) := by decide +kernel
theorem dX2_dueKind_66 : decode cX2_dueKind 66 = .ok (.iconst 0, 1) := by decide +kernel
theorem dX2_dueKind_67 : decode cX2_dueKind 67 = .ok (.iaload, 1) := by decide +kernel
theorem dX2_dueKind_68 : decode cX2_dueKind 68 = .ok (.if_icmp .lt 5, 3) := by decide +kernel
theorem dX2_dueKind_71 : decode cX2_dueKind 71 = .ok (.iconst 1, 1) := by decide +kernel
theorem dX2_dueKind_72 : decode cX2_dueKind 72 = .ok (.ireturn, 1) := by decide +kernel
theorem dX2_dueKind_73 : decode cX2_dueKind 73 = .ok (.iload 4, 2) := by decide +kernel
theorem dX2_dueKind_75 : decode cX2_dueKind 75 = .ok (.aload_n 3, 1) := by decide +kernel
theorem dX2_dueKind_76 : decode cX2_dueKind 76 = .ok (.getfield 46, 3) := by decide +kernel
theorem dX2_dueKind_79 : decode cX2_dueKind 79 = .ok (.iconst 1, 1) := by decide +kernel
theorem dX2_dueKind_80 : decode cX2_dueKind 80 = .ok (.iaload, 1) := by decide +kernel
theorem dX2_dueKind_81 : decode cX2_dueKind 81 = .ok (.if_icmp .lt 7, 3) := by decide +kernel
theorem dX2_dueKind_84 : decode cX2_dueKind 84 = .ok (.iconst 2, 1) := by decide +kernel
theorem dX2_dueKind_85 : decode cX2_dueKind 85 = .ok (.goto 5, 3) := by decide +kernel
theorem dX2_dueKind_88 : decode cX2_dueKind 88 = .ok (.bipush (-5), 2) := by decide +kernel
theorem dX2_dueKind_90 : decode cX2_dueKind 90 = .ok (.ireturn, 1) := by decide +kernel
theorem dX2_nextMinute_0 : decode cX2_nextMinute 0 = .ok (.aload_n 0, 1) := by decide +kernel
theorem dX2_nextMinute_1 : decode cX2_nextMinute 1 = .ok (.getfield 23, 3) := by decide +kernel
theorem dX2_nextMinute_4 : decode cX2_nextMinute 4 = .ok (.iload_n 1, 1) := by decide +kernel
theorem dX2_nextMinute_5 : decode cX2_nextMinute 5 = .ok (.laload, 1) := by decide +kernel
theorem dX2_nextMinute_6 : decode cX2_nextMinute 6 = .ok (.lconst 0, 1) := by decide +kernel
theorem dX2_nextMinute_7 : decode cX2_nextMinute 7 = .ok (.lcmp, 1) := by decide +kernel
theorem dX2_nextMinute_8 : decode cX2_nextMinute 8 = .ok (.ifCond .ne 7, 3) := by decide +kernel
theorem dX2_nextMinute_11 : decode cX2_nextMinute 11 = .ok (.iconst 1, 1) := by decide +kernel
theorem dX2_nextMinute_12 : decode cX2_nextMinute 12 = .ok (.goto 4, 3) := by decide +kernel
theorem dX2_nextMinute_15 : decode cX2_nextMinute 15 = .ok (.iconst 0, 1) := by decide +kernel
theorem dX2_nextMinute_16 : decode cX2_nextMinute 16 = .ok (.istore 4, 2) := by decide +kernel
theorem dX2_nextMinute_18 : decode cX2_nextMinute 18 = .ok (.aload_n 0, 1) := by decide +kernel
theorem dX2_nextMinute_19 : decode cX2_nextMinute 19 = .ok (.getfield 9, 3) := by decide +kernel
theorem dX2_nextMinute_22 : decode cX2_nextMinute 22 = .ok (.iload_n 1, 1) := by decide +kernel
theorem dX2_nextMinute_23 : decode cX2_nextMinute 23 = .ok (.baload, 1) := by decide +kernel
theorem dX2_nextMinute_24 : decode cX2_nextMinute 24 = .ok (.ifCond .ne 11, 3) := by decide +kernel
theorem dX2_nextMinute_27 : decode cX2_nextMinute 27 = .ok (.iload 4, 2) := by decide +kernel
theorem dX2_nextMinute_29 : decode cX2_nextMinute 29 = .ok (.ifCond .eq 6, 3) := by decide +kernel
theorem dX2_nextMinute_32 : decode cX2_nextMinute 32 = .ok (.bipush (-5), 2) := by decide +kernel
theorem dX2_nextMinute_34 : decode cX2_nextMinute 34 = .ok (.ireturn, 1) := by decide +kernel
theorem dX2_nextMinute_35 : decode cX2_nextMinute 35 = .ok (.aload_n 0, 1) := by decide +kernel
theorem dX2_nextMinute_36 : decode cX2_nextMinute 36 = .ok (.getfield 9, 3) := by decide +kernel
theorem dX2_nextMinute_39 : decode cX2_nextMinute 39 = .ok (.iload_n 1, 1) := by decide +kernel
theorem dX2_nextMinute_40 : decode cX2_nextMinute 40 = .ok (.baload, 1) := by decide +kernel
theorem dX2_nextMinute_41 : decode cX2_nextMinute 41 = .ok (.ifCond .eq 8, 3) := by decide +kernel
theorem dX2_nextMinute_44 : decode cX2_nextMinute 44 = .ok (.iload 4, 2) := by decide +kernel
theorem dX2_nextMinute_46 : decode cX2_nextMinute 46 = .ok (.ifCond .eq 7, 3) := by decide +kernel
theorem dX2_nextMinute_49 : decode cX2_nextMinute 49 = .ok (.iload_n 2, 1) := by decide +kernel
theorem dX2_nextMinute_50 : decode cX2_nextMinute 50 = .ok (.iconst 1, 1) := by decide +kernel
theorem dX2_nextMinute_51 : decode cX2_nextMinute 51 = .ok (.iadd, 1) := by decide +kernel
theorem dX2_nextMinute_52 : decode cX2_nextMinute 52 = .ok (.ireturn, 1) := by decide +kernel
theorem dX2_nextMinute_53 : decode cX2_nextMinute 53 = .ok (.aload_n 3, 1) := by decide +kernel
theorem dX2_nextMinute_54 : decode cX2_nextMinute 54 = .ok (.getfield 46, 3) := by decide +kernel
theorem dX2_nextMinute_57 : decode cX2_nextMinute 57 = .ok (.iconst 1, 1) := by decide +kernel
theorem dX2_nextMinute_58 : decode cX2_nextMinute 58 = .ok (.iaload, 1) := by decide +kernel
theorem dX2_nextMinute_59 : decode cX2_nextMinute 59 = .ok (.istore 5, 2) := by decide +kernel
theorem dX2_nextMinute_61 : decode cX2_nextMinute 61 = .ok (.aload_n 0, 1) := by decide +kernel
theorem dX2_nextMinute_62 : decode cX2_nextMinute 62 = .ok (.iload_n 1, 1) := by decide +kernel
theorem dX2_nextMinute_63 : decode cX2_nextMinute 63 = .ok (.invokevirtual 42, 3) := by decide +kernel
theorem dX2_nextMinute_66 : decode cX2_nextMinute 66 = .ok (.lconst 0, 1) := by decide +kernel
theorem dX2_nextMinute_67 : decode cX2_nextMinute 67 = .ok (.lcmp, 1) := by decide +kernel
theorem dX2_nextMinute_68 : decode cX2_nextMinute 68 = .ok (.ifCond .eq 16, 3) := by decide +kernel
theorem dX2_nextMinute_71 : decode cX2_nextMinute 71 = .ok (.iload 5, 2) := by decide +kernel
theorem dX2_nextMinute_73 : decode cX2_nextMinute 73 = .ok (.aload_n 3, 1) := by decide +kernel
theorem dX2_nextMinute_74 : decode cX2_nextMinute 74 = .ok (.getfield 46, 3) := by decide +kernel
theorem dX2_nextMinute_77 : decode cX2_nextMinute 77 = .ok (.iconst 0, 1) := by decide +kernel
theorem dX2_nextMinute_78 : decode cX2_nextMinute 78 = .ok (.iaload, 1) := by decide +kernel
theorem dX2_nextMinute_79 : decode cX2_nextMinute 79 = .ok (.invokestatic 49, 3) := by decide +kernel
theorem dX2_nextMinute_82 : decode cX2_nextMinute 82 = .ok (.istore 5, 2) := by decide +kernel
theorem dX2_nextMinute_84 : decode cX2_nextMinute 84 = .ok (.iload_n 2, 1) := by decide +kernel
theorem dX2_nextMinute_85 : decode cX2_nextMinute 85 = .ok (.iconst 1, 1) := by decide +kernel
theorem dX2_nextMinute_86 : decode cX2_nextMinute 86 = .ok (.iadd, 1) := by decide +kernel
theorem dX2_nextMinute_87 : decode cX2_nextMinute 87 = .ok (.aload_n 0, 1) := by decide +kernel
theorem dX2_nextMinute_88 : decode cX2_nextMinute 88 = .ok (.getfield 15, 3) := by decide +kernel
theorem dX2_nextMinute_91 : decode cX2_nextMinute 91 = .ok (.iload_n 1, 1) := by decide +kernel
theorem dX2_nextMinute_92 : decode cX2_nextMinute 92 = .ok (.iaload, 1) := by decide +kernel
theorem dX2_nextMinute_93 : decode cX2_nextMinute 93 = .ok (.iload 5, 2) := by decide +kernel
theorem dX2_nextMinute_95 : decode cX2_nextMinute 95 = .ok (.iadd, 1) := by decide +kernel
theorem dX2_nextMinute_96 : decode cX2_nextMinute 96 = .ok (.invokestatic 55, 3) := by decide +kernel
theorem dX2_nextMinute_99 : decode cX2_nextMinute 99 = .ok (.ireturn, 1) := by decide +kernel
theorem dX2_markSent_0 : decode cX2_markSent 0 = .ok (.aload_n 0, 1) := by decide +kernel
theorem dX2_markSent_1 : decode cX2_markSent 1 = .ok (.getfield 9, 3) := by decide +kernel
theorem dX2_markSent_4 : decode cX2_markSent 4 = .ok (.iload_n 1, 1) := by decide +kernel
theorem dX2_markSent_5 : decode cX2_markSent 5 = .ok (.iload_n 2, 1) := by decide +kernel
theorem dX2_markSent_6 : decode cX2_markSent 6 = .ok (.iconst 3, 1) := by decide +kernel
theorem dX2_markSent_7 : decode cX2_markSent 7 = .ok (.if_icmp .eq 7, 3) := by decide +kernel
theorem dX2_markSent_10 : decode cX2_markSent 10 = .ok (.iconst 1, 1) := by decide +kernel
theorem dX2_markSent_11 : decode cX2_markSent 11 = .ok (.goto 4, 3) := by decide +kernel
theorem dX2_markSent_14 : decode cX2_markSent 14 = .ok (.iconst 0, 1) := by decide +kernel
theorem dX2_markSent_15 : decode cX2_markSent 15 = .ok (.bastore, 1) := by decide +kernel
theorem dX2_markSent_16 : decode cX2_markSent 16 = .ok (.aload_n 0, 1) := by decide +kernel
theorem dX2_markSent_17 : decode cX2_markSent 17 = .ok (.getfield 15, 3) := by decide +kernel
theorem dX2_markSent_20 : decode cX2_markSent 20 = .ok (.iload_n 1, 1) := by decide +kernel
theorem dX2_markSent_21 : decode cX2_markSent 21 = .ok (.iload_n 3, 1) := by decide +kernel
theorem dX2_markSent_22 : decode cX2_markSent 22 = .ok (.iastore, 1) := by decide +kernel
theorem dX2_markSent_23 : decode cX2_markSent 23 = .ok (.aload_n 0, 1) := by decide +kernel
theorem dX2_markSent_24 : decode cX2_markSent 24 = .ok (.getfield 19, 3) := by decide +kernel
theorem dX2_markSent_27 : decode cX2_markSent 27 = .ok (.iload_n 1, 1) := by decide +kernel
theorem dX2_markSent_28 : decode cX2_markSent 28 = .ok (.aload_n 0, 1) := by decide +kernel
theorem dX2_markSent_29 : decode cX2_markSent 29 = .ok (.getfield 23, 3) := by decide +kernel
theorem dX2_markSent_32 : decode cX2_markSent 32 = .ok (.iload_n 1, 1) := by decide +kernel
theorem dX2_markSent_33 : decode cX2_markSent 33 = .ok (.laload, 1) := by decide +kernel
theorem dX2_markSent_34 : decode cX2_markSent 34 = .ok (.lastore, 1) := by decide +kernel
theorem dX2_markSent_35 : decode cX2_markSent 35 = .ok (.return_, 1) := by decide +kernel
theorem dX2_countOpen_0 : decode cX2_countOpen 0 = .ok (.iconst 0, 1) := by decide +kernel
theorem dX2_countOpen_1 : decode cX2_countOpen 1 = .ok (.istore_n 1, 1) := by decide +kernel
theorem dX2_countOpen_2 : decode cX2_countOpen 2 = .ok (.iconst 0, 1) := by decide +kernel
theorem dX2_countOpen_3 : decode cX2_countOpen 3 = .ok (.istore_n 2, 1) := by decide +kernel
theorem dX2_countOpen_4 : decode cX2_countOpen 4 = .ok (.iload_n 2, 1) := by decide +kernel
theorem dX2_countOpen_5 : decode cX2_countOpen 5 = .ok (.sipush 128, 3) := by decide +kernel
theorem dX2_countOpen_8 : decode cX2_countOpen 8 = .ok (.if_icmp .ge 21, 3) := by decide +kernel
theorem dX2_countOpen_11 : decode cX2_countOpen 11 = .ok (.aload_n 0, 1) := by decide +kernel
theorem dX2_countOpen_12 : decode cX2_countOpen 12 = .ok (.getfield 9, 3) := by decide +kernel
theorem dX2_countOpen_15 : decode cX2_countOpen 15 = .ok (.iload_n 2, 1) := by decide +kernel
theorem dX2_countOpen_16 : decode cX2_countOpen 16 = .ok (.baload, 1) := by decide +kernel
theorem dX2_countOpen_17 : decode cX2_countOpen 17 = .ok (.ifCond .eq 6, 3) := by decide +kernel
theorem dX2_countOpen_20 : decode cX2_countOpen 20 = .ok (.iinc 1 1, 3) := by decide +kernel
theorem dX2_countOpen_23 : decode cX2_countOpen 23 = .ok (.iinc 2 1, 3) := by decide +kernel
theorem dX2_countOpen_26 : decode cX2_countOpen 26 = .ok (.goto (-22), 3) := by decide +kernel
theorem dX2_countOpen_29 : decode cX2_countOpen 29 = .ok (.iload_n 1, 1) := by decide +kernel
theorem dX2_countOpen_30 : decode cX2_countOpen 30 = .ok (.ireturn, 1) := by decide +kernel
theorem dX2_countNonEmpty_0 : decode cX2_countNonEmpty 0 = .ok (.iconst 0, 1) := by decide +kernel
theorem dX2_countNonEmpty_1 : decode cX2_countNonEmpty 1 = .ok (.istore_n 1, 1) := by decide +kernel
theorem dX2_countNonEmpty_2 : decode cX2_countNonEmpty 2 = .ok (.iconst 0, 1) := by decide +kernel
theorem dX2_countNonEmpty_3 : decode cX2_countNonEmpty 3 = .ok (.istore_n 2, 1) := by decide +kernel
theorem dX2_countNonEmpty_4 : decode cX2_countNonEmpty 4 = .ok (.iload_n 2, 1) := by decide +kernel
theorem dX2_countNonEmpty_5 : decode cX2_countNonEmpty 5 = .ok (.sipush 128, 3) := by decide +kernel
theorem dX2_countNonEmpty_8 : decode cX2_countNonEmpty 8 = .ok (.if_icmp .ge 23, 3) := by decide +kernel
theorem dX2_countNonEmpty_11 : decode cX2_countNonEmpty 11 = .ok (.aload_n 0, 1) := by decide +kernel
theorem dX2_countNonEmpty_12 : decode cX2_countNonEmpty 12 = .ok (.getfield 23, 3) := by decide +kernel
theorem dX2_countNonEmpty_15 : decode cX2_countNonEmpty 15 = .ok (.iload_n 2, 1) := by decide +kernel
theorem dX2_countNonEmpty_16 : decode cX2_countNonEmpty 16 = .ok (.laload, 1) := by decide +kernel
theorem dX2_countNonEmpty_17 : decode cX2_countNonEmpty 17 = .ok (.lconst 0, 1) := by decide +kernel
theorem dX2_countNonEmpty_18 : decode cX2_countNonEmpty 18 = .ok (.lcmp, 1) := by decide +kernel
theorem dX2_countNonEmpty_19 : decode cX2_countNonEmpty 19 = .ok (.ifCond .eq 6, 3) := by decide +kernel
theorem dX2_countNonEmpty_22 : decode cX2_countNonEmpty 22 = .ok (.iinc 1 1, 3) := by decide +kernel
theorem dX2_countNonEmpty_25 : decode cX2_countNonEmpty 25 = .ok (.iinc 2 1, 3) := by decide +kernel
theorem dX2_countNonEmpty_28 : decode cX2_countNonEmpty 28 = .ok (.goto (-24), 3) := by decide +kernel
theorem dX2_countNonEmpty_31 : decode cX2_countNonEmpty 31 = .ok (.iload_n 1, 1) := by decide +kernel
theorem dX2_countNonEmpty_32 : decode cX2_countNonEmpty 32 = .ok (.ireturn, 1) := by decide +kernel
theorem dX2_keyAt_0 : decode cX2_keyAt 0 = .ok (.iload_n 1, 1) := by decide +kernel
theorem dX2_keyAt_1 : decode cX2_keyAt 1 = .ok (.istore_n 2, 1) := by decide +kernel
theorem dX2_keyAt_2 : decode cX2_keyAt 2 = .ok (.iconst 0, 1) := by decide +kernel
theorem dX2_keyAt_3 : decode cX2_keyAt 3 = .ok (.istore_n 3, 1) := by decide +kernel
theorem dX2_keyAt_4 : decode cX2_keyAt 4 = .ok (.iload_n 3, 1) := by decide +kernel
theorem dX2_keyAt_5 : decode cX2_keyAt 5 = .ok (.sipush 128, 3) := by decide +kernel
theorem dX2_keyAt_8 : decode cX2_keyAt 8 = .ok (.if_icmp .ge 32, 3) := by decide +kernel
theorem dX2_keyAt_11 : decode cX2_keyAt 11 = .ok (.aload_n 0, 1) := by decide +kernel
theorem dX2_keyAt_12 : decode cX2_keyAt 12 = .ok (.getfield 23, 3) := by decide +kernel
theorem dX2_keyAt_15 : decode cX2_keyAt 15 = .ok (.iload_n 3, 1) := by decide +kernel
theorem dX2_keyAt_16 : decode cX2_keyAt 16 = .ok (.laload, 1) := by decide +kernel
theorem dX2_keyAt_17 : decode cX2_keyAt 17 = .ok (.lconst 0, 1) := by decide +kernel
theorem dX2_keyAt_18 : decode cX2_keyAt 18 = .ok (.lcmp, 1) := by decide +kernel
theorem dX2_keyAt_19 : decode cX2_keyAt 19 = .ok (.ifCond .ne 6, 3) := by decide +kernel
theorem dX2_keyAt_22 : decode cX2_keyAt 22 = .ok (.goto 12, 3) := by decide +kernel
theorem dX2_keyAt_25 : decode cX2_keyAt 25 = .ok (.iload_n 2, 1) := by decide +kernel
theorem dX2_keyAt_26 : decode cX2_keyAt 26 = .ok (.ifCond .ne 5, 3) := by decide +kernel
theorem dX2_keyAt_29 : decode cX2_keyAt 29 = .ok (.iload_n 3, 1) := by decide +kernel
theorem dX2_keyAt_30 : decode cX2_keyAt 30 = .ok (.ireturn, 1) := by decide +kernel
theorem dX2_keyAt_31 : decode cX2_keyAt 31 = .ok (.iinc 2 (-1), 3) := by decide +kernel
theorem dX2_keyAt_34 : decode cX2_keyAt 34 = .ok (.iinc 3 1, 3) := by decide +kernel
theorem dX2_keyAt_37 : decode cX2_keyAt 37 = .ok (.goto (-33), 3) := by decide +kernel
theorem dX2_keyAt_40 : decode cX2_keyAt 40 = .ok (.iconst (-1), 1) := by decide +kernel
theorem dX2_keyAt_41 : decode cX2_keyAt 41 = .ok (.ireturn, 1) := by decide +kernel
theorem dX3_init_0 : decode cX3_init 0 = .ok (.aload_n 0, 1) := by decide +kernel
theorem dX3_init_1 : decode cX3_init 1 = .ok (.invokespecial 1, 3) := by decide +kernel
theorem dX3_init_4 : decode cX3_init 4 = .ok (.aload_n 0, 1) := by decide +kernel
theorem dX3_init_5 : decode cX3_init 5 = .ok (.aload_n 1, 1) := by decide +kernel
theorem dX3_init_6 : decode cX3_init 6 = .ok (.putfield 7, 3) := by decide +kernel
theorem dX3_init_9 : decode cX3_init 9 = .ok (.aload_n 0, 1) := by decide +kernel
theorem dX3_init_10 : decode cX3_init 10 = .ok (.aload_n 2, 1) := by decide +kernel
theorem dX3_init_11 : decode cX3_init 11 = .ok (.putfield 13, 3) := by decide +kernel
theorem dX3_init_14 : decode cX3_init 14 = .ok (.aload_n 0, 1) := by decide +kernel
theorem dX3_init_15 : decode cX3_init 15 = .ok (.iload_n 3, 1) := by decide +kernel
theorem dX3_init_16 : decode cX3_init 16 = .ok (.putfield 16, 3) := by decide +kernel
theorem dX3_init_19 : decode cX3_init 19 = .ok (.return_, 1) := by decide +kernel
theorem dX4_init_0 : decode cX4_init 0 = .ok (.aload_n 0, 1) := by decide +kernel
theorem dX4_init_1 : decode cX4_init 1 = .ok (.invokespecial 1, 3) := by decide +kernel
theorem dX4_init_4 : decode cX4_init 4 = .ok (.aload_n 0, 1) := by decide +kernel
theorem dX4_init_5 : decode cX4_init 5 = .ok (.sipush 150, 3) := by decide +kernel
theorem dX4_init_8 : decode cX4_init 8 = .ok (.newarray .int, 2) := by decide +kernel
theorem dX4_init_10 : decode cX4_init 10 = .ok (.putfield 9, 3) := by decide +kernel
theorem dX4_init_13 : decode cX4_init 13 = .ok (.return_, 1) := by decide +kernel
theorem dX4_copyFrom_0 : decode cX4_copyFrom 0 = .ok (.aload_n 0, 1) := by decide +kernel
theorem dX4_copyFrom_1 : decode cX4_copyFrom 1 = .ok (.aload_n 1, 1) := by decide +kernel
theorem dX4_copyFrom_2 : decode cX4_copyFrom 2 = .ok (.getfield 13, 3) := by decide +kernel
theorem dX4_copyFrom_5 : decode cX4_copyFrom 5 = .ok (.putfield 13, 3) := by decide +kernel
theorem dX4_copyFrom_8 : decode cX4_copyFrom 8 = .ok (.aload_n 1, 1) := by decide +kernel
theorem dX4_copyFrom_9 : decode cX4_copyFrom 9 = .ok (.getfield 9, 3) := by decide +kernel
theorem dX4_copyFrom_12 : decode cX4_copyFrom 12 = .ok (.iconst 0, 1) := by decide +kernel
theorem dX4_copyFrom_13 : decode cX4_copyFrom 13 = .ok (.aload_n 0, 1) := by decide +kernel
theorem dX4_copyFrom_14 : decode cX4_copyFrom 14 = .ok (.getfield 9, 3) := by decide +kernel
theorem dX4_copyFrom_17 : decode cX4_copyFrom 17 = .ok (.iconst 0, 1) := by decide +kernel
theorem dX4_copyFrom_18 : decode cX4_copyFrom 18 = .ok (.aload_n 0, 1) := by decide +kernel
theorem dX4_copyFrom_19 : decode cX4_copyFrom 19 = .ok (.getfield 9, 3) := by decide +kernel
theorem dX4_copyFrom_22 : decode cX4_copyFrom 22 = .ok (.arraylength, 1) := by decide +kernel
theorem dX4_copyFrom_23 : decode cX4_copyFrom 23 = .ok (.invokestatic 17, 3) := by decide +kernel
theorem dX4_copyFrom_26 : decode cX4_copyFrom 26 = .ok (.return_, 1) := by decide +kernel
theorem dX4_write_0 : decode cX4_write 0 = .ok (.aload_n 0, 1) := by decide +kernel
theorem dX4_write_1 : decode cX4_write 1 = .ok (.getfield 13, 3) := by decide +kernel
theorem dX4_write_4 : decode cX4_write 4 = .ok (.bipush 30, 2) := by decide +kernel
theorem dX4_write_6 : decode cX4_write 6 = .ok (.irem, 1) := by decide +kernel
theorem dX4_write_7 : decode cX4_write 7 = .ok (.iconst 5, 1) := by decide +kernel
theorem dX4_write_8 : decode cX4_write 8 = .ok (.imul, 1) := by decide +kernel
theorem dX4_write_9 : decode cX4_write 9 = .ok (.istore 6, 2) := by decide +kernel
theorem dX4_write_11 : decode cX4_write 11 = .ok (.aload_n 0, 1) := by decide +kernel
theorem dX4_write_12 : decode cX4_write 12 = .ok (.getfield 9, 3) := by decide +kernel
theorem dX4_write_15 : decode cX4_write 15 = .ok (.iload 6, 2) := by decide +kernel
theorem dX4_write_17 : decode cX4_write 17 = .ok (.iload_n 1, 1) := by decide +kernel
theorem dX4_write_18 : decode cX4_write 18 = .ok (.iastore, 1) := by decide +kernel
theorem dX4_write_19 : decode cX4_write 19 = .ok (.aload_n 0, 1) := by decide +kernel
theorem dX4_write_20 : decode cX4_write 20 = .ok (.getfield 9, 3) := by decide +kernel
theorem dX4_write_23 : decode cX4_write 23 = .ok (.iload 6, 2) := by decide +kernel
theorem dX4_write_25 : decode cX4_write 25 = .ok (.iconst 1, 1) := by decide +kernel
theorem dX4_write_26 : decode cX4_write 26 = .ok (.iadd, 1) := by decide +kernel
theorem dX4_write_27 : decode cX4_write 27 = .ok (.iload_n 2, 1) := by decide +kernel
theorem dX4_write_28 : decode cX4_write 28 = .ok (.iastore, 1) := by decide +kernel
theorem dX4_write_29 : decode cX4_write 29 = .ok (.aload_n 0, 1) := by decide +kernel
theorem dX4_write_30 : decode cX4_write 30 = .ok (.getfield 9, 3) := by decide +kernel
theorem dX4_write_33 : decode cX4_write 33 = .ok (.iload 6, 2) := by decide +kernel
theorem dX4_write_35 : decode cX4_write 35 = .ok (.iconst 2, 1) := by decide +kernel
theorem dX4_write_36 : decode cX4_write 36 = .ok (.iadd, 1) := by decide +kernel
theorem dX4_write_37 : decode cX4_write 37 = .ok (.iload_n 3, 1) := by decide +kernel
theorem dX4_write_38 : decode cX4_write 38 = .ok (.iastore, 1) := by decide +kernel
theorem dX4_write_39 : decode cX4_write 39 = .ok (.aload_n 0, 1) := by decide +kernel
theorem dX4_write_40 : decode cX4_write 40 = .ok (.getfield 9, 3) := by decide +kernel
theorem dX4_write_43 : decode cX4_write 43 = .ok (.iload 6, 2) := by decide +kernel
theorem dX4_write_45 : decode cX4_write 45 = .ok (.iconst 3, 1) := by decide +kernel
theorem dX4_write_46 : decode cX4_write 46 = .ok (.iadd, 1) := by decide +kernel
theorem dX4_write_47 : decode cX4_write 47 = .ok (.iload 4, 2) := by decide +kernel
theorem dX4_write_49 : decode cX4_write 49 = .ok (.iastore, 1) := by decide +kernel
theorem dX4_write_50 : decode cX4_write 50 = .ok (.aload_n 0, 1) := by decide +kernel
theorem dX4_write_51 : decode cX4_write 51 = .ok (.getfield 9, 3) := by decide +kernel
theorem dX4_write_54 : decode cX4_write 54 = .ok (.iload 6, 2) := by decide +kernel
theorem dX4_write_56 : decode cX4_write 56 = .ok (.iconst 4, 1) := by decide +kernel
theorem dX4_write_57 : decode cX4_write 57 = .ok (.iadd, 1) := by decide +kernel
theorem dX4_write_58 : decode cX4_write 58 = .ok (.iload 5, 2) := by decide +kernel
theorem dX4_write_60 : decode cX4_write 60 = .ok (.iastore, 1) := by decide +kernel
theorem dX4_write_61 : decode cX4_write 61 = .ok (.aload_n 0, 1) := by decide +kernel
theorem dX4_write_62 : decode cX4_write 62 = .ok (.dup, 1) := by decide +kernel
theorem dX4_write_63 : decode cX4_write 63 = .ok (.getfield 13, 3) := by decide +kernel
theorem dX4_write_66 : decode cX4_write 66 = .ok (.iconst 1, 1) := by decide +kernel
theorem dX4_write_67 : decode cX4_write 67 = .ok (.iadd, 1) := by decide +kernel
theorem dX4_write_68 : decode cX4_write 68 = .ok (.putfield 13, 3) := by decide +kernel
theorem dX4_write_71 : decode cX4_write 71 = .ok (.return_, 1) := by decide +kernel
theorem dX4_keeps_0 : decode cX4_keeps 0 = .ok (.iload_n 1, 1) := by decide +kernel
theorem dX4_keeps_1 : decode cX4_keeps 1 = .ok (.ifCond .lt 21, 3) := by decide +kernel
theorem dX4_keeps_4 : decode cX4_keeps 4 = .ok (.iload_n 1, 1) := by decide +kernel
theorem dX4_keeps_5 : decode cX4_keeps 5 = .ok (.bipush 30, 2) := by decide +kernel
theorem dX4_keeps_7 : decode cX4_keeps 7 = .ok (.if_icmp .ge 15, 3) := by decide +kernel
theorem dX4_keeps_10 : decode cX4_keeps 10 = .ok (.iload_n 1, 1) := by decide +kernel
theorem dX4_keeps_11 : decode cX4_keeps 11 = .ok (.aload_n 0, 1) := by decide +kernel
theorem dX4_keeps_12 : decode cX4_keeps 12 = .ok (.getfield 13, 3) := by decide +kernel
theorem dX4_keeps_15 : decode cX4_keeps 15 = .ok (.if_icmp .ge 7, 3) := by decide +kernel
theorem dX4_keeps_18 : decode cX4_keeps 18 = .ok (.iconst 1, 1) := by decide +kernel
theorem dX4_keeps_19 : decode cX4_keeps 19 = .ok (.goto 4, 3) := by decide +kernel
theorem dX4_keeps_22 : decode cX4_keeps 22 = .ok (.iconst 0, 1) := by decide +kernel
theorem dX4_keeps_23 : decode cX4_keeps 23 = .ok (.ireturn, 1) := by decide +kernel
theorem dX4_read_0 : decode cX4_read 0 = .ok (.aload_n 0, 1) := by decide +kernel
theorem dX4_read_1 : decode cX4_read 1 = .ok (.getfield 9, 3) := by decide +kernel
theorem dX4_read_4 : decode cX4_read 4 = .ok (.aload_n 0, 1) := by decide +kernel
theorem dX4_read_5 : decode cX4_read 5 = .ok (.getfield 13, 3) := by decide +kernel
theorem dX4_read_8 : decode cX4_read 8 = .ok (.iconst 1, 1) := by decide +kernel
theorem dX4_read_9 : decode cX4_read 9 = .ok (.isub, 1) := by decide +kernel
theorem dX4_read_10 : decode cX4_read 10 = .ok (.iload_n 1, 1) := by decide +kernel
theorem dX4_read_11 : decode cX4_read 11 = .ok (.isub, 1) := by decide +kernel
theorem dX4_read_12 : decode cX4_read 12 = .ok (.bipush 30, 2) := by decide +kernel
theorem dX4_read_14 : decode cX4_read 14 = .ok (.irem, 1) := by decide +kernel
theorem dX4_read_15 : decode cX4_read 15 = .ok (.iconst 5, 1) := by decide +kernel
theorem dX4_read_16 : decode cX4_read 16 = .ok (.imul, 1) := by decide +kernel
theorem dX4_read_17 : decode cX4_read 17 = .ok (.iload_n 2, 1) := by decide +kernel
theorem dX4_read_18 : decode cX4_read 18 = .ok (.iadd, 1) := by decide +kernel
theorem dX4_read_19 : decode cX4_read 19 = .ok (.iaload, 1) := by decide +kernel
theorem dX4_read_20 : decode cX4_read 20 = .ok (.ireturn, 1) := by decide +kernel
theorem dX5_init_0 : decode cX5_init 0 = .ok (.aload_n 0, 1) := by decide +kernel
theorem dX5_init_1 : decode cX5_init 1 = .ok (.invokespecial 1, 3) := by decide +kernel
theorem dX5_init_4 : decode cX5_init 4 = .ok (.aload_n 0, 1) := by decide +kernel
theorem dX5_init_5 : decode cX5_init 5 = .ok (.iconst 4, 1) := by decide +kernel
theorem dX5_init_6 : decode cX5_init 6 = .ok (.newarray .int, 2) := by decide +kernel
theorem dX5_init_8 : decode cX5_init 8 = .ok (.putfield 9, 3) := by decide +kernel
theorem dX5_init_11 : decode cX5_init 11 = .ok (.aload_n 0, 1) := by decide +kernel
theorem dX5_init_12 : decode cX5_init 12 = .ok (.iconst 4, 1) := by decide +kernel
theorem dX5_init_13 : decode cX5_init 13 = .ok (.newarray .boolean, 2) := by decide +kernel
theorem dX5_init_15 : decode cX5_init 15 = .ok (.putfield 13, 3) := by decide +kernel
theorem dX5_init_18 : decode cX5_init 18 = .ok (.return_, 1) := by decide +kernel
theorem dX6_init_0 : decode cX6_init 0 = .ok (.aload_n 0, 1) := by decide +kernel
theorem dX6_init_1 : decode cX6_init 1 = .ok (.invokespecial 1, 3) := by decide +kernel
theorem dX6_init_4 : decode cX6_init 4 = .ok (.aload_n 0, 1) := by decide +kernel
theorem dX6_init_5 : decode cX6_init 5 = .ok (.aload_n 1, 1) := by decide +kernel
theorem dX6_init_6 : decode cX6_init 6 = .ok (.putfield 7, 3) := by decide +kernel
theorem dX6_init_9 : decode cX6_init 9 = .ok (.aload_n 0, 1) := by decide +kernel
theorem dX6_init_10 : decode cX6_init 10 = .ok (.iload_n 2, 1) := by decide +kernel
theorem dX6_init_11 : decode cX6_init 11 = .ok (.putfield 13, 3) := by decide +kernel
theorem dX6_init_14 : decode cX6_init 14 = .ok (.aload_n 0, 1) := by decide +kernel
theorem dX6_init_15 : decode cX6_init 15 = .ok (.iload_n 3, 1) := by decide +kernel
theorem dX6_init_16 : decode cX6_init 16 = .ok (.putfield 17, 3) := by decide +kernel
theorem dX6_init_19 : decode cX6_init 19 = .ok (.aload_n 0, 1) := by decide +kernel
theorem dX6_init_20 : decode cX6_init 20 = .ok (.iload 4, 2) := by decide +kernel
theorem dX6_init_22 : decode cX6_init 22 = .ok (.putfield 20, 3) := by decide +kernel
theorem dX6_init_25 : decode cX6_init 25 = .ok (.aload_n 0, 1) := by decide +kernel
theorem dX6_init_26 : decode cX6_init 26 = .ok (.iload 5, 2) := by decide +kernel
theorem dX6_init_28 : decode cX6_init 28 = .ok (.putfield 23, 3) := by decide +kernel
theorem dX6_init_31 : decode cX6_init 31 = .ok (.return_, 1) := by decide +kernel
theorem dX6_accepts_0 : decode cX6_accepts 0 = .ok (.aload_n 0, 1) := by decide +kernel
theorem dX6_accepts_1 : decode cX6_accepts 1 = .ok (.getfield 13, 3) := by decide +kernel
theorem dX6_accepts_4 : decode cX6_accepts 4 = .ok (.bipush 60, 2) := by decide +kernel
theorem dX6_accepts_6 : decode cX6_accepts 6 = .ok (.if_icmp .ne 17, 3) := by decide +kernel
theorem dX6_accepts_9 : decode cX6_accepts 9 = .ok (.iload_n 1, 1) := by decide +kernel
theorem dX6_accepts_10 : decode cX6_accepts 10 = .ok (.aload_n 0, 1) := by decide +kernel
theorem dX6_accepts_11 : decode cX6_accepts 11 = .ok (.getfield 17, 3) := by decide +kernel
theorem dX6_accepts_14 : decode cX6_accepts 14 = .ok (.if_icmp .ge 7, 3) := by decide +kernel
theorem dX6_accepts_17 : decode cX6_accepts 17 = .ok (.iconst 1, 1) := by decide +kernel
theorem dX6_accepts_18 : decode cX6_accepts 18 = .ok (.goto 4, 3) := by decide +kernel
theorem dX6_accepts_21 : decode cX6_accepts 21 = .ok (.iconst 0, 1) := by decide +kernel
theorem dX6_accepts_22 : decode cX6_accepts 22 = .ok (.ireturn, 1) := by decide +kernel
theorem dX6_accepts_23 : decode cX6_accepts 23 = .ok (.aload_n 0, 1) := by decide +kernel
theorem dX6_accepts_24 : decode cX6_accepts 24 = .ok (.getfield 13, 3) := by decide +kernel
theorem dX6_accepts_27 : decode cX6_accepts 27 = .ok (.bipush 62, 2) := by decide +kernel
theorem dX6_accepts_29 : decode cX6_accepts 29 = .ok (.if_icmp .ne 17, 3) := by decide +kernel
theorem dX6_accepts_32 : decode cX6_accepts 32 = .ok (.iload_n 1, 1) := by decide +kernel
theorem dX6_accepts_33 : decode cX6_accepts 33 = .ok (.aload_n 0, 1) := by decide +kernel
theorem dX6_accepts_34 : decode cX6_accepts 34 = .ok (.getfield 17, 3) := by decide +kernel
theorem dX6_accepts_37 : decode cX6_accepts 37 = .ok (.if_icmp .le 7, 3) := by decide +kernel
theorem dX6_accepts_40 : decode cX6_accepts 40 = .ok (.iconst 1, 1) := by decide +kernel
theorem dX6_accepts_41 : decode cX6_accepts 41 = .ok (.goto 4, 3) := by decide +kernel
theorem dX6_accepts_44 : decode cX6_accepts 44 = .ok (.iconst 0, 1) := by decide +kernel
theorem dX6_accepts_45 : decode cX6_accepts 45 = .ok (.ireturn, 1) := by decide +kernel
theorem dX6_accepts_46 : decode cX6_accepts 46 = .ok (.iload_n 1, 1) := by decide +kernel
theorem dX6_accepts_47 : decode cX6_accepts 47 = .ok (.aload_n 0, 1) := by decide +kernel
theorem dX6_accepts_48 : decode cX6_accepts 48 = .ok (.getfield 17, 3) := by decide +kernel
theorem dX6_accepts_51 : decode cX6_accepts 51 = .ok (.if_icmp .ne 7, 3) := by decide +kernel
theorem dX6_accepts_54 : decode cX6_accepts 54 = .ok (.iconst 1, 1) := by decide +kernel
theorem dX6_accepts_55 : decode cX6_accepts 55 = .ok (.goto 4, 3) := by decide +kernel
theorem dX6_accepts_58 : decode cX6_accepts 58 = .ok (.iconst 0, 1) := by decide +kernel
theorem dX6_accepts_59 : decode cX6_accepts 59 = .ok (.ireturn, 1) := by decide +kernel
theorem dX7_init_0 : decode cX7_init 0 = .ok (.aload_n 0, 1) := by decide +kernel
theorem dX7_init_1 : decode cX7_init 1 = .ok (.invokespecial 3, 3) := by decide +kernel
theorem dX7_init_4 : decode cX7_init 4 = .ok (.aload_n 0, 1) := by decide +kernel
theorem dX7_init_5 : decode cX7_init 5 = .ok (.bipush 36, 2) := by decide +kernel
theorem dX7_init_7 : decode cX7_init 7 = .ok (.newarray .int, 2) := by decide +kernel
theorem dX7_init_9 : decode cX7_init 9 = .ok (.putfield 9, 3) := by decide +kernel
theorem dX7_init_12 : decode cX7_init 12 = .ok (.aload_n 0, 1) := by decide +kernel
theorem dX7_init_13 : decode cX7_init 13 = .ok (.bipush 12, 2) := by decide +kernel
theorem dX7_init_15 : decode cX7_init 15 = .ok (.newarray .int, 2) := by decide +kernel
theorem dX7_init_17 : decode cX7_init 17 = .ok (.putfield 15, 3) := by decide +kernel
theorem dX7_init_20 : decode cX7_init 20 = .ok (.aload_n 0, 1) := by decide +kernel
theorem dX7_init_21 : decode cX7_init 21 = .ok (.bipush 12, 2) := by decide +kernel
theorem dX7_init_23 : decode cX7_init 23 = .ok (.newarray .boolean, 2) := by decide +kernel
theorem dX7_init_25 : decode cX7_init 25 = .ok (.putfield 18, 3) := by decide +kernel
theorem dX7_init_28 : decode cX7_init 28 = .ok (.aload_n 0, 1) := by decide +kernel
theorem dX7_init_29 : decode cX7_init 29 = .ok (.iconst 5, 1) := by decide +kernel
theorem dX7_init_30 : decode cX7_init 30 = .ok (.anewarray 22, 3) := by decide +kernel
theorem dX7_init_33 : decode cX7_init 33 = .ok (.putfield 24, 3) := by decide +kernel
theorem dX7_init_36 : decode cX7_init 36 = .ok (.aload_n 0, 1) := by decide +kernel
theorem dX7_init_37 : decode cX7_init 37 = .ok (.bipush 6, 2) := by decide +kernel
theorem dX7_init_39 : decode cX7_init 39 = .ok (.anewarray 28, 3) := by decide +kernel
theorem dX7_init_42 : decode cX7_init 42 = .ok (.putfield 30, 3) := by decide +kernel
theorem dX7_init_45 : decode cX7_init 45 = .ok (.aload_n 0, 1) := by decide +kernel
theorem dX7_init_46 : decode cX7_init 46 = .ok (.iconst 4, 1) := by decide +kernel
theorem dX7_init_47 : decode cX7_init 47 = .ok (.anewarray 34, 3) := by decide +kernel
theorem dX7_init_50 : decode cX7_init 50 = .ok (.putfield 36, 3) := by decide +kernel
theorem dX7_init_53 : decode cX7_init 53 = .ok (.aload_n 0, 1) := by decide +kernel
theorem dX7_init_54 : decode cX7_init 54 = .ok (.iconst 5, 1) := by decide +kernel
theorem dX7_init_55 : decode cX7_init 55 = .ok (.newarray .int, 2) := by decide +kernel
theorem dX7_init_57 : decode cX7_init 57 = .ok (.dup, 1) := by decide +kernel
theorem dX7_init_58 : decode cX7_init 58 = .ok (.iconst 0, 1) := by decide +kernel
theorem dX7_init_59 : decode cX7_init 59 = .ok (.iconst 5, 1) := by decide +kernel
theorem dX7_init_60 : decode cX7_init 60 = .ok (.iastore, 1) := by decide +kernel
theorem dX7_init_61 : decode cX7_init 61 = .ok (.dup, 1) := by decide +kernel
theorem dX7_init_62 : decode cX7_init 62 = .ok (.iconst 1, 1) := by decide +kernel
theorem dX7_init_63 : decode cX7_init 63 = .ok (.bipush 60, 2) := by decide +kernel
theorem dX7_init_65 : decode cX7_init 65 = .ok (.iastore, 1) := by decide +kernel
theorem dX7_init_66 : decode cX7_init 66 = .ok (.dup, 1) := by decide +kernel
theorem dX7_init_67 : decode cX7_init 67 = .ok (.iconst 2, 1) := by decide +kernel
theorem dX7_init_68 : decode cX7_init 68 = .ok (.bipush 30, 2) := by decide +kernel
theorem dX7_init_70 : decode cX7_init 70 = .ok (.iastore, 1) := by decide +kernel
theorem dX7_init_71 : decode cX7_init 71 = .ok (.dup, 1) := by decide +kernel
theorem dX7_init_72 : decode cX7_init 72 = .ok (.iconst 3, 1) := by decide +kernel
theorem dX7_init_73 : decode cX7_init 73 = .ok (.iconst 4, 1) := by decide +kernel
theorem dX7_init_74 : decode cX7_init 74 = .ok (.iastore, 1) := by decide +kernel
theorem dX7_init_75 : decode cX7_init 75 = .ok (.dup, 1) := by decide +kernel
theorem dX7_init_76 : decode cX7_init 76 = .ok (.iconst 4, 1) := by decide +kernel
theorem dX7_init_77 : decode cX7_init 77 = .ok (.iconst 1, 1) := by decide +kernel
theorem dX7_init_78 : decode cX7_init 78 = .ok (.iastore, 1) := by decide +kernel
theorem dX7_init_79 : decode cX7_init 79 = .ok (.putfield 40, 3) := by decide +kernel
theorem dX7_init_82 : decode cX7_init 82 = .ok (.aload_n 0, 1) := by decide +kernel
theorem dX7_init_83 : decode cX7_init 83 = .ok (.bipush 20, 2) := by decide +kernel
theorem dX7_init_85 : decode cX7_init 85 = .ok (.newarray .long, 2) := by decide +kernel
theorem dX7_init_87 : decode cX7_init 87 = .ok (.putfield 43, 3) := by decide +kernel
theorem dX7_init_90 : decode cX7_init 90 = .ok (.aload_n 0, 1) := by decide +kernel
theorem dX7_init_91 : decode cX7_init 91 = .ok (.invokevirtual 47, 3) := by decide +kernel
theorem dX7_init_94 : decode cX7_init 94 = .ok (.return_, 1) := by decide +kernel
theorem dX7_copyFrom_0 : decode cX7_copyFrom 0 = .ok (.aload_n 1, 1) := by decide +kernel
theorem dX7_copyFrom_1 : decode cX7_copyFrom 1 = .ok (.getfield 9, 3) := by decide +kernel
theorem dX7_copyFrom_4 : decode cX7_copyFrom 4 = .ok (.iconst 0, 1) := by decide +kernel
theorem dX7_copyFrom_5 : decode cX7_copyFrom 5 = .ok (.aload_n 0, 1) := by decide +kernel
theorem dX7_copyFrom_6 : decode cX7_copyFrom 6 = .ok (.getfield 9, 3) := by decide +kernel
theorem dX7_copyFrom_9 : decode cX7_copyFrom 9 = .ok (.iconst 0, 1) := by decide +kernel
theorem dX7_copyFrom_10 : decode cX7_copyFrom 10 = .ok (.aload_n 0, 1) := by decide +kernel
theorem dX7_copyFrom_11 : decode cX7_copyFrom 11 = .ok (.getfield 9, 3) := by decide +kernel
theorem dX7_copyFrom_14 : decode cX7_copyFrom 14 = .ok (.arraylength, 1) := by decide +kernel
theorem dX7_copyFrom_15 : decode cX7_copyFrom 15 = .ok (.invokestatic 50, 3) := by decide +kernel
theorem dX7_copyFrom_18 : decode cX7_copyFrom 18 = .ok (.aload_n 1, 1) := by decide +kernel
theorem dX7_copyFrom_19 : decode cX7_copyFrom 19 = .ok (.getfield 15, 3) := by decide +kernel
theorem dX7_copyFrom_22 : decode cX7_copyFrom 22 = .ok (.iconst 0, 1) := by decide +kernel
theorem dX7_copyFrom_23 : decode cX7_copyFrom 23 = .ok (.aload_n 0, 1) := by decide +kernel
theorem dX7_copyFrom_24 : decode cX7_copyFrom 24 = .ok (.getfield 15, 3) := by decide +kernel
theorem dX7_copyFrom_27 : decode cX7_copyFrom 27 = .ok (.iconst 0, 1) := by decide +kernel
theorem dX7_copyFrom_28 : decode cX7_copyFrom 28 = .ok (.aload_n 0, 1) := by decide +kernel
theorem dX7_copyFrom_29 : decode cX7_copyFrom 29 = .ok (.getfield 15, 3) := by decide +kernel
theorem dX7_copyFrom_32 : decode cX7_copyFrom 32 = .ok (.arraylength, 1) := by decide +kernel
theorem dX7_copyFrom_33 : decode cX7_copyFrom 33 = .ok (.invokestatic 50, 3) := by decide +kernel
theorem dX7_copyFrom_36 : decode cX7_copyFrom 36 = .ok (.iconst 0, 1) := by decide +kernel
theorem dX7_copyFrom_37 : decode cX7_copyFrom 37 = .ok (.istore_n 2, 1) := by decide +kernel
theorem dX7_copyFrom_38 : decode cX7_copyFrom 38 = .ok (.iload_n 2, 1) := by decide +kernel
theorem dX7_copyFrom_39 : decode cX7_copyFrom 39 = .ok (.bipush 12, 2) := by decide +kernel
theorem dX7_copyFrom_41 : decode cX7_copyFrom 41 = .ok (.if_icmp .ge 21, 3) := by decide +kernel
theorem dX7_copyFrom_44 : decode cX7_copyFrom 44 = .ok (.aload_n 0, 1) := by decide +kernel
theorem dX7_copyFrom_45 : decode cX7_copyFrom 45 = .ok (.getfield 18, 3) := by decide +kernel
theorem dX7_copyFrom_48 : decode cX7_copyFrom 48 = .ok (.iload_n 2, 1) := by decide +kernel
theorem dX7_copyFrom_49 : decode cX7_copyFrom 49 = .ok (.aload_n 1, 1) := by decide +kernel
theorem dX7_copyFrom_50 : decode cX7_copyFrom 50 = .ok (.getfield 18, 3) := by decide +kernel
theorem dX7_copyFrom_53 : decode cX7_copyFrom 53 = .ok (.iload_n 2, 1) := by decide +kernel
theorem dX7_copyFrom_54 : decode cX7_copyFrom 54 = .ok (.baload, 1) := by decide +kernel
theorem dX7_copyFrom_55 : decode cX7_copyFrom 55 = .ok (.bastore, 1) := by decide +kernel
theorem dX7_copyFrom_56 : decode cX7_copyFrom 56 = .ok (.iinc 2 1, 3) := by decide +kernel
theorem dX7_copyFrom_59 : decode cX7_copyFrom 59 = .ok (.goto (-21), 3) := by decide +kernel
theorem dX7_copyFrom_62 : decode cX7_copyFrom 62 = .ok (.iconst 0, 1) := by decide +kernel
theorem dX7_copyFrom_63 : decode cX7_copyFrom 63 = .ok (.istore_n 2, 1) := by decide +kernel
theorem dX7_copyFrom_64 : decode cX7_copyFrom 64 = .ok (.iload_n 2, 1) := by decide +kernel
theorem dX7_copyFrom_65 : decode cX7_copyFrom 65 = .ok (.iconst 5, 1) := by decide +kernel
end
section
theorem dX7_copyFrom_66 : decode cX7_copyFrom 66 = .ok (.if_icmp .ge 21, 3) := by decide +kernel
theorem dX7_copyFrom_69 : decode cX7_copyFrom 69 = .ok (.aload_n 0, 1) := by decide +kernel
theorem dX7_copyFrom_70 : decode cX7_copyFrom 70 = .ok (.getfield 24, 3) := by decide +kernel
theorem dX7_copyFrom_73 : decode cX7_copyFrom 73 = .ok (.iload_n 2, 1) := by decide +kernel
theorem dX7_copyFrom_74 : decode cX7_copyFrom 74 = .ok (.aload_n 1, 1) := by decide +kernel
theorem dX7_copyFrom_75 : decode cX7_copyFrom 75 = .ok (.getfield 24, 3) := by decide +kernel
theorem dX7_copyFrom_78 : decode cX7_copyFrom 78 = .ok (.iload_n 2, 1) := by decide +kernel
theorem dX7_copyFrom_79 : decode cX7_copyFrom 79 = .ok (.aaload, 1) := by decide +kernel
theorem dX7_copyFrom_80 : decode cX7_copyFrom 80 = .ok (.aastore, 1) := by decide +kernel
theorem dX7_copyFrom_81 : decode cX7_copyFrom 81 = .ok (.iinc 2 1, 3) := by decide +kernel
theorem dX7_copyFrom_84 : decode cX7_copyFrom 84 = .ok (.goto (-20), 3) := by decide +kernel
theorem dX7_copyFrom_87 : decode cX7_copyFrom 87 = .ok (.iconst 0, 1) := by decide +kernel
theorem dX7_copyFrom_88 : decode cX7_copyFrom 88 = .ok (.istore_n 2, 1) := by decide +kernel
theorem dX7_copyFrom_89 : decode cX7_copyFrom 89 = .ok (.iload_n 2, 1) := by decide +kernel
theorem dX7_copyFrom_90 : decode cX7_copyFrom 90 = .ok (.bipush 6, 2) := by decide +kernel
theorem dX7_copyFrom_92 : decode cX7_copyFrom 92 = .ok (.if_icmp .ge 21, 3) := by decide +kernel
theorem dX7_copyFrom_95 : decode cX7_copyFrom 95 = .ok (.aload_n 0, 1) := by decide +kernel
theorem dX7_copyFrom_96 : decode cX7_copyFrom 96 = .ok (.getfield 30, 3) := by decide +kernel
theorem dX7_copyFrom_99 : decode cX7_copyFrom 99 = .ok (.iload_n 2, 1) := by decide +kernel
theorem dX7_copyFrom_100 : decode cX7_copyFrom 100 = .ok (.aload_n 1, 1) := by decide +kernel
theorem dX7_copyFrom_101 : decode cX7_copyFrom 101 = .ok (.getfield 30, 3) := by decide +kernel
theorem dX7_copyFrom_104 : decode cX7_copyFrom 104 = .ok (.iload_n 2, 1) := by decide +kernel
theorem dX7_copyFrom_105 : decode cX7_copyFrom 105 = .ok (.aaload, 1) := by decide +kernel
theorem dX7_copyFrom_106 : decode cX7_copyFrom 106 = .ok (.aastore, 1) := by decide +kernel
theorem dX7_copyFrom_107 : decode cX7_copyFrom 107 = .ok (.iinc 2 1, 3) := by decide +kernel
theorem dX7_copyFrom_110 : decode cX7_copyFrom 110 = .ok (.goto (-21), 3) := by decide +kernel
theorem dX7_copyFrom_113 : decode cX7_copyFrom 113 = .ok (.iconst 0, 1) := by decide +kernel
theorem dX7_copyFrom_114 : decode cX7_copyFrom 114 = .ok (.istore_n 2, 1) := by decide +kernel
theorem dX7_copyFrom_115 : decode cX7_copyFrom 115 = .ok (.iload_n 2, 1) := by decide +kernel
theorem dX7_copyFrom_116 : decode cX7_copyFrom 116 = .ok (.iconst 4, 1) := by decide +kernel
theorem dX7_copyFrom_117 : decode cX7_copyFrom 117 = .ok (.if_icmp .ge 21, 3) := by decide +kernel
theorem dX7_copyFrom_120 : decode cX7_copyFrom 120 = .ok (.aload_n 0, 1) := by decide +kernel
theorem dX7_copyFrom_121 : decode cX7_copyFrom 121 = .ok (.getfield 36, 3) := by decide +kernel
theorem dX7_copyFrom_124 : decode cX7_copyFrom 124 = .ok (.iload_n 2, 1) := by decide +kernel
theorem dX7_copyFrom_125 : decode cX7_copyFrom 125 = .ok (.aload_n 1, 1) := by decide +kernel
theorem dX7_copyFrom_126 : decode cX7_copyFrom 126 = .ok (.getfield 36, 3) := by decide +kernel
theorem dX7_copyFrom_129 : decode cX7_copyFrom 129 = .ok (.iload_n 2, 1) := by decide +kernel
theorem dX7_copyFrom_130 : decode cX7_copyFrom 130 = .ok (.aaload, 1) := by decide +kernel
theorem dX7_copyFrom_131 : decode cX7_copyFrom 131 = .ok (.aastore, 1) := by decide +kernel
theorem dX7_copyFrom_132 : decode cX7_copyFrom 132 = .ok (.iinc 2 1, 3) := by decide +kernel
theorem dX7_copyFrom_135 : decode cX7_copyFrom 135 = .ok (.goto (-20), 3) := by decide +kernel
theorem dX7_copyFrom_138 : decode cX7_copyFrom 138 = .ok (.aload_n 1, 1) := by decide +kernel
theorem dX7_copyFrom_139 : decode cX7_copyFrom 139 = .ok (.getfield 40, 3) := by decide +kernel
theorem dX7_copyFrom_142 : decode cX7_copyFrom 142 = .ok (.iconst 0, 1) := by decide +kernel
theorem dX7_copyFrom_143 : decode cX7_copyFrom 143 = .ok (.aload_n 0, 1) := by decide +kernel
theorem dX7_copyFrom_144 : decode cX7_copyFrom 144 = .ok (.getfield 40, 3) := by decide +kernel
theorem dX7_copyFrom_147 : decode cX7_copyFrom 147 = .ok (.iconst 0, 1) := by decide +kernel
theorem dX7_copyFrom_148 : decode cX7_copyFrom 148 = .ok (.aload_n 0, 1) := by decide +kernel
theorem dX7_copyFrom_149 : decode cX7_copyFrom 149 = .ok (.getfield 40, 3) := by decide +kernel
theorem dX7_copyFrom_152 : decode cX7_copyFrom 152 = .ok (.arraylength, 1) := by decide +kernel
theorem dX7_copyFrom_153 : decode cX7_copyFrom 153 = .ok (.invokestatic 50, 3) := by decide +kernel
theorem dX7_copyFrom_156 : decode cX7_copyFrom 156 = .ok (.aload_n 1, 1) := by decide +kernel
theorem dX7_copyFrom_157 : decode cX7_copyFrom 157 = .ok (.getfield 43, 3) := by decide +kernel
theorem dX7_copyFrom_160 : decode cX7_copyFrom 160 = .ok (.iconst 0, 1) := by decide +kernel
theorem dX7_copyFrom_161 : decode cX7_copyFrom 161 = .ok (.aload_n 0, 1) := by decide +kernel
theorem dX7_copyFrom_162 : decode cX7_copyFrom 162 = .ok (.getfield 43, 3) := by decide +kernel
theorem dX7_copyFrom_165 : decode cX7_copyFrom 165 = .ok (.iconst 0, 1) := by decide +kernel
theorem dX7_copyFrom_166 : decode cX7_copyFrom 166 = .ok (.aload_n 0, 1) := by decide +kernel
theorem dX7_copyFrom_167 : decode cX7_copyFrom 167 = .ok (.getfield 43, 3) := by decide +kernel
theorem dX7_copyFrom_170 : decode cX7_copyFrom 170 = .ok (.arraylength, 1) := by decide +kernel
theorem dX7_copyFrom_171 : decode cX7_copyFrom 171 = .ok (.invokestatic 50, 3) := by decide +kernel
theorem dX7_copyFrom_174 : decode cX7_copyFrom 174 = .ok (.return_, 1) := by decide +kernel
theorem dX7_slots_0 : decode cX7_slots 0 = .ok (.iload_n 1, 1) := by decide +kernel
theorem dX7_slots_1 : decode cX7_slots 1 = .ok (.ifCond .ne 8, 3) := by decide +kernel
theorem dX7_slots_4 : decode cX7_slots 4 = .ok (.aload_n 0, 1) := by decide +kernel
theorem dX7_slots_5 : decode cX7_slots 5 = .ok (.getfield 24, 3) := by decide +kernel
theorem dX7_slots_8 : decode cX7_slots 8 = .ok (.areturn, 1) := by decide +kernel
theorem dX7_slots_9 : decode cX7_slots 9 = .ok (.iload_n 1, 1) := by decide +kernel
theorem dX7_slots_10 : decode cX7_slots 10 = .ok (.iconst 1, 1) := by decide +kernel
theorem dX7_slots_11 : decode cX7_slots 11 = .ok (.if_icmp .ne 10, 3) := by decide +kernel
theorem dX7_slots_14 : decode cX7_slots 14 = .ok (.aload_n 0, 1) := by decide +kernel
theorem dX7_slots_15 : decode cX7_slots 15 = .ok (.getfield 30, 3) := by decide +kernel
theorem dX7_slots_18 : decode cX7_slots 18 = .ok (.goto 7, 3) := by decide +kernel
theorem dX7_slots_21 : decode cX7_slots 21 = .ok (.aload_n 0, 1) := by decide +kernel
theorem dX7_slots_22 : decode cX7_slots 22 = .ok (.getfield 36, 3) := by decide +kernel
theorem dX7_slots_25 : decode cX7_slots 25 = .ok (.areturn, 1) := by decide +kernel
theorem dX7_putRule_0 : decode cX7_putRule 0 = .ok (.aload_n 0, 1) := by decide +kernel
theorem dX7_putRule_1 : decode cX7_putRule 1 = .ok (.getfield 24, 3) := by decide +kernel
theorem dX7_putRule_4 : decode cX7_putRule 4 = .ok (.iload_n 1, 1) := by decide +kernel
theorem dX7_putRule_5 : decode cX7_putRule 5 = .ok (.aload_n 2, 1) := by decide +kernel
theorem dX7_putRule_6 : decode cX7_putRule 6 = .ok (.aastore, 1) := by decide +kernel
theorem dX7_putRule_7 : decode cX7_putRule 7 = .ok (.aload_n 0, 1) := by decide +kernel
theorem dX7_putRule_8 : decode cX7_putRule 8 = .ok (.invokevirtual 47, 3) := by decide +kernel
theorem dX7_putRule_11 : decode cX7_putRule 11 = .ok (.return_, 1) := by decide +kernel
theorem dX7_relabel_0 : decode cX7_relabel 0 = .ok (.aload_n 0, 1) := by decide +kernel
theorem dX7_relabel_1 : decode cX7_relabel 1 = .ok (.getfield 9, 3) := by decide +kernel
theorem dX7_relabel_4 : decode cX7_relabel 4 = .ok (.iload_n 2, 1) := by decide +kernel
theorem dX7_relabel_5 : decode cX7_relabel 5 = .ok (.bipush 12, 2) := by decide +kernel
theorem dX7_relabel_7 : decode cX7_relabel 7 = .ok (.imul, 1) := by decide +kernel
theorem dX7_relabel_8 : decode cX7_relabel 8 = .ok (.iload_n 1, 1) := by decide +kernel
theorem dX7_relabel_9 : decode cX7_relabel 9 = .ok (.iadd, 1) := by decide +kernel
theorem dX7_relabel_10 : decode cX7_relabel 10 = .ok (.iaload, 1) := by decide +kernel
theorem dX7_relabel_11 : decode cX7_relabel 11 = .ok (.istore 4, 2) := by decide +kernel
theorem dX7_relabel_13 : decode cX7_relabel 13 = .ok (.aload_n 0, 1) := by decide +kernel
theorem dX7_relabel_14 : decode cX7_relabel 14 = .ok (.getfield 9, 3) := by decide +kernel
theorem dX7_relabel_17 : decode cX7_relabel 17 = .ok (.iload_n 2, 1) := by decide +kernel
theorem dX7_relabel_18 : decode cX7_relabel 18 = .ok (.bipush 12, 2) := by decide +kernel
theorem dX7_relabel_20 : decode cX7_relabel 20 = .ok (.imul, 1) := by decide +kernel
theorem dX7_relabel_21 : decode cX7_relabel 21 = .ok (.iload_n 1, 1) := by decide +kernel
theorem dX7_relabel_22 : decode cX7_relabel 22 = .ok (.iadd, 1) := by decide +kernel
theorem dX7_relabel_23 : decode cX7_relabel 23 = .ok (.iload_n 3, 1) := by decide +kernel
theorem dX7_relabel_24 : decode cX7_relabel 24 = .ok (.iastore, 1) := by decide +kernel
theorem dX7_relabel_25 : decode cX7_relabel 25 = .ok (.aload_n 0, 1) := by decide +kernel
theorem dX7_relabel_26 : decode cX7_relabel 26 = .ok (.invokevirtual 47, 3) := by decide +kernel
theorem dX7_relabel_29 : decode cX7_relabel 29 = .ok (.iload 4, 2) := by decide +kernel
theorem dX7_relabel_31 : decode cX7_relabel 31 = .ok (.ireturn, 1) := by decide +kernel
theorem dX7_sortLabels_0 : decode cX7_sortLabels 0 = .ok (.iconst 0, 1) := by decide +kernel
theorem dX7_sortLabels_1 : decode cX7_sortLabels 1 = .ok (.istore_n 1, 1) := by decide +kernel
theorem dX7_sortLabels_2 : decode cX7_sortLabels 2 = .ok (.iload_n 1, 1) := by decide +kernel
theorem dX7_sortLabels_3 : decode cX7_sortLabels 3 = .ok (.bipush 20, 2) := by decide +kernel
theorem dX7_sortLabels_5 : decode cX7_sortLabels 5 = .ok (.if_icmp .ge 16, 3) := by decide +kernel
theorem dX7_sortLabels_8 : decode cX7_sortLabels 8 = .ok (.aload_n 0, 1) := by decide +kernel
theorem dX7_sortLabels_9 : decode cX7_sortLabels 9 = .ok (.getfield 43, 3) := by decide +kernel
theorem dX7_sortLabels_12 : decode cX7_sortLabels 12 = .ok (.iload_n 1, 1) := by decide +kernel
theorem dX7_sortLabels_13 : decode cX7_sortLabels 13 = .ok (.lconst 0, 1) := by decide +kernel
theorem dX7_sortLabels_14 : decode cX7_sortLabels 14 = .ok (.lastore, 1) := by decide +kernel
theorem dX7_sortLabels_15 : decode cX7_sortLabels 15 = .ok (.iinc 1 1, 3) := by decide +kernel
theorem dX7_sortLabels_18 : decode cX7_sortLabels 18 = .ok (.goto (-16), 3) := by decide +kernel
theorem dX7_sortLabels_21 : decode cX7_sortLabels 21 = .ok (.iconst 0, 1) := by decide +kernel
theorem dX7_sortLabels_22 : decode cX7_sortLabels 22 = .ok (.istore_n 1, 1) := by decide +kernel
theorem dX7_sortLabels_23 : decode cX7_sortLabels 23 = .ok (.iload_n 1, 1) := by decide +kernel
theorem dX7_sortLabels_24 : decode cX7_sortLabels 24 = .ok (.iconst 3, 1) := by decide +kernel
theorem dX7_sortLabels_25 : decode cX7_sortLabels 25 = .ok (.if_icmp .ge 55, 3) := by decide +kernel
theorem dX7_sortLabels_28 : decode cX7_sortLabels 28 = .ok (.iconst 0, 1) := by decide +kernel
theorem dX7_sortLabels_29 : decode cX7_sortLabels 29 = .ok (.istore_n 2, 1) := by decide +kernel
theorem dX7_sortLabels_30 : decode cX7_sortLabels 30 = .ok (.iload_n 2, 1) := by decide +kernel
theorem dX7_sortLabels_31 : decode cX7_sortLabels 31 = .ok (.bipush 12, 2) := by decide +kernel
theorem dX7_sortLabels_33 : decode cX7_sortLabels 33 = .ok (.if_icmp .ge 41, 3) := by decide +kernel
theorem dX7_sortLabels_36 : decode cX7_sortLabels 36 = .ok (.aload_n 0, 1) := by decide +kernel
theorem dX7_sortLabels_37 : decode cX7_sortLabels 37 = .ok (.getfield 9, 3) := by decide +kernel
theorem dX7_sortLabels_40 : decode cX7_sortLabels 40 = .ok (.iload_n 1, 1) := by decide +kernel
theorem dX7_sortLabels_41 : decode cX7_sortLabels 41 = .ok (.bipush 12, 2) := by decide +kernel
theorem dX7_sortLabels_43 : decode cX7_sortLabels 43 = .ok (.imul, 1) := by decide +kernel
theorem dX7_sortLabels_44 : decode cX7_sortLabels 44 = .ok (.iload_n 2, 1) := by decide +kernel
theorem dX7_sortLabels_45 : decode cX7_sortLabels 45 = .ok (.iadd, 1) := by decide +kernel
theorem dX7_sortLabels_46 : decode cX7_sortLabels 46 = .ok (.iaload, 1) := by decide +kernel
theorem dX7_sortLabels_47 : decode cX7_sortLabels 47 = .ok (.istore_n 3, 1) := by decide +kernel
theorem dX7_sortLabels_48 : decode cX7_sortLabels 48 = .ok (.aload_n 0, 1) := by decide +kernel
theorem dX7_sortLabels_49 : decode cX7_sortLabels 49 = .ok (.getfield 43, 3) := by decide +kernel
theorem dX7_sortLabels_52 : decode cX7_sortLabels 52 = .ok (.getstatic 56, 3) := by decide +kernel
theorem dX7_sortLabels_55 : decode cX7_sortLabels 55 = .ok (.iload_n 1, 1) := by decide +kernel
theorem dX7_sortLabels_56 : decode cX7_sortLabels 56 = .ok (.iaload, 1) := by decide +kernel
theorem dX7_sortLabels_57 : decode cX7_sortLabels 57 = .ok (.iload_n 3, 1) := by decide +kernel
theorem dX7_sortLabels_58 : decode cX7_sortLabels 58 = .ok (.iadd, 1) := by decide +kernel
theorem dX7_sortLabels_59 : decode cX7_sortLabels 59 = .ok (.dup2, 1) := by decide +kernel
theorem dX7_sortLabels_60 : decode cX7_sortLabels 60 = .ok (.laload, 1) := by decide +kernel
theorem dX7_sortLabels_61 : decode cX7_sortLabels 61 = .ok (.ldc2_w 59, 3) := by decide +kernel
theorem dX7_sortLabels_64 : decode cX7_sortLabels 64 = .ok (.iload_n 2, 1) := by decide +kernel
theorem dX7_sortLabels_65 : decode cX7_sortLabels 65 = .ok (.lshl, 1) := by decide +kernel
theorem dX7_sortLabels_66 : decode cX7_sortLabels 66 = .ok (.lor, 1) := by decide +kernel
theorem dX7_sortLabels_67 : decode cX7_sortLabels 67 = .ok (.lastore, 1) := by decide +kernel
theorem dX7_sortLabels_68 : decode cX7_sortLabels 68 = .ok (.iinc 2 1, 3) := by decide +kernel
theorem dX7_sortLabels_71 : decode cX7_sortLabels 71 = .ok (.goto (-41), 3) := by decide +kernel
theorem dX7_sortLabels_74 : decode cX7_sortLabels 74 = .ok (.iinc 1 1, 3) := by decide +kernel
theorem dX7_sortLabels_77 : decode cX7_sortLabels 77 = .ok (.goto (-54), 3) := by decide +kernel
theorem dX7_sortLabels_80 : decode cX7_sortLabels 80 = .ok (.iconst 0, 1) := by decide +kernel
theorem dX7_sortLabels_81 : decode cX7_sortLabels 81 = .ok (.istore_n 1, 1) := by decide +kernel
theorem dX7_sortLabels_82 : decode cX7_sortLabels 82 = .ok (.iload_n 1, 1) := by decide +kernel
theorem dX7_sortLabels_83 : decode cX7_sortLabels 83 = .ok (.iconst 5, 1) := by decide +kernel
theorem dX7_sortLabels_84 : decode cX7_sortLabels 84 = .ok (.if_icmp .ge 46, 3) := by decide +kernel
theorem dX7_sortLabels_87 : decode cX7_sortLabels 87 = .ok (.aload_n 0, 1) := by decide +kernel
theorem dX7_sortLabels_88 : decode cX7_sortLabels 88 = .ok (.getfield 24, 3) := by decide +kernel
theorem dX7_sortLabels_91 : decode cX7_sortLabels 91 = .ok (.iload_n 1, 1) := by decide +kernel
theorem dX7_sortLabels_92 : decode cX7_sortLabels 92 = .ok (.aaload, 1) := by decide +kernel
theorem dX7_sortLabels_93 : decode cX7_sortLabels 93 = .ok (.astore_n 2, 1) := by decide +kernel
theorem dX7_sortLabels_94 : decode cX7_sortLabels 94 = .ok (.aload_n 2, 1) := by decide +kernel
theorem dX7_sortLabels_95 : decode cX7_sortLabels 95 = .ok (.ifnull 29, 3) := by decide +kernel
theorem dX7_sortLabels_98 : decode cX7_sortLabels 98 = .ok (.aload_n 0, 1) := by decide +kernel
theorem dX7_sortLabels_99 : decode cX7_sortLabels 99 = .ok (.getfield 43, 3) := by decide +kernel
theorem dX7_sortLabels_102 : decode cX7_sortLabels 102 = .ok (.getstatic 56, 3) := by decide +kernel
theorem dX7_sortLabels_105 : decode cX7_sortLabels 105 = .ok (.iconst 3, 1) := by decide +kernel
theorem dX7_sortLabels_106 : decode cX7_sortLabels 106 = .ok (.iaload, 1) := by decide +kernel
theorem dX7_sortLabels_107 : decode cX7_sortLabels 107 = .ok (.aload_n 2, 1) := by decide +kernel
theorem dX7_sortLabels_108 : decode cX7_sortLabels 108 = .ok (.getfield 61, 3) := by decide +kernel
theorem dX7_sortLabels_111 : decode cX7_sortLabels 111 = .ok (.iadd, 1) := by decide +kernel
theorem dX7_sortLabels_112 : decode cX7_sortLabels 112 = .ok (.dup2, 1) := by decide +kernel
theorem dX7_sortLabels_113 : decode cX7_sortLabels 113 = .ok (.laload, 1) := by decide +kernel
theorem dX7_sortLabels_114 : decode cX7_sortLabels 114 = .ok (.ldc2_w 65, 3) := by decide +kernel
theorem dX7_sortLabels_117 : decode cX7_sortLabels 117 = .ok (.iload_n 1, 1) := by decide +kernel
theorem dX7_sortLabels_118 : decode cX7_sortLabels 118 = .ok (.bipush 12, 2) := by decide +kernel
theorem dX7_sortLabels_120 : decode cX7_sortLabels 120 = .ok (.imul, 1) := by decide +kernel
theorem dX7_sortLabels_121 : decode cX7_sortLabels 121 = .ok (.lshl, 1) := by decide +kernel
theorem dX7_sortLabels_122 : decode cX7_sortLabels 122 = .ok (.lor, 1) := by decide +kernel
theorem dX7_sortLabels_123 : decode cX7_sortLabels 123 = .ok (.lastore, 1) := by decide +kernel
theorem dX7_sortLabels_124 : decode cX7_sortLabels 124 = .ok (.iinc 1 1, 3) := by decide +kernel
theorem dX7_sortLabels_127 : decode cX7_sortLabels 127 = .ok (.goto (-45), 3) := by decide +kernel
theorem dX7_sortLabels_130 : decode cX7_sortLabels 130 = .ok (.return_, 1) := by decide +kernel
theorem dX7_countValues_0 : decode cX7_countValues 0 = .ok (.iconst 0, 1) := by decide +kernel
theorem dX7_countValues_1 : decode cX7_countValues 1 = .ok (.istore_n 1, 1) := by decide +kernel
theorem dX7_countValues_2 : decode cX7_countValues 2 = .ok (.iconst 0, 1) := by decide +kernel
theorem dX7_countValues_3 : decode cX7_countValues 3 = .ok (.istore_n 2, 1) := by decide +kernel
theorem dX7_countValues_4 : decode cX7_countValues 4 = .ok (.iload_n 2, 1) := by decide +kernel
theorem dX7_countValues_5 : decode cX7_countValues 5 = .ok (.bipush 12, 2) := by decide +kernel
theorem dX7_countValues_7 : decode cX7_countValues 7 = .ok (.if_icmp .ge 21, 3) := by decide +kernel
theorem dX7_countValues_10 : decode cX7_countValues 10 = .ok (.aload_n 0, 1) := by decide +kernel
theorem dX7_countValues_11 : decode cX7_countValues 11 = .ok (.getfield 18, 3) := by decide +kernel
theorem dX7_countValues_14 : decode cX7_countValues 14 = .ok (.iload_n 2, 1) := by decide +kernel
theorem dX7_countValues_15 : decode cX7_countValues 15 = .ok (.baload, 1) := by decide +kernel
theorem dX7_countValues_16 : decode cX7_countValues 16 = .ok (.ifCond .eq 6, 3) := by decide +kernel
theorem dX7_countValues_19 : decode cX7_countValues 19 = .ok (.iinc 1 1, 3) := by decide +kernel
theorem dX7_countValues_22 : decode cX7_countValues 22 = .ok (.iinc 2 1, 3) := by decide +kernel
theorem dX7_countValues_25 : decode cX7_countValues 25 = .ok (.goto (-21), 3) := by decide +kernel
theorem dX7_countValues_28 : decode cX7_countValues 28 = .ok (.iload_n 1, 1) := by decide +kernel
theorem dX7_countValues_29 : decode cX7_countValues 29 = .ok (.ireturn, 1) := by decide +kernel
theorem dX7_keyOf_0 : decode cX7_keyOf 0 = .ok (.aload_n 0, 1) := by decide +kernel
theorem dX7_keyOf_1 : decode cX7_keyOf 1 = .ok (.getfield 40, 3) := by decide +kernel
theorem dX7_keyOf_4 : decode cX7_keyOf 4 = .ok (.iconst 4, 1) := by decide +kernel
theorem dX7_keyOf_5 : decode cX7_keyOf 5 = .ok (.iaload, 1) := by decide +kernel
theorem dX7_keyOf_6 : decode cX7_keyOf 6 = .ok (.istore_n 2, 1) := by decide +kernel
theorem dX7_keyOf_7 : decode cX7_keyOf 7 = .ok (.iconst 0, 1) := by decide +kernel
theorem dX7_keyOf_8 : decode cX7_keyOf 8 = .ok (.istore_n 3, 1) := by decide +kernel
theorem dX7_keyOf_9 : decode cX7_keyOf 9 = .ok (.iload_n 2, 1) := by decide +kernel
theorem dX7_keyOf_10 : decode cX7_keyOf 10 = .ok (.iconst 1, 1) := by decide +kernel
theorem dX7_keyOf_11 : decode cX7_keyOf 11 = .ok (.iand, 1) := by decide +kernel
theorem dX7_keyOf_12 : decode cX7_keyOf 12 = .ok (.ifCond .eq 17, 3) := by decide +kernel
theorem dX7_keyOf_15 : decode cX7_keyOf 15 = .ok (.iload_n 3, 1) := by decide +kernel
theorem dX7_keyOf_16 : decode cX7_keyOf 16 = .ok (.bipush 32, 2) := by decide +kernel
theorem dX7_keyOf_18 : decode cX7_keyOf 18 = .ok (.aload_n 0, 1) := by decide +kernel
theorem dX7_keyOf_19 : decode cX7_keyOf 19 = .ok (.getfield 9, 3) := by decide +kernel
theorem dX7_keyOf_22 : decode cX7_keyOf 22 = .ok (.iconst 0, 1) := by decide +kernel
theorem dX7_keyOf_23 : decode cX7_keyOf 23 = .ok (.iload_n 1, 1) := by decide +kernel
theorem dX7_keyOf_24 : decode cX7_keyOf 24 = .ok (.iadd, 1) := by decide +kernel
theorem dX7_keyOf_25 : decode cX7_keyOf 25 = .ok (.iaload, 1) := by decide +kernel
theorem dX7_keyOf_26 : decode cX7_keyOf 26 = .ok (.imul, 1) := by decide +kernel
theorem dX7_keyOf_27 : decode cX7_keyOf 27 = .ok (.iadd, 1) := by decide +kernel
theorem dX7_keyOf_28 : decode cX7_keyOf 28 = .ok (.istore_n 3, 1) := by decide +kernel
theorem dX7_keyOf_29 : decode cX7_keyOf 29 = .ok (.iload_n 2, 1) := by decide +kernel
theorem dX7_keyOf_30 : decode cX7_keyOf 30 = .ok (.iconst 2, 1) := by decide +kernel
theorem dX7_keyOf_31 : decode cX7_keyOf 31 = .ok (.iand, 1) := by decide +kernel
theorem dX7_keyOf_32 : decode cX7_keyOf 32 = .ok (.ifCond .eq 17, 3) := by decide +kernel
theorem dX7_keyOf_35 : decode cX7_keyOf 35 = .ok (.iload_n 3, 1) := by decide +kernel
theorem dX7_keyOf_36 : decode cX7_keyOf 36 = .ok (.iconst 4, 1) := by decide +kernel
theorem dX7_keyOf_37 : decode cX7_keyOf 37 = .ok (.aload_n 0, 1) := by decide +kernel
theorem dX7_keyOf_38 : decode cX7_keyOf 38 = .ok (.getfield 9, 3) := by decide +kernel
theorem dX7_keyOf_41 : decode cX7_keyOf 41 = .ok (.bipush 12, 2) := by decide +kernel
theorem dX7_keyOf_43 : decode cX7_keyOf 43 = .ok (.iload_n 1, 1) := by decide +kernel
theorem dX7_keyOf_44 : decode cX7_keyOf 44 = .ok (.iadd, 1) := by decide +kernel
theorem dX7_keyOf_45 : decode cX7_keyOf 45 = .ok (.iaload, 1) := by decide +kernel
theorem dX7_keyOf_46 : decode cX7_keyOf 46 = .ok (.imul, 1) := by decide +kernel
theorem dX7_keyOf_47 : decode cX7_keyOf 47 = .ok (.iadd, 1) := by decide +kernel
theorem dX7_keyOf_48 : decode cX7_keyOf 48 = .ok (.istore_n 3, 1) := by decide +kernel
theorem dX7_keyOf_49 : decode cX7_keyOf 49 = .ok (.iload_n 2, 1) := by decide +kernel
theorem dX7_keyOf_50 : decode cX7_keyOf 50 = .ok (.iconst 4, 1) := by decide +kernel
theorem dX7_keyOf_51 : decode cX7_keyOf 51 = .ok (.iand, 1) := by decide +kernel
theorem dX7_keyOf_52 : decode cX7_keyOf 52 = .ok (.ifCond .eq 15, 3) := by decide +kernel
theorem dX7_keyOf_55 : decode cX7_keyOf 55 = .ok (.iload_n 3, 1) := by decide +kernel
theorem dX7_keyOf_56 : decode cX7_keyOf 56 = .ok (.aload_n 0, 1) := by decide +kernel
theorem dX7_keyOf_57 : decode cX7_keyOf 57 = .ok (.getfield 9, 3) := by decide +kernel
theorem dX7_keyOf_60 : decode cX7_keyOf 60 = .ok (.bipush 24, 2) := by decide +kernel
theorem dX7_keyOf_62 : decode cX7_keyOf 62 = .ok (.iload_n 1, 1) := by decide +kernel
theorem dX7_keyOf_63 : decode cX7_keyOf 63 = .ok (.iadd, 1) := by decide +kernel
theorem dX7_keyOf_64 : decode cX7_keyOf 64 = .ok (.iaload, 1) := by decide +kernel
theorem dX7_keyOf_65 : decode cX7_keyOf 65 = .ok (.iadd, 1) := by decide +kernel
theorem dX7_keyOf_66 : decode cX7_keyOf 66 = .ok (.istore_n 3, 1) := by decide +kernel
theorem dX7_keyOf_67 : decode cX7_keyOf 67 = .ok (.iload_n 3, 1) := by decide +kernel
theorem dX7_keyOf_68 : decode cX7_keyOf 68 = .ok (.ireturn, 1) := by decide +kernel
theorem dX7_matched_0 : decode cX7_matched 0 = .ok (.ldc2_w 67, 3) := by decide +kernel
theorem dX7_matched_3 : decode cX7_matched 3 = .ok (.lstore_n 2, 1) := by decide +kernel
theorem dX7_matched_4 : decode cX7_matched 4 = .ok (.iconst 0, 1) := by decide +kernel
theorem dX7_matched_5 : decode cX7_matched 5 = .ok (.istore 4, 2) := by decide +kernel
theorem dX7_matched_7 : decode cX7_matched 7 = .ok (.iload 4, 2) := by decide +kernel
theorem dX7_matched_9 : decode cX7_matched 9 = .ok (.aload_n 1, 1) := by decide +kernel
theorem dX7_matched_10 : decode cX7_matched 10 = .ok (.getfield 69, 3) := by decide +kernel
theorem dX7_matched_13 : decode cX7_matched 13 = .ok (.if_icmp .ge 47, 3) := by decide +kernel
theorem dX7_matched_16 : decode cX7_matched 16 = .ok (.aload_n 0, 1) := by decide +kernel
theorem dX7_matched_17 : decode cX7_matched 17 = .ok (.getfield 43, 3) := by decide +kernel
theorem dX7_matched_20 : decode cX7_matched 20 = .ok (.aload_n 1, 1) := by decide +kernel
theorem dX7_matched_21 : decode cX7_matched 21 = .ok (.getfield 74, 3) := by decide +kernel
theorem dX7_matched_24 : decode cX7_matched 24 = .ok (.iload 4, 2) := by decide +kernel
theorem dX7_matched_26 : decode cX7_matched 26 = .ok (.iaload, 1) := by decide +kernel
theorem dX7_matched_27 : decode cX7_matched 27 = .ok (.laload, 1) := by decide +kernel
theorem dX7_matched_28 : decode cX7_matched 28 = .ok (.lstore 5, 2) := by decide +kernel
theorem dX7_matched_30 : decode cX7_matched 30 = .ok (.lload_n 2, 1) := by decide +kernel
theorem dX7_matched_31 : decode cX7_matched 31 = .ok (.aload_n 1, 1) := by decide +kernel
theorem dX7_matched_32 : decode cX7_matched 32 = .ok (.getfield 76, 3) := by decide +kernel
theorem dX7_matched_35 : decode cX7_matched 35 = .ok (.iload 4, 2) := by decide +kernel
theorem dX7_matched_37 : decode cX7_matched 37 = .ok (.baload, 1) := by decide +kernel
theorem dX7_matched_38 : decode cX7_matched 38 = .ok (.ifCond .eq 12, 3) := by decide +kernel
theorem dX7_matched_41 : decode cX7_matched 41 = .ok (.lload 5, 2) := by decide +kernel
theorem dX7_matched_43 : decode cX7_matched 43 = .ok (.ldc2_w 79, 3) := by decide +kernel
theorem dX7_matched_46 : decode cX7_matched 46 = .ok (.lxor, 1) := by decide +kernel
theorem dX7_matched_47 : decode cX7_matched 47 = .ok (.goto 5, 3) := by decide +kernel
theorem dX7_matched_50 : decode cX7_matched 50 = .ok (.lload 5, 2) := by decide +kernel
theorem dX7_matched_52 : decode cX7_matched 52 = .ok (.land, 1) := by decide +kernel
theorem dX7_matched_53 : decode cX7_matched 53 = .ok (.lstore_n 2, 1) := by decide +kernel
theorem dX7_matched_54 : decode cX7_matched 54 = .ok (.iinc 4 1, 3) := by decide +kernel
theorem dX7_matched_57 : decode cX7_matched 57 = .ok (.goto (-50), 3) := by decide +kernel
theorem dX7_matched_60 : decode cX7_matched 60 = .ok (.lload_n 2, 1) := by decide +kernel
theorem dX7_matched_61 : decode cX7_matched 61 = .ok (.lreturn, 1) := by decide +kernel
theorem dX7_alike_0 : decode cX7_alike 0 = .ok (.ldc2_w 67, 3) := by decide +kernel
theorem dX7_alike_3 : decode cX7_alike 3 = .ok (.lstore_n 3, 1) := by decide +kernel
theorem dX7_alike_4 : decode cX7_alike 4 = .ok (.iconst 0, 1) := by decide +kernel
theorem dX7_alike_5 : decode cX7_alike 5 = .ok (.istore 5, 2) := by decide +kernel
theorem dX7_alike_7 : decode cX7_alike 7 = .ok (.iload 5, 2) := by decide +kernel
theorem dX7_alike_9 : decode cX7_alike 9 = .ok (.iconst 3, 1) := by decide +kernel
theorem dX7_alike_10 : decode cX7_alike 10 = .ok (.if_icmp .ge 49, 3) := by decide +kernel
theorem dX7_alike_13 : decode cX7_alike 13 = .ok (.aload_n 0, 1) := by decide +kernel
theorem dX7_alike_14 : decode cX7_alike 14 = .ok (.getfield 9, 3) := by decide +kernel
theorem dX7_alike_17 : decode cX7_alike 17 = .ok (.iload 5, 2) := by decide +kernel
theorem dX7_alike_19 : decode cX7_alike 19 = .ok (.bipush 12, 2) := by decide +kernel
theorem dX7_alike_21 : decode cX7_alike 21 = .ok (.imul, 1) := by decide +kernel
theorem dX7_alike_22 : decode cX7_alike 22 = .ok (.iload_n 1, 1) := by decide +kernel
theorem dX7_alike_23 : decode cX7_alike 23 = .ok (.iadd, 1) := by decide +kernel
theorem dX7_alike_24 : decode cX7_alike 24 = .ok (.iaload, 1) := by decide +kernel
theorem dX7_alike_25 : decode cX7_alike 25 = .ok (.istore 6, 2) := by decide +kernel
theorem dX7_alike_27 : decode cX7_alike 27 = .ok (.iload_n 2, 1) := by decide +kernel
theorem dX7_alike_28 : decode cX7_alike 28 = .ok (.iload 5, 2) := by decide +kernel
theorem dX7_alike_30 : decode cX7_alike 30 = .ok (.ishr, 1) := by decide +kernel
theorem dX7_alike_31 : decode cX7_alike 31 = .ok (.iconst 1, 1) := by decide +kernel
theorem dX7_alike_32 : decode cX7_alike 32 = .ok (.iand, 1) := by decide +kernel
theorem dX7_alike_33 : decode cX7_alike 33 = .ok (.ifCond .eq 20, 3) := by decide +kernel
theorem dX7_alike_36 : decode cX7_alike 36 = .ok (.lload_n 3, 1) := by decide +kernel
theorem dX7_alike_37 : decode cX7_alike 37 = .ok (.aload_n 0, 1) := by decide +kernel
theorem dX7_alike_38 : decode cX7_alike 38 = .ok (.getfield 43, 3) := by decide +kernel
theorem dX7_alike_41 : decode cX7_alike 41 = .ok (.getstatic 56, 3) := by decide +kernel
theorem dX7_alike_44 : decode cX7_alike 44 = .ok (.iload 5, 2) := by decide +kernel
theorem dX7_alike_46 : decode cX7_alike 46 = .ok (.iaload, 1) := by decide +kernel
theorem dX7_alike_47 : decode cX7_alike 47 = .ok (.iload 6, 2) := by decide +kernel
theorem dX7_alike_49 : decode cX7_alike 49 = .ok (.iadd, 1) := by decide +kernel
theorem dX7_alike_50 : decode cX7_alike 50 = .ok (.laload, 1) := by decide +kernel
theorem dX7_alike_51 : decode cX7_alike 51 = .ok (.land, 1) := by decide +kernel
theorem dX7_alike_52 : decode cX7_alike 52 = .ok (.lstore_n 3, 1) := by decide +kernel
theorem dX7_alike_53 : decode cX7_alike 53 = .ok (.iinc 5 1, 3) := by decide +kernel
theorem dX7_alike_56 : decode cX7_alike 56 = .ok (.goto (-49), 3) := by decide +kernel
theorem dX7_alike_59 : decode cX7_alike 59 = .ok (.lload_n 3, 1) := by decide +kernel
theorem dX7_alike_60 : decode cX7_alike 60 = .ok (.lreturn, 1) := by decide +kernel
theorem dX7_holding_0 : decode cX7_holding 0 = .ok (.lconst 0, 1) := by decide +kernel
theorem dX7_holding_1 : decode cX7_holding 1 = .ok (.lstore_n 1, 1) := by decide +kernel
theorem dX7_holding_2 : decode cX7_holding 2 = .ok (.iconst 0, 1) := by decide +kernel
theorem dX7_holding_3 : decode cX7_holding 3 = .ok (.istore_n 3, 1) := by decide +kernel
theorem dX7_holding_4 : decode cX7_holding 4 = .ok (.iload_n 3, 1) := by decide +kernel
theorem dX7_holding_5 : decode cX7_holding 5 = .ok (.iconst 5, 1) := by decide +kernel
theorem dX7_holding_6 : decode cX7_holding 6 = .ok (.if_icmp .ge 46, 3) := by decide +kernel
theorem dX7_holding_9 : decode cX7_holding 9 = .ok (.aload_n 0, 1) := by decide +kernel
theorem dX7_holding_10 : decode cX7_holding 10 = .ok (.getfield 24, 3) := by decide +kernel
theorem dX7_holding_13 : decode cX7_holding 13 = .ok (.iload_n 3, 1) := by decide +kernel
theorem dX7_holding_14 : decode cX7_holding 14 = .ok (.aaload, 1) := by decide +kernel
theorem dX7_holding_15 : decode cX7_holding 15 = .ok (.astore 4, 2) := by decide +kernel
theorem dX7_holding_17 : decode cX7_holding 17 = .ok (.aload 4, 2) := by decide +kernel
theorem dX7_holding_19 : decode cX7_holding 19 = .ok (.ifnull 27, 3) := by decide +kernel
theorem dX7_holding_22 : decode cX7_holding 22 = .ok (.lload_n 1, 1) := by decide +kernel
theorem dX7_holding_23 : decode cX7_holding 23 = .ok (.aload_n 0, 1) := by decide +kernel
theorem dX7_holding_24 : decode cX7_holding 24 = .ok (.aload 4, 2) := by decide +kernel
theorem dX7_holding_26 : decode cX7_holding 26 = .ok (.invokevirtual 81, 3) := by decide +kernel
theorem dX7_holding_29 : decode cX7_holding 29 = .ok (.iload_n 3, 1) := by decide +kernel
theorem dX7_holding_30 : decode cX7_holding 30 = .ok (.bipush 12, 2) := by decide +kernel
theorem dX7_holding_32 : decode cX7_holding 32 = .ok (.imul, 1) := by decide +kernel
theorem dX7_holding_33 : decode cX7_holding 33 = .ok (.lshl, 1) := by decide +kernel
theorem dX7_holding_34 : decode cX7_holding 34 = .ok (.aload_n 0, 1) := by decide +kernel
theorem dX7_holding_35 : decode cX7_holding 35 = .ok (.aload 4, 2) := by decide +kernel
theorem dX7_holding_37 : decode cX7_holding 37 = .ok (.getfield 85, 3) := by decide +kernel
theorem dX7_holding_40 : decode cX7_holding 40 = .ok (.invokevirtual 89, 3) := by decide +kernel
theorem dX7_holding_43 : decode cX7_holding 43 = .ok (.land, 1) := by decide +kernel
theorem dX7_holding_44 : decode cX7_holding 44 = .ok (.lor, 1) := by decide +kernel
theorem dX7_holding_45 : decode cX7_holding 45 = .ok (.lstore_n 1, 1) := by decide +kernel
theorem dX7_holding_46 : decode cX7_holding 46 = .ok (.iinc 3 1, 3) := by decide +kernel
theorem dX7_holding_49 : decode cX7_holding 49 = .ok (.goto (-45), 3) := by decide +kernel
theorem dX7_holding_52 : decode cX7_holding 52 = .ok (.lload_n 1, 1) := by decide +kernel
theorem dX7_holding_53 : decode cX7_holding 53 = .ok (.lreturn, 1) := by decide +kernel
theorem dX7_acceptedSeries_0 : decode cX7_acceptedSeries 0 = .ok (.lconst 0, 1) := by decide +kernel
theorem dX7_acceptedSeries_1 : decode cX7_acceptedSeries 1 = .ok (.lstore_n 2, 1) := by decide +kernel
theorem dX7_acceptedSeries_2 : decode cX7_acceptedSeries 2 = .ok (.iconst 0, 1) := by decide +kernel
theorem dX7_acceptedSeries_3 : decode cX7_acceptedSeries 3 = .ok (.istore 4, 2) := by decide +kernel
theorem dX7_acceptedSeries_5 : decode cX7_acceptedSeries 5 = .ok (.iload 4, 2) := by decide +kernel
theorem dX7_acceptedSeries_7 : decode cX7_acceptedSeries 7 = .ok (.bipush 12, 2) := by decide +kernel
theorem dX7_acceptedSeries_9 : decode cX7_acceptedSeries 9 = .ok (.if_icmp .ge 40, 3) := by decide +kernel
theorem dX7_acceptedSeries_12 : decode cX7_acceptedSeries 12 = .ok (.aload_n 0, 1) := by decide +kernel
theorem dX7_acceptedSeries_13 : decode cX7_acceptedSeries 13 = .ok (.getfield 18, 3) := by decide +kernel
theorem dX7_acceptedSeries_16 : decode cX7_acceptedSeries 16 = .ok (.iload 4, 2) := by decide +kernel
theorem dX7_acceptedSeries_18 : decode cX7_acceptedSeries 18 = .ok (.baload, 1) := by decide +kernel
theorem dX7_acceptedSeries_19 : decode cX7_acceptedSeries 19 = .ok (.ifCond .eq 24, 3) := by decide +kernel
theorem dX7_acceptedSeries_22 : decode cX7_acceptedSeries 22 = .ok (.aload_n 1, 1) := by decide +kernel
theorem dX7_acceptedSeries_23 : decode cX7_acceptedSeries 23 = .ok (.aload_n 0, 1) := by decide +kernel
theorem dX7_acceptedSeries_24 : decode cX7_acceptedSeries 24 = .ok (.getfield 15, 3) := by decide +kernel
theorem dX7_acceptedSeries_27 : decode cX7_acceptedSeries 27 = .ok (.iload 4, 2) := by decide +kernel
theorem dX7_acceptedSeries_29 : decode cX7_acceptedSeries 29 = .ok (.iaload, 1) := by decide +kernel
theorem dX7_acceptedSeries_30 : decode cX7_acceptedSeries 30 = .ok (.invokevirtual 93, 3) := by decide +kernel
theorem dX7_acceptedSeries_33 : decode cX7_acceptedSeries 33 = .ok (.ifCond .eq 10, 3) := by decide +kernel
theorem dX7_acceptedSeries_36 : decode cX7_acceptedSeries 36 = .ok (.lload_n 2, 1) := by decide +kernel
theorem dX7_acceptedSeries_37 : decode cX7_acceptedSeries 37 = .ok (.lconst 1, 1) := by decide +kernel
theorem dX7_acceptedSeries_38 : decode cX7_acceptedSeries 38 = .ok (.iload 4, 2) := by decide +kernel
theorem dX7_acceptedSeries_40 : decode cX7_acceptedSeries 40 = .ok (.lshl, 1) := by decide +kernel
theorem dX7_acceptedSeries_41 : decode cX7_acceptedSeries 41 = .ok (.lor, 1) := by decide +kernel
theorem dX7_acceptedSeries_42 : decode cX7_acceptedSeries 42 = .ok (.lstore_n 2, 1) := by decide +kernel
theorem dX7_acceptedSeries_43 : decode cX7_acceptedSeries 43 = .ok (.iinc 4 1, 3) := by decide +kernel
theorem dX7_acceptedSeries_46 : decode cX7_acceptedSeries 46 = .ok (.goto (-41), 3) := by decide +kernel
theorem dX7_acceptedSeries_49 : decode cX7_acceptedSeries 49 = .ok (.lload_n 2, 1) := by decide +kernel
theorem dX7_acceptedSeries_50 : decode cX7_acceptedSeries 50 = .ok (.lreturn, 1) := by decide +kernel
theorem dX7_waitOf_0 : decode cX7_waitOf 0 = .ok (.aload_n 0, 1) := by decide +kernel
theorem dX7_waitOf_1 : decode cX7_waitOf 1 = .ok (.getfield 24, 3) := by decide +kernel
theorem dX7_waitOf_4 : decode cX7_waitOf 4 = .ok (.iload_n 1, 1) := by decide +kernel
theorem dX7_waitOf_5 : decode cX7_waitOf 5 = .ok (.bipush 12, 2) := by decide +kernel
theorem dX7_waitOf_7 : decode cX7_waitOf 7 = .ok (.idiv, 1) := by decide +kernel
theorem dX7_waitOf_8 : decode cX7_waitOf 8 = .ok (.aaload, 1) := by decide +kernel
theorem dX7_waitOf_9 : decode cX7_waitOf 9 = .ok (.astore_n 2, 1) := by decide +kernel
theorem dX7_waitOf_10 : decode cX7_waitOf 10 = .ok (.aload_n 2, 1) := by decide +kernel
theorem dX7_waitOf_11 : decode cX7_waitOf 11 = .ok (.ifnonnull 7, 3) := by decide +kernel
theorem dX7_waitOf_14 : decode cX7_waitOf 14 = .ok (.iconst 0, 1) := by decide +kernel
theorem dX7_waitOf_15 : decode cX7_waitOf 15 = .ok (.goto 7, 3) := by decide +kernel
theorem dX7_waitOf_18 : decode cX7_waitOf 18 = .ok (.aload_n 2, 1) := by decide +kernel
theorem dX7_waitOf_19 : decode cX7_waitOf 19 = .ok (.getfield 97, 3) := by decide +kernel
theorem dX7_waitOf_22 : decode cX7_waitOf 22 = .ok (.ireturn, 1) := by decide +kernel
theorem dX7_greatestSeverity_0 : decode cX7_greatestSeverity 0 = .ok (.getstatic 100, 3) := by decide +kernel
theorem dX7_greatestSeverity_3 : decode cX7_greatestSeverity 3 = .ok (.iconst 3, 1) := by decide +kernel
theorem dX7_greatestSeverity_4 : decode cX7_greatestSeverity 4 = .ok (.iaload, 1) := by decide +kernel
theorem dX7_greatestSeverity_5 : decode cX7_greatestSeverity 5 = .ok (.istore_n 3, 1) := by decide +kernel
theorem dX7_greatestSeverity_6 : decode cX7_greatestSeverity 6 = .ok (.iload_n 3, 1) := by decide +kernel
theorem dX7_greatestSeverity_7 : decode cX7_greatestSeverity 7 = .ok (.ifCond .lt 30, 3) := by decide +kernel
theorem dX7_greatestSeverity_10 : decode cX7_greatestSeverity 10 = .ok (.lload_n 1, 1) := by decide +kernel
theorem dX7_greatestSeverity_11 : decode cX7_greatestSeverity 11 = .ok (.aload_n 0, 1) := by decide +kernel
theorem dX7_greatestSeverity_12 : decode cX7_greatestSeverity 12 = .ok (.getfield 43, 3) := by decide +kernel
theorem dX7_greatestSeverity_15 : decode cX7_greatestSeverity 15 = .ok (.getstatic 56, 3) := by decide +kernel
theorem dX7_greatestSeverity_18 : decode cX7_greatestSeverity 18 = .ok (.iconst 3, 1) := by decide +kernel
theorem dX7_greatestSeverity_19 : decode cX7_greatestSeverity 19 = .ok (.iaload, 1) := by decide +kernel
theorem dX7_greatestSeverity_20 : decode cX7_greatestSeverity 20 = .ok (.iload_n 3, 1) := by decide +kernel
theorem dX7_greatestSeverity_21 : decode cX7_greatestSeverity 21 = .ok (.iadd, 1) := by decide +kernel
theorem dX7_greatestSeverity_22 : decode cX7_greatestSeverity 22 = .ok (.laload, 1) := by decide +kernel
theorem dX7_greatestSeverity_23 : decode cX7_greatestSeverity 23 = .ok (.land, 1) := by decide +kernel
theorem dX7_greatestSeverity_24 : decode cX7_greatestSeverity 24 = .ok (.lconst 0, 1) := by decide +kernel
theorem dX7_greatestSeverity_25 : decode cX7_greatestSeverity 25 = .ok (.lcmp, 1) := by decide +kernel
theorem dX7_greatestSeverity_26 : decode cX7_greatestSeverity 26 = .ok (.ifCond .eq 5, 3) := by decide +kernel
theorem dX7_greatestSeverity_29 : decode cX7_greatestSeverity 29 = .ok (.iload_n 3, 1) := by decide +kernel
theorem dX7_greatestSeverity_30 : decode cX7_greatestSeverity 30 = .ok (.ireturn, 1) := by decide +kernel
theorem dX7_greatestSeverity_31 : decode cX7_greatestSeverity 31 = .ok (.iinc 3 (-1), 3) := by decide +kernel
theorem dX7_greatestSeverity_34 : decode cX7_greatestSeverity 34 = .ok (.goto (-28), 3) := by decide +kernel
theorem dX7_greatestSeverity_37 : decode cX7_greatestSeverity 37 = .ok (.bipush (-5), 2) := by decide +kernel
theorem dX7_greatestSeverity_39 : decode cX7_greatestSeverity 39 = .ok (.ireturn, 1) := by decide +kernel
theorem dX8_init_0 : decode cX8_init 0 = .ok (.aload_n 0, 1) := by decide +kernel
theorem dX8_init_1 : decode cX8_init 1 = .ok (.invokespecial 1, 3) := by decide +kernel
theorem dX8_init_4 : decode cX8_init 4 = .ok (.aload_n 0, 1) := by decide +kernel
theorem dX8_init_5 : decode cX8_init 5 = .ok (.aload_n 1, 1) := by decide +kernel
theorem dX8_init_6 : decode cX8_init 6 = .ok (.putfield 7, 3) := by decide +kernel
theorem dX8_init_9 : decode cX8_init 9 = .ok (.aload_n 0, 1) := by decide +kernel
theorem dX8_init_10 : decode cX8_init 10 = .ok (.iload_n 2, 1) := by decide +kernel
theorem dX8_init_11 : decode cX8_init 11 = .ok (.putfield 13, 3) := by decide +kernel
theorem dX8_init_14 : decode cX8_init 14 = .ok (.aload_n 0, 1) := by decide +kernel
theorem dX8_init_15 : decode cX8_init 15 = .ok (.iload_n 3, 1) := by decide +kernel
theorem dX8_init_16 : decode cX8_init 16 = .ok (.putfield 17, 3) := by decide +kernel
theorem dX8_init_19 : decode cX8_init 19 = .ok (.return_, 1) := by decide +kernel
theorem dX8_isOn_0 : decode cX8_isOn 0 = .ok (.aload_n 0, 1) := by decide +kernel
theorem dX8_isOn_1 : decode cX8_isOn 1 = .ok (.getfield 13, 3) := by decide +kernel
theorem dX8_isOn_4 : decode cX8_isOn 4 = .ok (.iload_n 1, 1) := by decide +kernel
theorem dX8_isOn_5 : decode cX8_isOn 5 = .ok (.if_icmp .gt 20, 3) := by decide +kernel
theorem dX8_isOn_8 : decode cX8_isOn 8 = .ok (.iload_n 1, 1) := by decide +kernel
theorem dX8_isOn_9 : decode cX8_isOn 9 = .ok (.aload_n 0, 1) := by decide +kernel
theorem dX8_isOn_10 : decode cX8_isOn 10 = .ok (.getfield 13, 3) := by decide +kernel
theorem dX8_isOn_13 : decode cX8_isOn 13 = .ok (.aload_n 0, 1) := by decide +kernel
theorem dX8_isOn_14 : decode cX8_isOn 14 = .ok (.getfield 17, 3) := by decide +kernel
theorem dX8_isOn_17 : decode cX8_isOn 17 = .ok (.iadd, 1) := by decide +kernel
theorem dX8_isOn_18 : decode cX8_isOn 18 = .ok (.if_icmp .ge 7, 3) := by decide +kernel
theorem dX8_isOn_21 : decode cX8_isOn 21 = .ok (.iconst 1, 1) := by decide +kernel
theorem dX8_isOn_22 : decode cX8_isOn 22 = .ok (.goto 4, 3) := by decide +kernel
theorem dX8_isOn_25 : decode cX8_isOn 25 = .ok (.iconst 0, 1) := by decide +kernel
theorem dX8_isOn_26 : decode cX8_isOn 26 = .ok (.ireturn, 1) := by decide +kernel
theorem dX9_init_0 : decode cX9_init 0 = .ok (.aload_n 0, 1) := by decide +kernel
theorem dX9_init_1 : decode cX9_init 1 = .ok (.invokespecial 3, 3) := by decide +kernel
theorem dX9_init_4 : decode cX9_init 4 = .ok (.aload_n 0, 1) := by decide +kernel
theorem dX9_init_5 : decode cX9_init 5 = .ok (.new 9, 3) := by decide +kernel
theorem dX9_init_8 : decode cX9_init 8 = .ok (.dup, 1) := by decide +kernel
theorem dX9_init_9 : decode cX9_init 9 = .ok (.invokespecial 11, 3) := by decide +kernel
theorem dX9_init_12 : decode cX9_init 12 = .ok (.putfield 12, 3) := by decide +kernel
theorem dX9_init_15 : decode cX9_init 15 = .ok (.aload_n 0, 1) := by decide +kernel
theorem dX9_init_16 : decode cX9_init 16 = .ok (.new 18, 3) := by decide +kernel
theorem dX9_init_19 : decode cX9_init 19 = .ok (.dup, 1) := by decide +kernel
theorem dX9_init_20 : decode cX9_init 20 = .ok (.invokespecial 20, 3) := by decide +kernel
theorem dX9_init_23 : decode cX9_init 23 = .ok (.putfield 21, 3) := by decide +kernel
theorem dX9_init_26 : decode cX9_init 26 = .ok (.aload_n 0, 1) := by decide +kernel
theorem dX9_init_27 : decode cX9_init 27 = .ok (.new 25, 3) := by decide +kernel
theorem dX9_init_30 : decode cX9_init 30 = .ok (.dup, 1) := by decide +kernel
theorem dX9_init_31 : decode cX9_init 31 = .ok (.invokespecial 27, 3) := by decide +kernel
theorem dX9_init_34 : decode cX9_init 34 = .ok (.putfield 28, 3) := by decide +kernel
theorem dX9_init_37 : decode cX9_init 37 = .ok (.aload_n 0, 1) := by decide +kernel
theorem dX9_init_38 : decode cX9_init 38 = .ok (.new 32, 3) := by decide +kernel
theorem dX9_init_41 : decode cX9_init 41 = .ok (.dup, 1) := by decide +kernel
theorem dX9_init_42 : decode cX9_init 42 = .ok (.invokespecial 34, 3) := by decide +kernel
theorem dX9_init_45 : decode cX9_init 45 = .ok (.putfield 35, 3) := by decide +kernel
theorem dX9_init_48 : decode cX9_init 48 = .ok (.return_, 1) := by decide +kernel
theorem dX9_copyFrom_0 : decode cX9_copyFrom 0 = .ok (.aload_n 0, 1) := by decide +kernel
theorem dX9_copyFrom_1 : decode cX9_copyFrom 1 = .ok (.aload_n 1, 1) := by decide +kernel
theorem dX9_copyFrom_2 : decode cX9_copyFrom 2 = .ok (.getfield 39, 3) := by decide +kernel
theorem dX9_copyFrom_5 : decode cX9_copyFrom 5 = .ok (.putfield 39, 3) := by decide +kernel
theorem dX9_copyFrom_8 : decode cX9_copyFrom 8 = .ok (.aload_n 0, 1) := by decide +kernel
theorem dX9_copyFrom_9 : decode cX9_copyFrom 9 = .ok (.getfield 12, 3) := by decide +kernel
theorem dX9_copyFrom_12 : decode cX9_copyFrom 12 = .ok (.aload_n 1, 1) := by decide +kernel
theorem dX9_copyFrom_13 : decode cX9_copyFrom 13 = .ok (.getfield 12, 3) := by decide +kernel
theorem dX9_copyFrom_16 : decode cX9_copyFrom 16 = .ok (.invokevirtual 43, 3) := by decide +kernel
theorem dX9_copyFrom_19 : decode cX9_copyFrom 19 = .ok (.aload_n 0, 1) := by decide +kernel
theorem dX9_copyFrom_20 : decode cX9_copyFrom 20 = .ok (.getfield 21, 3) := by decide +kernel
theorem dX9_copyFrom_23 : decode cX9_copyFrom 23 = .ok (.aload_n 1, 1) := by decide +kernel
theorem dX9_copyFrom_24 : decode cX9_copyFrom 24 = .ok (.getfield 21, 3) := by decide +kernel
theorem dX9_copyFrom_27 : decode cX9_copyFrom 27 = .ok (.invokevirtual 47, 3) := by decide +kernel
theorem dX9_copyFrom_30 : decode cX9_copyFrom 30 = .ok (.aload_n 0, 1) := by decide +kernel
theorem dX9_copyFrom_31 : decode cX9_copyFrom 31 = .ok (.getfield 28, 3) := by decide +kernel
theorem dX9_copyFrom_34 : decode cX9_copyFrom 34 = .ok (.aload_n 1, 1) := by decide +kernel
theorem dX9_copyFrom_35 : decode cX9_copyFrom 35 = .ok (.getfield 28, 3) := by decide +kernel
theorem dX9_copyFrom_38 : decode cX9_copyFrom 38 = .ok (.invokevirtual 50, 3) := by decide +kernel
theorem dX9_copyFrom_41 : decode cX9_copyFrom 41 = .ok (.aload_n 0, 1) := by decide +kernel
theorem dX9_copyFrom_42 : decode cX9_copyFrom 42 = .ok (.getfield 35, 3) := by decide +kernel
theorem dX9_copyFrom_45 : decode cX9_copyFrom 45 = .ok (.aload_n 1, 1) := by decide +kernel
theorem dX9_copyFrom_46 : decode cX9_copyFrom 46 = .ok (.getfield 35, 3) := by decide +kernel
theorem dX9_copyFrom_49 : decode cX9_copyFrom 49 = .ok (.invokevirtual 53, 3) := by decide +kernel
theorem dX9_copyFrom_52 : decode cX9_copyFrom 52 = .ok (.return_, 1) := by decide +kernel
theorem dX9_steps_0 : decode cX9_steps 0 = .ok (.iconst 0, 1) := by decide +kernel
theorem dX9_steps_1 : decode cX9_steps 1 = .ok (.istore_n 2, 1) := by decide +kernel
theorem dX9_steps_2 : decode cX9_steps 2 = .ok (.iconst 0, 1) := by decide +kernel
theorem dX9_steps_3 : decode cX9_steps 3 = .ok (.istore_n 3, 1) := by decide +kernel
theorem dX9_steps_4 : decode cX9_steps 4 = .ok (.iload_n 3, 1) := by decide +kernel
theorem dX9_steps_5 : decode cX9_steps 5 = .ok (.iload_n 1, 1) := by decide +kernel
theorem dX9_steps_6 : decode cX9_steps 6 = .ok (.if_icmp .ge 16, 3) := by decide +kernel
theorem dX9_steps_9 : decode cX9_steps 9 = .ok (.iload_n 2, 1) := by decide +kernel
theorem dX9_steps_10 : decode cX9_steps 10 = .ok (.aload_n 0, 1) := by decide +kernel
theorem dX9_steps_11 : decode cX9_steps 11 = .ok (.invokevirtual 56, 3) := by decide +kernel
theorem dX9_steps_14 : decode cX9_steps 14 = .ok (.iadd, 1) := by decide +kernel
theorem dX9_steps_15 : decode cX9_steps 15 = .ok (.istore_n 2, 1) := by decide +kernel
theorem dX9_steps_16 : decode cX9_steps 16 = .ok (.iinc 3 1, 3) := by decide +kernel
theorem dX9_steps_19 : decode cX9_steps 19 = .ok (.goto (-15), 3) := by decide +kernel
theorem dX9_steps_22 : decode cX9_steps 22 = .ok (.iload_n 2, 1) := by decide +kernel
theorem dX9_steps_23 : decode cX9_steps 23 = .ok (.ireturn, 1) := by decide +kernel
theorem dX9_step_0 : decode cX9_step 0 = .ok (.aload_n 0, 1) := by decide +kernel
theorem dX9_step_1 : decode cX9_step 1 = .ok (.dup, 1) := by decide +kernel
theorem dX9_step_2 : decode cX9_step 2 = .ok (.getfield 39, 3) := by decide +kernel
theorem dX9_step_5 : decode cX9_step 5 = .ok (.iconst 1, 1) := by decide +kernel
theorem dX9_step_6 : decode cX9_step 6 = .ok (.iadd, 1) := by decide +kernel
theorem dX9_step_7 : decode cX9_step 7 = .ok (.putfield 39, 3) := by decide +kernel
theorem dX9_step_10 : decode cX9_step 10 = .ok (.aload_n 0, 1) := by decide +kernel
theorem dX9_step_11 : decode cX9_step 11 = .ok (.getfield 21, 3) := by decide +kernel
theorem dX9_step_14 : decode cX9_step 14 = .ok (.aload_n 0, 1) := by decide +kernel
theorem dX9_step_15 : decode cX9_step 15 = .ok (.getfield 39, 3) := by decide +kernel
theorem dX9_step_18 : decode cX9_step 18 = .ok (.aload_n 0, 1) := by decide +kernel
theorem dX9_step_19 : decode cX9_step 19 = .ok (.getfield 12, 3) := by decide +kernel
theorem dX9_step_22 : decode cX9_step 22 = .ok (.invokevirtual 60, 3) := by decide +kernel
theorem dX9_step_25 : decode cX9_step 25 = .ok (.aload_n 0, 1) := by decide +kernel
theorem dX9_step_26 : decode cX9_step 26 = .ok (.getfield 12, 3) := by decide +kernel
theorem dX9_step_29 : decode cX9_step 29 = .ok (.invokevirtual 64, 3) := by decide +kernel
theorem dX9_step_32 : decode cX9_step 32 = .ok (.aload_n 0, 1) := by decide +kernel
theorem dX9_step_33 : decode cX9_step 33 = .ok (.getfield 28, 3) := by decide +kernel
theorem dX9_step_36 : decode cX9_step 36 = .ok (.aload_n 0, 1) := by decide +kernel
theorem dX9_step_37 : decode cX9_step 37 = .ok (.invokevirtual 68, 3) := by decide +kernel
theorem dX9_step_40 : decode cX9_step 40 = .ok (.aload_n 0, 1) := by decide +kernel
theorem dX9_step_41 : decode cX9_step 41 = .ok (.getfield 12, 3) := by decide +kernel
theorem dX9_step_44 : decode cX9_step 44 = .ok (.invokevirtual 71, 3) := by decide +kernel
theorem dX9_step_47 : decode cX9_step 47 = .ok (.iconst 0, 1) := by decide +kernel
theorem dX9_step_48 : decode cX9_step 48 = .ok (.istore_n 1, 1) := by decide +kernel
theorem dX9_step_49 : decode cX9_step 49 = .ok (.iconst 0, 1) := by decide +kernel
theorem dX9_step_50 : decode cX9_step 50 = .ok (.istore_n 2, 1) := by decide +kernel
theorem dX9_step_51 : decode cX9_step 51 = .ok (.iload_n 2, 1) := by decide +kernel
theorem dX9_step_52 : decode cX9_step 52 = .ok (.sipush 128, 3) := by decide +kernel
theorem dX9_step_55 : decode cX9_step 55 = .ok (.if_icmp .ge 44, 3) := by decide +kernel
theorem dX9_step_58 : decode cX9_step 58 = .ok (.aload_n 0, 1) := by decide +kernel
theorem dX9_step_59 : decode cX9_step 59 = .ok (.getfield 28, 3) := by decide +kernel
theorem dX9_step_62 : decode cX9_step 62 = .ok (.iload_n 2, 1) := by decide +kernel
theorem dX9_step_63 : decode cX9_step 63 = .ok (.aload_n 0, 1) := by decide +kernel
theorem dX9_step_64 : decode cX9_step 64 = .ok (.getfield 39, 3) := by decide +kernel
theorem dX9_step_67 : decode cX9_step 67 = .ok (.aload_n 0, 1) := by decide +kernel
theorem dX9_step_68 : decode cX9_step 68 = .ok (.getfield 12, 3) := by decide +kernel
theorem dX9_step_71 : decode cX9_step 71 = .ok (.invokevirtual 75, 3) := by decide +kernel
theorem dX9_step_74 : decode cX9_step 74 = .ok (.istore_n 3, 1) := by decide +kernel
theorem dX9_step_75 : decode cX9_step 75 = .ok (.iload_n 3, 1) := by decide +kernel
theorem dX9_step_76 : decode cX9_step 76 = .ok (.bipush (-5), 2) := by decide +kernel
theorem dX9_step_78 : decode cX9_step 78 = .ok (.if_icmp .ne 6, 3) := by decide +kernel
theorem dX9_step_81 : decode cX9_step 81 = .ok (.goto 12, 3) := by decide +kernel
theorem dX9_step_84 : decode cX9_step 84 = .ok (.aload_n 0, 1) := by decide +kernel
theorem dX9_step_85 : decode cX9_step 85 = .ok (.iload_n 2, 1) := by decide +kernel
theorem dX9_step_86 : decode cX9_step 86 = .ok (.iload_n 3, 1) := by decide +kernel
theorem dX9_step_87 : decode cX9_step 87 = .ok (.invokevirtual 79, 3) := by decide +kernel
theorem dX9_step_90 : decode cX9_step 90 = .ok (.iinc 1 1, 3) := by decide +kernel
theorem dX9_step_93 : decode cX9_step 93 = .ok (.iinc 2 1, 3) := by decide +kernel
theorem dX9_step_96 : decode cX9_step 96 = .ok (.goto (-45), 3) := by decide +kernel
theorem dX9_step_99 : decode cX9_step 99 = .ok (.iload_n 1, 1) := by decide +kernel
theorem dX9_step_100 : decode cX9_step 100 = .ok (.ireturn, 1) := by decide +kernel
theorem dX9_sendGroup_0 : decode cX9_sendGroup 0 = .ok (.aload_n 0, 1) := by decide +kernel
theorem dX9_sendGroup_1 : decode cX9_sendGroup 1 = .ok (.getfield 28, 3) := by decide +kernel
theorem dX9_sendGroup_4 : decode cX9_sendGroup 4 = .ok (.getfield 83, 3) := by decide +kernel
theorem dX9_sendGroup_7 : decode cX9_sendGroup 7 = .ok (.iload_n 1, 1) := by decide +kernel
theorem dX9_sendGroup_8 : decode cX9_sendGroup 8 = .ok (.laload, 1) := by decide +kernel
theorem dX9_sendGroup_9 : decode cX9_sendGroup 9 = .ok (.lstore_n 3, 1) := by decide +kernel
theorem dX9_sendGroup_10 : decode cX9_sendGroup 10 = .ok (.aload_n 0, 1) := by decide +kernel
theorem dX9_sendGroup_11 : decode cX9_sendGroup 11 = .ok (.getfield 28, 3) := by decide +kernel
theorem dX9_sendGroup_14 : decode cX9_sendGroup 14 = .ok (.iload_n 1, 1) := by decide +kernel
theorem dX9_sendGroup_15 : decode cX9_sendGroup 15 = .ok (.iload_n 2, 1) := by decide +kernel
theorem dX9_sendGroup_16 : decode cX9_sendGroup 16 = .ok (.aload_n 0, 1) := by decide +kernel
theorem dX9_sendGroup_17 : decode cX9_sendGroup 17 = .ok (.getfield 39, 3) := by decide +kernel
theorem dX9_sendGroup_20 : decode cX9_sendGroup 20 = .ok (.invokevirtual 87, 3) := by decide +kernel
theorem dX9_sendGroup_23 : decode cX9_sendGroup 23 = .ok (.aload_n 0, 1) := by decide +kernel
theorem dX9_sendGroup_24 : decode cX9_sendGroup 24 = .ok (.getfield 35, 3) := by decide +kernel
theorem dX9_sendGroup_27 : decode cX9_sendGroup 27 = .ok (.aload_n 0, 1) := by decide +kernel
theorem dX9_sendGroup_28 : decode cX9_sendGroup 28 = .ok (.getfield 39, 3) := by decide +kernel
theorem dX9_sendGroup_31 : decode cX9_sendGroup 31 = .ok (.iload_n 1, 1) := by decide +kernel
theorem dX9_sendGroup_32 : decode cX9_sendGroup 32 = .ok (.iload_n 2, 1) := by decide +kernel
theorem dX9_sendGroup_33 : decode cX9_sendGroup 33 = .ok (.lload_n 3, 1) := by decide +kernel
theorem dX9_sendGroup_34 : decode cX9_sendGroup 34 = .ok (.invokestatic 91, 3) := by decide +kernel
theorem dX9_sendGroup_37 : decode cX9_sendGroup 37 = .ok (.aload_n 0, 1) := by decide +kernel
theorem dX9_sendGroup_38 : decode cX9_sendGroup 38 = .ok (.getfield 12, 3) := by decide +kernel
theorem dX9_sendGroup_41 : decode cX9_sendGroup 41 = .ok (.lload_n 3, 1) := by decide +kernel
theorem dX9_sendGroup_42 : decode cX9_sendGroup 42 = .ok (.invokevirtual 97, 3) := by decide +kernel
theorem dX9_sendGroup_45 : decode cX9_sendGroup 45 = .ok (.invokevirtual 100, 3) := by decide +kernel
theorem dX9_sendGroup_48 : decode cX9_sendGroup 48 = .ok (.return_, 1) := by decide +kernel
theorem dX9_active_0 : decode cX9_active 0 = .ok (.aload_n 0, 1) := by decide +kernel
theorem dX9_active_1 : decode cX9_active 1 = .ok (.getfield 21, 3) := by decide +kernel
theorem dX9_active_4 : decode cX9_active 4 = .ok (.getfield 104, 3) := by decide +kernel
theorem dX9_active_7 : decode cX9_active 7 = .ok (.aload_n 0, 1) := by decide +kernel
theorem dX9_active_8 : decode cX9_active 8 = .ok (.invokevirtual 108, 3) := by decide +kernel
theorem dX9_active_11 : decode cX9_active 11 = .ok (.ldc2_w 111, 3) := by decide +kernel
theorem dX9_active_14 : decode cX9_active 14 = .ok (.lxor, 1) := by decide +kernel
theorem dX9_active_15 : decode cX9_active 15 = .ok (.land, 1) := by decide +kernel
theorem dX9_active_16 : decode cX9_active 16 = .ok (.aload_n 0, 1) := by decide +kernel
theorem dX9_active_17 : decode cX9_active 17 = .ok (.invokevirtual 113, 3) := by decide +kernel
theorem dX9_active_20 : decode cX9_active 20 = .ok (.ldc2_w 111, 3) := by decide +kernel
theorem dX9_active_23 : decode cX9_active 23 = .ok (.lxor, 1) := by decide +kernel
theorem dX9_active_24 : decode cX9_active 24 = .ok (.land, 1) := by decide +kernel
theorem dX9_active_25 : decode cX9_active 25 = .ok (.lstore_n 1, 1) := by decide +kernel
theorem dX9_active_26 : decode cX9_active 26 = .ok (.lload_n 1, 1) := by decide +kernel
theorem dX9_active_27 : decode cX9_active 27 = .ok (.aload_n 0, 1) := by decide +kernel
theorem dX9_active_28 : decode cX9_active 28 = .ok (.lload_n 1, 1) := by decide +kernel
theorem dX9_active_29 : decode cX9_active 29 = .ok (.invokevirtual 116, 3) := by decide +kernel
theorem dX9_active_32 : decode cX9_active 32 = .ok (.ldc2_w 111, 3) := by decide +kernel
theorem dX9_active_35 : decode cX9_active 35 = .ok (.lxor, 1) := by decide +kernel
theorem dX9_active_36 : decode cX9_active 36 = .ok (.land, 1) := by decide +kernel
theorem dX9_active_37 : decode cX9_active 37 = .ok (.lreturn, 1) := by decide +kernel
theorem dX9_silencedBy_0 : decode cX9_silencedBy 0 = .ok (.aload_n 0, 1) := by decide +kernel
theorem dX9_silencedBy_1 : decode cX9_silencedBy 1 = .ok (.getfield 12, 3) := by decide +kernel
theorem dX9_silencedBy_4 : decode cX9_silencedBy 4 = .ok (.getfield 120, 3) := by decide +kernel
theorem dX9_silencedBy_7 : decode cX9_silencedBy 7 = .ok (.iload_n 1, 1) := by decide +kernel
theorem dX9_silencedBy_8 : decode cX9_silencedBy 8 = .ok (.aaload, 1) := by decide +kernel
theorem dX9_silencedBy_9 : decode cX9_silencedBy 9 = .ok (.astore_n 2, 1) := by decide +kernel
theorem dX9_silencedBy_10 : decode cX9_silencedBy 10 = .ok (.aload_n 2, 1) := by decide +kernel
theorem dX9_silencedBy_11 : decode cX9_silencedBy 11 = .ok (.ifnull 28, 3) := by decide +kernel
theorem dX9_silencedBy_14 : decode cX9_silencedBy 14 = .ok (.aload_n 2, 1) := by decide +kernel
theorem dX9_silencedBy_15 : decode cX9_silencedBy 15 = .ok (.aload_n 0, 1) := by decide +kernel
theorem dX9_silencedBy_16 : decode cX9_silencedBy 16 = .ok (.getfield 39, 3) := by decide +kernel
theorem dX9_silencedBy_19 : decode cX9_silencedBy 19 = .ok (.invokevirtual 124, 3) := by decide +kernel
theorem dX9_silencedBy_22 : decode cX9_silencedBy 22 = .ok (.ifCond .eq 17, 3) := by decide +kernel
theorem dX9_silencedBy_25 : decode cX9_silencedBy 25 = .ok (.aload_n 0, 1) := by decide +kernel
theorem dX9_silencedBy_26 : decode cX9_silencedBy 26 = .ok (.getfield 12, 3) := by decide +kernel
theorem dX9_silencedBy_29 : decode cX9_silencedBy 29 = .ok (.aload_n 2, 1) := by decide +kernel
theorem dX9_silencedBy_30 : decode cX9_silencedBy 30 = .ok (.getfield 130, 3) := by decide +kernel
theorem dX9_silencedBy_33 : decode cX9_silencedBy 33 = .ok (.invokevirtual 134, 3) := by decide +kernel
theorem dX9_silencedBy_36 : decode cX9_silencedBy 36 = .ok (.goto 4, 3) := by decide +kernel
theorem dX9_silencedBy_39 : decode cX9_silencedBy 39 = .ok (.lconst 0, 1) := by decide +kernel
theorem dX9_silencedBy_40 : decode cX9_silencedBy 40 = .ok (.lreturn, 1) := by decide +kernel
theorem dX9_silenced_0 : decode cX9_silenced 0 = .ok (.lconst 0, 1) := by decide +kernel
theorem dX9_silenced_1 : decode cX9_silenced 1 = .ok (.lstore_n 1, 1) := by decide +kernel
theorem dX9_silenced_2 : decode cX9_silenced 2 = .ok (.iconst 0, 1) := by decide +kernel
theorem dX9_silenced_3 : decode cX9_silenced 3 = .ok (.istore_n 3, 1) := by decide +kernel
theorem dX9_silenced_4 : decode cX9_silenced 4 = .ok (.iload_n 3, 1) := by decide +kernel
theorem dX9_silenced_5 : decode cX9_silenced 5 = .ok (.bipush 6, 2) := by decide +kernel
theorem dX9_silenced_7 : decode cX9_silenced 7 = .ok (.if_icmp .ge 17, 3) := by decide +kernel
theorem dX9_silenced_10 : decode cX9_silenced 10 = .ok (.lload_n 1, 1) := by decide +kernel
theorem dX9_silenced_11 : decode cX9_silenced 11 = .ok (.aload_n 0, 1) := by decide +kernel
theorem dX9_silenced_12 : decode cX9_silenced 12 = .ok (.iload_n 3, 1) := by decide +kernel
theorem dX9_silenced_13 : decode cX9_silenced 13 = .ok (.invokevirtual 138, 3) := by decide +kernel
theorem dX9_silenced_16 : decode cX9_silenced 16 = .ok (.lor, 1) := by decide +kernel
theorem dX9_silenced_17 : decode cX9_silenced 17 = .ok (.lstore_n 1, 1) := by decide +kernel
theorem dX9_silenced_18 : decode cX9_silenced 18 = .ok (.iinc 3 1, 3) := by decide +kernel
theorem dX9_silenced_21 : decode cX9_silenced 21 = .ok (.goto (-17), 3) := by decide +kernel
theorem dX9_silenced_24 : decode cX9_silenced 24 = .ok (.lload_n 1, 1) := by decide +kernel
theorem dX9_silenced_25 : decode cX9_silenced 25 = .ok (.lreturn, 1) := by decide +kernel
theorem dX9_lowestSilenceOf_0 : decode cX9_lowestSilenceOf 0 = .ok (.iconst 0, 1) := by decide +kernel
theorem dX9_lowestSilenceOf_1 : decode cX9_lowestSilenceOf 1 = .ok (.istore_n 2, 1) := by decide +kernel
theorem dX9_lowestSilenceOf_2 : decode cX9_lowestSilenceOf 2 = .ok (.iload_n 2, 1) := by decide +kernel
theorem dX9_lowestSilenceOf_3 : decode cX9_lowestSilenceOf 3 = .ok (.bipush 6, 2) := by decide +kernel
theorem dX9_lowestSilenceOf_5 : decode cX9_lowestSilenceOf 5 = .ok (.if_icmp .ge 23, 3) := by decide +kernel
theorem dX9_lowestSilenceOf_8 : decode cX9_lowestSilenceOf 8 = .ok (.aload_n 0, 1) := by decide +kernel
theorem dX9_lowestSilenceOf_9 : decode cX9_lowestSilenceOf 9 = .ok (.iload_n 2, 1) := by decide +kernel
theorem dX9_lowestSilenceOf_10 : decode cX9_lowestSilenceOf 10 = .ok (.invokevirtual 138, 3) := by decide +kernel
theorem dX9_lowestSilenceOf_13 : decode cX9_lowestSilenceOf 13 = .ok (.iload_n 1, 1) := by decide +kernel
theorem dX9_lowestSilenceOf_14 : decode cX9_lowestSilenceOf 14 = .ok (.invokestatic 142, 3) := by decide +kernel
theorem dX9_lowestSilenceOf_17 : decode cX9_lowestSilenceOf 17 = .ok (.ifCond .eq 5, 3) := by decide +kernel
theorem dX9_lowestSilenceOf_20 : decode cX9_lowestSilenceOf 20 = .ok (.iload_n 2, 1) := by decide +kernel
theorem dX9_lowestSilenceOf_21 : decode cX9_lowestSilenceOf 21 = .ok (.ireturn, 1) := by decide +kernel
theorem dX9_lowestSilenceOf_22 : decode cX9_lowestSilenceOf 22 = .ok (.iinc 2 1, 3) := by decide +kernel
theorem dX9_lowestSilenceOf_25 : decode cX9_lowestSilenceOf 25 = .ok (.goto (-23), 3) := by decide +kernel
theorem dX9_lowestSilenceOf_28 : decode cX9_lowestSilenceOf 28 = .ok (.bipush (-5), 2) := by decide +kernel
theorem dX9_lowestSilenceOf_30 : decode cX9_lowestSilenceOf 30 = .ok (.ireturn, 1) := by decide +kernel
theorem dX9_countSilencesInUse_0 : decode cX9_countSilencesInUse 0 = .ok (.iconst 0, 1) := by decide +kernel
theorem dX9_countSilencesInUse_1 : decode cX9_countSilencesInUse 1 = .ok (.istore_n 1, 1) := by decide +kernel
theorem dX9_countSilencesInUse_2 : decode cX9_countSilencesInUse 2 = .ok (.iconst 0, 1) := by decide +kernel
theorem dX9_countSilencesInUse_3 : decode cX9_countSilencesInUse 3 = .ok (.istore_n 2, 1) := by decide +kernel
theorem dX9_countSilencesInUse_4 : decode cX9_countSilencesInUse 4 = .ok (.iload_n 2, 1) := by decide +kernel
theorem dX9_countSilencesInUse_5 : decode cX9_countSilencesInUse 5 = .ok (.bipush 6, 2) := by decide +kernel
theorem dX9_countSilencesInUse_7 : decode cX9_countSilencesInUse 7 = .ok (.if_icmp .ge 30, 3) := by decide +kernel
theorem dX9_countSilencesInUse_10 : decode cX9_countSilencesInUse 10 = .ok (.aload_n 0, 1) := by decide +kernel
theorem dX9_countSilencesInUse_11 : decode cX9_countSilencesInUse 11 = .ok (.iload_n 2, 1) := by decide +kernel
theorem dX9_countSilencesInUse_12 : decode cX9_countSilencesInUse 12 = .ok (.invokevirtual 138, 3) := by decide +kernel
theorem dX9_countSilencesInUse_15 : decode cX9_countSilencesInUse 15 = .ok (.aload_n 0, 1) := by decide +kernel
theorem dX9_countSilencesInUse_16 : decode cX9_countSilencesInUse 16 = .ok (.getfield 21, 3) := by decide +kernel
theorem dX9_countSilencesInUse_19 : decode cX9_countSilencesInUse 19 = .ok (.getfield 104, 3) := by decide +kernel
theorem dX9_countSilencesInUse_22 : decode cX9_countSilencesInUse 22 = .ok (.land, 1) := by decide +kernel
theorem dX9_countSilencesInUse_23 : decode cX9_countSilencesInUse 23 = .ok (.lconst 0, 1) := by decide +kernel
theorem dX9_countSilencesInUse_24 : decode cX9_countSilencesInUse 24 = .ok (.lcmp, 1) := by decide +kernel
theorem dX9_countSilencesInUse_25 : decode cX9_countSilencesInUse 25 = .ok (.ifCond .eq 6, 3) := by decide +kernel
theorem dX9_countSilencesInUse_28 : decode cX9_countSilencesInUse 28 = .ok (.iinc 1 1, 3) := by decide +kernel
theorem dX9_countSilencesInUse_31 : decode cX9_countSilencesInUse 31 = .ok (.iinc 2 1, 3) := by decide +kernel
theorem dX9_countSilencesInUse_34 : decode cX9_countSilencesInUse 34 = .ok (.goto (-30), 3) := by decide +kernel
theorem dX9_countSilencesInUse_37 : decode cX9_countSilencesInUse 37 = .ok (.iload_n 1, 1) := by decide +kernel
theorem dX9_countSilencesInUse_38 : decode cX9_countSilencesInUse 38 = .ok (.ireturn, 1) := by decide +kernel
theorem dX9_inhibitorsOf_0 : decode cX9_inhibitorsOf 0 = .ok (.aload_n 0, 1) := by decide +kernel
theorem dX9_inhibitorsOf_1 : decode cX9_inhibitorsOf 1 = .ok (.getfield 21, 3) := by decide +kernel
theorem dX9_inhibitorsOf_4 : decode cX9_inhibitorsOf 4 = .ok (.getfield 104, 3) := by decide +kernel
theorem dX9_inhibitorsOf_7 : decode cX9_inhibitorsOf 7 = .ok (.iload_n 1, 1) := by decide +kernel
theorem dX9_inhibitorsOf_8 : decode cX9_inhibitorsOf 8 = .ok (.invokestatic 142, 3) := by decide +kernel
theorem dX9_inhibitorsOf_11 : decode cX9_inhibitorsOf 11 = .ok (.ifCond .ne 5, 3) := by decide +kernel
theorem dX9_inhibitorsOf_14 : decode cX9_inhibitorsOf 14 = .ok (.lconst 0, 1) := by decide +kernel
theorem dX9_inhibitorsOf_15 : decode cX9_inhibitorsOf 15 = .ok (.lreturn, 1) := by decide +kernel
theorem dX9_inhibitorsOf_16 : decode cX9_inhibitorsOf 16 = .ok (.lconst 0, 1) := by decide +kernel
theorem dX9_inhibitorsOf_17 : decode cX9_inhibitorsOf 17 = .ok (.lstore_n 2, 1) := by decide +kernel
theorem dX9_inhibitorsOf_18 : decode cX9_inhibitorsOf 18 = .ok (.iconst 0, 1) := by decide +kernel
theorem dX9_inhibitorsOf_19 : decode cX9_inhibitorsOf 19 = .ok (.istore 4, 2) := by decide +kernel
theorem dX9_inhibitorsOf_21 : decode cX9_inhibitorsOf 21 = .ok (.iload 4, 2) := by decide +kernel
theorem dX9_inhibitorsOf_23 : decode cX9_inhibitorsOf 23 = .ok (.iconst 4, 1) := by decide +kernel
theorem dX9_inhibitorsOf_24 : decode cX9_inhibitorsOf 24 = .ok (.if_icmp .ge 80, 3) := by decide +kernel
theorem dX9_inhibitorsOf_27 : decode cX9_inhibitorsOf 27 = .ok (.aload_n 0, 1) := by decide +kernel
theorem dX9_inhibitorsOf_28 : decode cX9_inhibitorsOf 28 = .ok (.getfield 12, 3) := by decide +kernel
theorem dX9_inhibitorsOf_31 : decode cX9_inhibitorsOf 31 = .ok (.getfield 146, 3) := by decide +kernel
theorem dX9_inhibitorsOf_34 : decode cX9_inhibitorsOf 34 = .ok (.iload 4, 2) := by decide +kernel
theorem dX9_inhibitorsOf_36 : decode cX9_inhibitorsOf 36 = .ok (.aaload, 1) := by decide +kernel
theorem dX9_inhibitorsOf_37 : decode cX9_inhibitorsOf 37 = .ok (.astore 5, 2) := by decide +kernel
theorem dX9_inhibitorsOf_39 : decode cX9_inhibitorsOf 39 = .ok (.aload 5, 2) := by decide +kernel
theorem dX9_inhibitorsOf_41 : decode cX9_inhibitorsOf 41 = .ok (.ifnull 57, 3) := by decide +kernel
theorem dX9_inhibitorsOf_44 : decode cX9_inhibitorsOf 44 = .ok (.aload_n 0, 1) := by decide +kernel
theorem dX9_inhibitorsOf_45 : decode cX9_inhibitorsOf 45 = .ok (.getfield 12, 3) := by decide +kernel
theorem dX9_inhibitorsOf_48 : decode cX9_inhibitorsOf 48 = .ok (.aload 5, 2) := by decide +kernel
theorem dX9_inhibitorsOf_50 : decode cX9_inhibitorsOf 50 = .ok (.getfield 150, 3) := by decide +kernel
theorem dX9_inhibitorsOf_53 : decode cX9_inhibitorsOf 53 = .ok (.invokevirtual 134, 3) := by decide +kernel
theorem dX9_inhibitorsOf_56 : decode cX9_inhibitorsOf 56 = .ok (.iload_n 1, 1) := by decide +kernel
theorem dX9_inhibitorsOf_57 : decode cX9_inhibitorsOf 57 = .ok (.invokestatic 142, 3) := by decide +kernel
theorem dX9_inhibitorsOf_60 : decode cX9_inhibitorsOf 60 = .ok (.ifCond .ne 6, 3) := by decide +kernel
theorem dX9_inhibitorsOf_63 : decode cX9_inhibitorsOf 63 = .ok (.goto 35, 3) := by decide +kernel
theorem dX9_inhibitorsOf_66 : decode cX9_inhibitorsOf 66 = .ok (.lload_n 2, 1) := by decide +kernel
theorem dX9_inhibitorsOf_67 : decode cX9_inhibitorsOf 67 = .ok (.aload_n 0, 1) := by decide +kernel
theorem dX9_inhibitorsOf_68 : decode cX9_inhibitorsOf 68 = .ok (.getfield 12, 3) := by decide +kernel
theorem dX9_inhibitorsOf_71 : decode cX9_inhibitorsOf 71 = .ok (.aload 5, 2) := by decide +kernel
theorem dX9_inhibitorsOf_73 : decode cX9_inhibitorsOf 73 = .ok (.getfield 155, 3) := by decide +kernel
theorem dX9_inhibitorsOf_76 : decode cX9_inhibitorsOf 76 = .ok (.invokevirtual 134, 3) := by decide +kernel
theorem dX9_inhibitorsOf_79 : decode cX9_inhibitorsOf 79 = .ok (.aload_n 0, 1) := by decide +kernel
theorem dX9_inhibitorsOf_80 : decode cX9_inhibitorsOf 80 = .ok (.getfield 12, 3) := by decide +kernel
theorem dX9_inhibitorsOf_83 : decode cX9_inhibitorsOf 83 = .ok (.iload_n 1, 1) := by decide +kernel
theorem dX9_inhibitorsOf_84 : decode cX9_inhibitorsOf 84 = .ok (.bipush 12, 2) := by decide +kernel
theorem dX9_inhibitorsOf_86 : decode cX9_inhibitorsOf 86 = .ok (.irem, 1) := by decide +kernel
theorem dX9_inhibitorsOf_87 : decode cX9_inhibitorsOf 87 = .ok (.aload 5, 2) := by decide +kernel
theorem dX9_inhibitorsOf_89 : decode cX9_inhibitorsOf 89 = .ok (.getfield 158, 3) := by decide +kernel
theorem dX9_inhibitorsOf_92 : decode cX9_inhibitorsOf 92 = .ok (.invokevirtual 161, 3) := by decide +kernel
theorem dX9_inhibitorsOf_95 : decode cX9_inhibitorsOf 95 = .ok (.land, 1) := by decide +kernel
theorem dX9_inhibitorsOf_96 : decode cX9_inhibitorsOf 96 = .ok (.lor, 1) := by decide +kernel
theorem dX9_inhibitorsOf_97 : decode cX9_inhibitorsOf 97 = .ok (.lstore_n 2, 1) := by decide +kernel
theorem dX9_inhibitorsOf_98 : decode cX9_inhibitorsOf 98 = .ok (.iinc 4 1, 3) := by decide +kernel
theorem dX9_inhibitorsOf_101 : decode cX9_inhibitorsOf 101 = .ok (.goto (-80), 3) := by decide +kernel
theorem dX9_inhibitorsOf_104 : decode cX9_inhibitorsOf 104 = .ok (.lload_n 2, 1) := by decide +kernel
theorem dX9_inhibitorsOf_105 : decode cX9_inhibitorsOf 105 = .ok (.aload_n 0, 1) := by decide +kernel
theorem dX9_inhibitorsOf_106 : decode cX9_inhibitorsOf 106 = .ok (.getfield 21, 3) := by decide +kernel
theorem dX9_inhibitorsOf_109 : decode cX9_inhibitorsOf 109 = .ok (.getfield 104, 3) := by decide +kernel
theorem dX9_inhibitorsOf_112 : decode cX9_inhibitorsOf 112 = .ok (.land, 1) := by decide +kernel
theorem dX9_inhibitorsOf_113 : decode cX9_inhibitorsOf 113 = .ok (.lconst 1, 1) := by decide +kernel
theorem dX9_inhibitorsOf_114 : decode cX9_inhibitorsOf 114 = .ok (.iload_n 1, 1) := by decide +kernel
theorem dX9_inhibitorsOf_115 : decode cX9_inhibitorsOf 115 = .ok (.lshl, 1) := by decide +kernel
theorem dX9_inhibitorsOf_116 : decode cX9_inhibitorsOf 116 = .ok (.ldc2_w 111, 3) := by decide +kernel
theorem dX9_inhibitorsOf_119 : decode cX9_inhibitorsOf 119 = .ok (.lxor, 1) := by decide +kernel
theorem dX9_inhibitorsOf_120 : decode cX9_inhibitorsOf 120 = .ok (.land, 1) := by decide +kernel
theorem dX9_inhibitorsOf_121 : decode cX9_inhibitorsOf 121 = .ok (.lreturn, 1) := by decide +kernel
theorem dX9_inhibited_0 : decode cX9_inhibited 0 = .ok (.lconst 0, 1) := by decide +kernel
theorem dX9_inhibited_1 : decode cX9_inhibited 1 = .ok (.lstore_n 1, 1) := by decide +kernel
theorem dX9_inhibited_2 : decode cX9_inhibited 2 = .ok (.iconst 0, 1) := by decide +kernel
theorem dX9_inhibited_3 : decode cX9_inhibited 3 = .ok (.istore_n 3, 1) := by decide +kernel
theorem dX9_inhibited_4 : decode cX9_inhibited 4 = .ok (.iload_n 3, 1) := by decide +kernel
theorem dX9_inhibited_5 : decode cX9_inhibited 5 = .ok (.iconst 4, 1) := by decide +kernel
theorem dX9_inhibited_6 : decode cX9_inhibited 6 = .ok (.if_icmp .ge 34, 3) := by decide +kernel
theorem dX9_inhibited_9 : decode cX9_inhibited 9 = .ok (.aload_n 0, 1) := by decide +kernel
theorem dX9_inhibited_10 : decode cX9_inhibited 10 = .ok (.getfield 12, 3) := by decide +kernel
theorem dX9_inhibited_13 : decode cX9_inhibited 13 = .ok (.getfield 146, 3) := by decide +kernel
theorem dX9_inhibited_16 : decode cX9_inhibited 16 = .ok (.iload_n 3, 1) := by decide +kernel
theorem dX9_inhibited_17 : decode cX9_inhibited 17 = .ok (.aaload, 1) := by decide +kernel
theorem dX9_inhibited_18 : decode cX9_inhibited 18 = .ok (.astore 4, 2) := by decide +kernel
theorem dX9_inhibited_20 : decode cX9_inhibited 20 = .ok (.aload 4, 2) := by decide +kernel
theorem dX9_inhibited_22 : decode cX9_inhibited 22 = .ok (.ifnull 12, 3) := by decide +kernel
theorem dX9_inhibited_25 : decode cX9_inhibited 25 = .ok (.lload_n 1, 1) := by decide +kernel
theorem dX9_inhibited_26 : decode cX9_inhibited 26 = .ok (.aload_n 0, 1) := by decide +kernel
theorem dX9_inhibited_27 : decode cX9_inhibited 27 = .ok (.aload 4, 2) := by decide +kernel
theorem dX9_inhibited_29 : decode cX9_inhibited 29 = .ok (.invokevirtual 165, 3) := by decide +kernel
theorem dX9_inhibited_32 : decode cX9_inhibited 32 = .ok (.lor, 1) := by decide +kernel
theorem dX9_inhibited_33 : decode cX9_inhibited 33 = .ok (.lstore_n 1, 1) := by decide +kernel
theorem dX9_inhibited_34 : decode cX9_inhibited 34 = .ok (.iinc 3 1, 3) := by decide +kernel
theorem dX9_inhibited_37 : decode cX9_inhibited 37 = .ok (.goto (-33), 3) := by decide +kernel
theorem dX9_inhibited_40 : decode cX9_inhibited 40 = .ok (.lload_n 1, 1) := by decide +kernel
theorem dX9_inhibited_41 : decode cX9_inhibited 41 = .ok (.lreturn, 1) := by decide +kernel
theorem dX9_inhibitedBy_0 : decode cX9_inhibitedBy 0 = .ok (.aload_n 0, 1) := by decide +kernel
theorem dX9_inhibitedBy_1 : decode cX9_inhibitedBy 1 = .ok (.getfield 12, 3) := by decide +kernel
theorem dX9_inhibitedBy_4 : decode cX9_inhibitedBy 4 = .ok (.aload_n 1, 1) := by decide +kernel
theorem dX9_inhibitedBy_5 : decode cX9_inhibitedBy 5 = .ok (.getfield 155, 3) := by decide +kernel
theorem dX9_inhibitedBy_8 : decode cX9_inhibitedBy 8 = .ok (.invokevirtual 134, 3) := by decide +kernel
theorem dX9_inhibitedBy_11 : decode cX9_inhibitedBy 11 = .ok (.aload_n 0, 1) := by decide +kernel
theorem dX9_inhibitedBy_12 : decode cX9_inhibitedBy 12 = .ok (.getfield 21, 3) := by decide +kernel
theorem dX9_inhibitedBy_15 : decode cX9_inhibitedBy 15 = .ok (.getfield 104, 3) := by decide +kernel
theorem dX9_inhibitedBy_18 : decode cX9_inhibitedBy 18 = .ok (.land, 1) := by decide +kernel
theorem dX9_inhibitedBy_19 : decode cX9_inhibitedBy 19 = .ok (.lstore_n 2, 1) := by decide +kernel
theorem dX9_inhibitedBy_20 : decode cX9_inhibitedBy 20 = .ok (.aload_n 0, 1) := by decide +kernel
theorem dX9_inhibitedBy_21 : decode cX9_inhibitedBy 21 = .ok (.getfield 12, 3) := by decide +kernel
theorem dX9_inhibitedBy_24 : decode cX9_inhibitedBy 24 = .ok (.aload_n 1, 1) := by decide +kernel
theorem dX9_inhibitedBy_25 : decode cX9_inhibitedBy 25 = .ok (.getfield 150, 3) := by decide +kernel
theorem dX9_inhibitedBy_28 : decode cX9_inhibitedBy 28 = .ok (.invokevirtual 134, 3) := by decide +kernel
theorem dX9_inhibitedBy_31 : decode cX9_inhibitedBy 31 = .ok (.aload_n 0, 1) := by decide +kernel
theorem dX9_inhibitedBy_32 : decode cX9_inhibitedBy 32 = .ok (.getfield 21, 3) := by decide +kernel
theorem dX9_inhibitedBy_35 : decode cX9_inhibitedBy 35 = .ok (.getfield 104, 3) := by decide +kernel
theorem dX9_inhibitedBy_38 : decode cX9_inhibitedBy 38 = .ok (.land, 1) := by decide +kernel
theorem dX9_inhibitedBy_39 : decode cX9_inhibitedBy 39 = .ok (.lstore 4, 2) := by decide +kernel
theorem dX9_inhibitedBy_41 : decode cX9_inhibitedBy 41 = .ok (.lconst 0, 1) := by decide +kernel
theorem dX9_inhibitedBy_42 : decode cX9_inhibitedBy 42 = .ok (.lstore 6, 2) := by decide +kernel
theorem dX9_inhibitedBy_44 : decode cX9_inhibitedBy 44 = .ok (.iconst 0, 1) := by decide +kernel
theorem dX9_inhibitedBy_45 : decode cX9_inhibitedBy 45 = .ok (.istore 8, 2) := by decide +kernel
theorem dX9_inhibitedBy_47 : decode cX9_inhibitedBy 47 = .ok (.iload 8, 2) := by decide +kernel
theorem dX9_inhibitedBy_49 : decode cX9_inhibitedBy 49 = .ok (.bipush 12, 2) := by decide +kernel
theorem dX9_inhibitedBy_51 : decode cX9_inhibitedBy 51 = .ok (.if_icmp .ge 76, 3) := by decide +kernel
theorem dX9_inhibitedBy_54 : decode cX9_inhibitedBy 54 = .ok (.lload_n 2, 1) := by decide +kernel
theorem dX9_inhibitedBy_55 : decode cX9_inhibitedBy 55 = .ok (.aload_n 0, 1) := by decide +kernel
theorem dX9_inhibitedBy_56 : decode cX9_inhibitedBy 56 = .ok (.getfield 12, 3) := by decide +kernel
theorem dX9_inhibitedBy_59 : decode cX9_inhibitedBy 59 = .ok (.iload 8, 2) := by decide +kernel
theorem dX9_inhibitedBy_61 : decode cX9_inhibitedBy 61 = .ok (.aload_n 1, 1) := by decide +kernel
theorem dX9_inhibitedBy_62 : decode cX9_inhibitedBy 62 = .ok (.getfield 158, 3) := by decide +kernel
theorem dX9_inhibitedBy_65 : decode cX9_inhibitedBy 65 = .ok (.invokevirtual 161, 3) := by decide +kernel
theorem dX9_inhibitedBy_68 : decode cX9_inhibitedBy 68 = .ok (.land, 1) := by decide +kernel
theorem dX9_inhibitedBy_69 : decode cX9_inhibitedBy 69 = .ok (.lstore 9, 2) := by decide +kernel
theorem dX9_inhibitedBy_71 : decode cX9_inhibitedBy 71 = .ok (.lload 9, 2) := by decide +kernel
theorem dX9_inhibitedBy_73 : decode cX9_inhibitedBy 73 = .ok (.lconst 0, 1) := by decide +kernel
theorem dX9_inhibitedBy_74 : decode cX9_inhibitedBy 74 = .ok (.lcmp, 1) := by decide +kernel
theorem dX9_inhibitedBy_75 : decode cX9_inhibitedBy 75 = .ok (.ifCond .ne 6, 3) := by decide +kernel
theorem dX9_inhibitedBy_78 : decode cX9_inhibitedBy 78 = .ok (.goto 43, 3) := by decide +kernel
theorem dX9_inhibitedBy_81 : decode cX9_inhibitedBy 81 = .ok (.lload 9, 2) := by decide +kernel
theorem dX9_inhibitedBy_83 : decode cX9_inhibitedBy 83 = .ok (.invokestatic 91, 3) := by decide +kernel
theorem dX9_inhibitedBy_86 : decode cX9_inhibitedBy 86 = .ok (.iconst 1, 1) := by decide +kernel
theorem dX9_inhibitedBy_87 : decode cX9_inhibitedBy 87 = .ok (.if_icmp .ne 12, 3) := by decide +kernel
theorem dX9_inhibitedBy_90 : decode cX9_inhibitedBy 90 = .ok (.lload 9, 2) := by decide +kernel
theorem dX9_inhibitedBy_92 : decode cX9_inhibitedBy 92 = .ok (.ldc2_w 111, 3) := by decide +kernel
theorem dX9_inhibitedBy_95 : decode cX9_inhibitedBy 95 = .ok (.lxor, 1) := by decide +kernel
theorem dX9_inhibitedBy_96 : decode cX9_inhibitedBy 96 = .ok (.goto 6, 3) := by decide +kernel
theorem dX9_inhibitedBy_99 : decode cX9_inhibitedBy 99 = .ok (.ldc2_w 169, 3) := by decide +kernel
theorem dX9_inhibitedBy_102 : decode cX9_inhibitedBy 102 = .ok (.lstore 11, 2) := by decide +kernel
theorem dX9_inhibitedBy_104 : decode cX9_inhibitedBy 104 = .ok (.lload 6, 2) := by decide +kernel
theorem dX9_inhibitedBy_106 : decode cX9_inhibitedBy 106 = .ok (.lload 4, 2) := by decide +kernel
theorem dX9_inhibitedBy_108 : decode cX9_inhibitedBy 108 = .ok (.ldc2_w 171, 3) := by decide +kernel
theorem dX9_inhibitedBy_111 : decode cX9_inhibitedBy 111 = .ok (.iload 8, 2) := by decide +kernel
theorem dX9_inhibitedBy_113 : decode cX9_inhibitedBy 113 = .ok (.lshl, 1) := by decide +kernel
theorem dX9_inhibitedBy_114 : decode cX9_inhibitedBy 114 = .ok (.land, 1) := by decide +kernel
theorem dX9_inhibitedBy_115 : decode cX9_inhibitedBy 115 = .ok (.lload 11, 2) := by decide +kernel
theorem dX9_inhibitedBy_117 : decode cX9_inhibitedBy 117 = .ok (.land, 1) := by decide +kernel
theorem dX9_inhibitedBy_118 : decode cX9_inhibitedBy 118 = .ok (.lor, 1) := by decide +kernel
theorem dX9_inhibitedBy_119 : decode cX9_inhibitedBy 119 = .ok (.lstore 6, 2) := by decide +kernel
theorem dX9_inhibitedBy_121 : decode cX9_inhibitedBy 121 = .ok (.iinc 8 1, 3) := by decide +kernel
theorem dX9_inhibitedBy_124 : decode cX9_inhibitedBy 124 = .ok (.goto (-77), 3) := by decide +kernel
theorem dX9_inhibitedBy_127 : decode cX9_inhibitedBy 127 = .ok (.lload 6, 2) := by decide +kernel
theorem dX9_inhibitedBy_129 : decode cX9_inhibitedBy 129 = .ok (.lreturn, 1) := by decide +kernel
theorem dX9_windowStart_0 : decode cX9_windowStart 0 = .ok (.aload_n 0, 1) := by decide +kernel
theorem dX9_windowStart_1 : decode cX9_windowStart 1 = .ok (.getfield 39, 3) := by decide +kernel
theorem dX9_windowStart_4 : decode cX9_windowStart 4 = .ok (.aload_n 0, 1) := by decide +kernel
theorem dX9_windowStart_5 : decode cX9_windowStart 5 = .ok (.getfield 12, 3) := by decide +kernel
theorem dX9_windowStart_8 : decode cX9_windowStart 8 = .ok (.getfield 173, 3) := by decide +kernel
theorem dX9_windowStart_11 : decode cX9_windowStart 11 = .ok (.iconst 2, 1) := by decide +kernel
theorem dX9_windowStart_12 : decode cX9_windowStart 12 = .ok (.iaload, 1) := by decide +kernel
theorem dX9_windowStart_13 : decode cX9_windowStart 13 = .ok (.isub, 1) := by decide +kernel
theorem dX9_windowStart_14 : decode cX9_windowStart 14 = .ok (.ireturn, 1) := by decide +kernel
theorem dX9_flapping_0 : decode cX9_flapping 0 = .ok (.aload_n 0, 1) := by decide +kernel
theorem dX9_flapping_1 : decode cX9_flapping 1 = .ok (.getfield 21, 3) := by decide +kernel
theorem dX9_flapping_4 : decode cX9_flapping 4 = .ok (.lload_n 1, 1) := by decide +kernel
theorem dX9_flapping_5 : decode cX9_flapping 5 = .ok (.aload_n 0, 1) := by decide +kernel
theorem dX9_flapping_6 : decode cX9_flapping 6 = .ok (.invokevirtual 177, 3) := by decide +kernel
theorem dX9_flapping_9 : decode cX9_flapping 9 = .ok (.aload_n 0, 1) := by decide +kernel
theorem dX9_flapping_10 : decode cX9_flapping 10 = .ok (.getfield 12, 3) := by decide +kernel
theorem dX9_flapping_13 : decode cX9_flapping 13 = .ok (.getfield 173, 3) := by decide +kernel
theorem dX9_flapping_16 : decode cX9_flapping 16 = .ok (.iconst 3, 1) := by decide +kernel
theorem dX9_flapping_17 : decode cX9_flapping 17 = .ok (.iaload, 1) := by decide +kernel
theorem dX9_flapping_18 : decode cX9_flapping 18 = .ok (.invokevirtual 180, 3) := by decide +kernel
theorem dX9_flapping_21 : decode cX9_flapping 21 = .ok (.lreturn, 1) := by decide +kernel
theorem dX10_init_0 : decode cX10_init 0 = .ok (.aload_n 0, 1) := by decide +kernel
theorem dX10_init_1 : decode cX10_init 1 = .ok (.invokespecial 3, 3) := by decide +kernel
theorem dX10_init_4 : decode cX10_init 4 = .ok (.aload_n 0, 1) := by decide +kernel
theorem dX10_init_5 : decode cX10_init 5 = .ok (.bipush 60, 2) := by decide +kernel
theorem dX10_init_7 : decode cX10_init 7 = .ok (.newarray .int, 2) := by decide +kernel
theorem dX10_init_9 : decode cX10_init 9 = .ok (.putfield 11, 3) := by decide +kernel
theorem dX10_init_12 : decode cX10_init 12 = .ok (.return_, 1) := by decide +kernel
theorem dX10_hasRoomFor_0 : decode cX10_hasRoomFor 0 = .ok (.aload_n 0, 1) := by decide +kernel
theorem dX10_hasRoomFor_1 : decode cX10_hasRoomFor 1 = .ok (.getfield 15, 3) := by decide +kernel
theorem dX10_hasRoomFor_4 : decode cX10_hasRoomFor 4 = .ok (.iload_n 1, 1) := by decide +kernel
theorem dX10_hasRoomFor_5 : decode cX10_hasRoomFor 5 = .ok (.iadd, 1) := by decide +kernel
theorem dX10_hasRoomFor_6 : decode cX10_hasRoomFor 6 = .ok (.bipush 60, 2) := by decide +kernel
theorem dX10_hasRoomFor_8 : decode cX10_hasRoomFor 8 = .ok (.if_icmp .gt 7, 3) := by decide +kernel
theorem dX10_hasRoomFor_11 : decode cX10_hasRoomFor 11 = .ok (.iconst 1, 1) := by decide +kernel
theorem dX10_hasRoomFor_12 : decode cX10_hasRoomFor 12 = .ok (.goto 4, 3) := by decide +kernel
theorem dX10_hasRoomFor_15 : decode cX10_hasRoomFor 15 = .ok (.iconst 0, 1) := by decide +kernel
theorem dX10_hasRoomFor_16 : decode cX10_hasRoomFor 16 = .ok (.ireturn, 1) := by decide +kernel
theorem dX10_append_0 : decode cX10_append 0 = .ok (.aload_n 0, 1) := by decide +kernel
theorem dX10_append_1 : decode cX10_append 1 = .ok (.getfield 15, 3) := by decide +kernel
theorem dX10_append_4 : decode cX10_append 4 = .ok (.bipush 60, 2) := by decide +kernel
theorem dX10_append_6 : decode cX10_append 6 = .ok (.if_icmp .ge 20, 3) := by decide +kernel
theorem dX10_append_9 : decode cX10_append 9 = .ok (.aload_n 0, 1) := by decide +kernel
theorem dX10_append_10 : decode cX10_append 10 = .ok (.getfield 11, 3) := by decide +kernel
theorem dX10_append_13 : decode cX10_append 13 = .ok (.aload_n 0, 1) := by decide +kernel
theorem dX10_append_14 : decode cX10_append 14 = .ok (.dup, 1) := by decide +kernel
theorem dX10_append_15 : decode cX10_append 15 = .ok (.getfield 15, 3) := by decide +kernel
theorem dX10_append_18 : decode cX10_append 18 = .ok (.dup_x1, 1) := by decide +kernel
theorem dX10_append_19 : decode cX10_append 19 = .ok (.iconst 1, 1) := by decide +kernel
theorem dX10_append_20 : decode cX10_append 20 = .ok (.iadd, 1) := by decide +kernel
theorem dX10_append_21 : decode cX10_append 21 = .ok (.putfield 15, 3) := by decide +kernel
end
section
theorem dX10_append_24 : decode cX10_append 24 = .ok (.iload_n 1, 1) := by decide +kernel
theorem dX10_append_25 : decode cX10_append 25 = .ok (.iastore, 1) := by decide +kernel
theorem dX10_append_26 : decode cX10_append 26 = .ok (.return_, 1) := by decide +kernel
theorem dX10_clear_0 : decode cX10_clear 0 = .ok (.aload_n 0, 1) := by decide +kernel
theorem dX10_clear_1 : decode cX10_clear 1 = .ok (.iconst 0, 1) := by decide +kernel
theorem dX10_clear_2 : decode cX10_clear 2 = .ok (.putfield 15, 3) := by decide +kernel
theorem dX10_clear_5 : decode cX10_clear 5 = .ok (.return_, 1) := by decide +kernel
theorem dX10_rewind_0 : decode cX10_rewind 0 = .ok (.aload_n 0, 1) := by decide +kernel
theorem dX10_rewind_1 : decode cX10_rewind 1 = .ok (.iconst 0, 1) := by decide +kernel
theorem dX10_rewind_2 : decode cX10_rewind 2 = .ok (.putfield 19, 3) := by decide +kernel
theorem dX10_rewind_5 : decode cX10_rewind 5 = .ok (.aload_n 0, 1) := by decide +kernel
theorem dX10_rewind_6 : decode cX10_rewind 6 = .ok (.iconst 0, 1) := by decide +kernel
theorem dX10_rewind_7 : decode cX10_rewind 7 = .ok (.putfield 22, 3) := by decide +kernel
theorem dX10_rewind_10 : decode cX10_rewind 10 = .ok (.return_, 1) := by decide +kernel
theorem dX10_readRule_0 : decode cX10_readRule 0 = .ok (.aload_n 0, 1) := by decide +kernel
theorem dX10_readRule_1 : decode cX10_readRule 1 = .ok (.invokevirtual 26, 3) := by decide +kernel
theorem dX10_readRule_4 : decode cX10_readRule 4 = .ok (.ifCond .eq 13, 3) := by decide +kernel
theorem dX10_readRule_7 : decode cX10_readRule 7 = .ok (.new 30, 3) := by decide +kernel
theorem dX10_readRule_10 : decode cX10_readRule 10 = .ok (.dup, 1) := by decide +kernel
theorem dX10_readRule_11 : decode cX10_readRule 11 = .ok (.invokespecial 32, 3) := by decide +kernel
theorem dX10_readRule_14 : decode cX10_readRule 14 = .ok (.goto 7, 3) := by decide +kernel
theorem dX10_readRule_17 : decode cX10_readRule 17 = .ok (.aload_n 0, 1) := by decide +kernel
theorem dX10_readRule_18 : decode cX10_readRule 18 = .ok (.invokevirtual 33, 3) := by decide +kernel
theorem dX10_readRule_21 : decode cX10_readRule 21 = .ok (.astore_n 1, 1) := by decide +kernel
theorem dX10_readRule_22 : decode cX10_readRule 22 = .ok (.aload_n 0, 1) := by decide +kernel
theorem dX10_readRule_23 : decode cX10_readRule 23 = .ok (.invokevirtual 37, 3) := by decide +kernel
theorem dX10_readRule_26 : decode cX10_readRule 26 = .ok (.istore_n 2, 1) := by decide +kernel
theorem dX10_readRule_27 : decode cX10_readRule 27 = .ok (.aload_n 0, 1) := by decide +kernel
theorem dX10_readRule_28 : decode cX10_readRule 28 = .ok (.invokevirtual 26, 3) := by decide +kernel
theorem dX10_readRule_31 : decode cX10_readRule 31 = .ok (.ifCond .eq 16, 3) := by decide +kernel
theorem dX10_readRule_34 : decode cX10_readRule 34 = .ok (.aload_n 0, 1) := by decide +kernel
theorem dX10_readRule_35 : decode cX10_readRule 35 = .ok (.dup, 1) := by decide +kernel
theorem dX10_readRule_36 : decode cX10_readRule 36 = .ok (.getfield 19, 3) := by decide +kernel
theorem dX10_readRule_39 : decode cX10_readRule 39 = .ok (.iconst 1, 1) := by decide +kernel
theorem dX10_readRule_40 : decode cX10_readRule 40 = .ok (.iadd, 1) := by decide +kernel
theorem dX10_readRule_41 : decode cX10_readRule 41 = .ok (.putfield 19, 3) := by decide +kernel
theorem dX10_readRule_44 : decode cX10_readRule 44 = .ok (.goto 8, 3) := by decide +kernel
theorem dX10_readRule_47 : decode cX10_readRule 47 = .ok (.aload_n 0, 1) := by decide +kernel
theorem dX10_readRule_48 : decode cX10_readRule 48 = .ok (.iconst 1, 1) := by decide +kernel
theorem dX10_readRule_49 : decode cX10_readRule 49 = .ok (.putfield 22, 3) := by decide +kernel
theorem dX10_readRule_52 : decode cX10_readRule 52 = .ok (.aload_n 0, 1) := by decide +kernel
theorem dX10_readRule_53 : decode cX10_readRule 53 = .ok (.bipush 45, 2) := by decide +kernel
theorem dX10_readRule_55 : decode cX10_readRule 55 = .ok (.invokevirtual 41, 3) := by decide +kernel
theorem dX10_readRule_58 : decode cX10_readRule 58 = .ok (.istore_n 3, 1) := by decide +kernel
theorem dX10_readRule_59 : decode cX10_readRule 59 = .ok (.aload_n 0, 1) := by decide +kernel
theorem dX10_readRule_60 : decode cX10_readRule 60 = .ok (.invokevirtual 45, 3) := by decide +kernel
theorem dX10_readRule_63 : decode cX10_readRule 63 = .ok (.istore 4, 2) := by decide +kernel
theorem dX10_readRule_65 : decode cX10_readRule 65 = .ok (.aload_n 0, 1) := by decide +kernel
theorem dX10_readRule_66 : decode cX10_readRule 66 = .ok (.bipush 102, 2) := by decide +kernel
theorem dX10_readRule_68 : decode cX10_readRule 68 = .ok (.invokevirtual 48, 3) := by decide +kernel
theorem dX10_readRule_71 : decode cX10_readRule 71 = .ok (.aload_n 0, 1) := by decide +kernel
theorem dX10_readRule_72 : decode cX10_readRule 72 = .ok (.bipush 111, 2) := by decide +kernel
theorem dX10_readRule_74 : decode cX10_readRule 74 = .ok (.invokevirtual 48, 3) := by decide +kernel
theorem dX10_readRule_77 : decode cX10_readRule 77 = .ok (.aload_n 0, 1) := by decide +kernel
theorem dX10_readRule_78 : decode cX10_readRule 78 = .ok (.bipush 114, 2) := by decide +kernel
theorem dX10_readRule_80 : decode cX10_readRule 80 = .ok (.invokevirtual 48, 3) := by decide +kernel
theorem dX10_readRule_83 : decode cX10_readRule 83 = .ok (.aload_n 0, 1) := by decide +kernel
theorem dX10_readRule_84 : decode cX10_readRule 84 = .ok (.invokevirtual 45, 3) := by decide +kernel
theorem dX10_readRule_87 : decode cX10_readRule 87 = .ok (.istore 5, 2) := by decide +kernel
theorem dX10_readRule_89 : decode cX10_readRule 89 = .ok (.aload_n 0, 1) := by decide +kernel
theorem dX10_readRule_90 : decode cX10_readRule 90 = .ok (.bipush 115, 2) := by decide +kernel
theorem dX10_readRule_92 : decode cX10_readRule 92 = .ok (.invokevirtual 48, 3) := by decide +kernel
theorem dX10_readRule_95 : decode cX10_readRule 95 = .ok (.aload_n 0, 1) := by decide +kernel
theorem dX10_readRule_96 : decode cX10_readRule 96 = .ok (.bipush 101, 2) := by decide +kernel
theorem dX10_readRule_98 : decode cX10_readRule 98 = .ok (.invokevirtual 48, 3) := by decide +kernel
theorem dX10_readRule_101 : decode cX10_readRule 101 = .ok (.aload_n 0, 1) := by decide +kernel
theorem dX10_readRule_102 : decode cX10_readRule 102 = .ok (.bipush 118, 2) := by decide +kernel
theorem dX10_readRule_104 : decode cX10_readRule 104 = .ok (.invokevirtual 48, 3) := by decide +kernel
theorem dX10_readRule_107 : decode cX10_readRule 107 = .ok (.aload_n 0, 1) := by decide +kernel
theorem dX10_readRule_108 : decode cX10_readRule 108 = .ok (.getstatic 52, 3) := by decide +kernel
theorem dX10_readRule_111 : decode cX10_readRule 111 = .ok (.iconst 3, 1) := by decide +kernel
theorem dX10_readRule_112 : decode cX10_readRule 112 = .ok (.iaload, 1) := by decide +kernel
theorem dX10_readRule_113 : decode cX10_readRule 113 = .ok (.invokevirtual 55, 3) := by decide +kernel
theorem dX10_readRule_116 : decode cX10_readRule 116 = .ok (.istore 6, 2) := by decide +kernel
theorem dX10_readRule_118 : decode cX10_readRule 118 = .ok (.aload_n 0, 1) := by decide +kernel
theorem dX10_readRule_119 : decode cX10_readRule 119 = .ok (.invokevirtual 59, 3) := by decide +kernel
theorem dX10_readRule_122 : decode cX10_readRule 122 = .ok (.aload_n 0, 1) := by decide +kernel
theorem dX10_readRule_123 : decode cX10_readRule 123 = .ok (.getfield 22, 3) := by decide +kernel
theorem dX10_readRule_126 : decode cX10_readRule 126 = .ok (.ifCond .eq 7, 3) := by decide +kernel
theorem dX10_readRule_129 : decode cX10_readRule 129 = .ok (.aconst_null, 1) := by decide +kernel
theorem dX10_readRule_130 : decode cX10_readRule 130 = .ok (.goto 28, 3) := by decide +kernel
theorem dX10_readRule_133 : decode cX10_readRule 133 = .ok (.new 62, 3) := by decide +kernel
theorem dX10_readRule_136 : decode cX10_readRule 136 = .ok (.dup, 1) := by decide +kernel
theorem dX10_readRule_137 : decode cX10_readRule 137 = .ok (.aload_n 1, 1) := by decide +kernel
theorem dX10_readRule_138 : decode cX10_readRule 138 = .ok (.iload_n 2, 1) := by decide +kernel
theorem dX10_readRule_139 : decode cX10_readRule 139 = .ok (.iload_n 3, 1) := by decide +kernel
theorem dX10_readRule_140 : decode cX10_readRule 140 = .ok (.ifCond .eq 9, 3) := by decide +kernel
theorem dX10_readRule_143 : decode cX10_readRule 143 = .ok (.iload 4, 2) := by decide +kernel
theorem dX10_readRule_145 : decode cX10_readRule 145 = .ok (.ineg, 1) := by decide +kernel
theorem dX10_readRule_146 : decode cX10_readRule 146 = .ok (.goto 5, 3) := by decide +kernel
theorem dX10_readRule_149 : decode cX10_readRule 149 = .ok (.iload 4, 2) := by decide +kernel
theorem dX10_readRule_151 : decode cX10_readRule 151 = .ok (.iload 5, 2) := by decide +kernel
theorem dX10_readRule_153 : decode cX10_readRule 153 = .ok (.iload 6, 2) := by decide +kernel
theorem dX10_readRule_155 : decode cX10_readRule 155 = .ok (.invokespecial 64, 3) := by decide +kernel
theorem dX10_readRule_158 : decode cX10_readRule 158 = .ok (.areturn, 1) := by decide +kernel
theorem dX10_readSilence_0 : decode cX10_readSilence 0 = .ok (.aload_n 0, 1) := by decide +kernel
theorem dX10_readSilence_1 : decode cX10_readSilence 1 = .ok (.iconst 0, 1) := by decide +kernel
theorem dX10_readSilence_2 : decode cX10_readSilence 2 = .ok (.invokevirtual 67, 3) := by decide +kernel
theorem dX10_readSilence_5 : decode cX10_readSilence 5 = .ok (.astore_n 1, 1) := by decide +kernel
theorem dX10_readSilence_6 : decode cX10_readSilence 6 = .ok (.aload_n 0, 1) := by decide +kernel
theorem dX10_readSilence_7 : decode cX10_readSilence 7 = .ok (.bipush 64, 2) := by decide +kernel
theorem dX10_readSilence_9 : decode cX10_readSilence 9 = .ok (.invokevirtual 48, 3) := by decide +kernel
theorem dX10_readSilence_12 : decode cX10_readSilence 12 = .ok (.aload_n 0, 1) := by decide +kernel
theorem dX10_readSilence_13 : decode cX10_readSilence 13 = .ok (.invokevirtual 45, 3) := by decide +kernel
theorem dX10_readSilence_16 : decode cX10_readSilence 16 = .ok (.istore_n 2, 1) := by decide +kernel
theorem dX10_readSilence_17 : decode cX10_readSilence 17 = .ok (.aload_n 0, 1) := by decide +kernel
theorem dX10_readSilence_18 : decode cX10_readSilence 18 = .ok (.bipush 43, 2) := by decide +kernel
theorem dX10_readSilence_20 : decode cX10_readSilence 20 = .ok (.invokevirtual 48, 3) := by decide +kernel
theorem dX10_readSilence_23 : decode cX10_readSilence 23 = .ok (.aload_n 0, 1) := by decide +kernel
theorem dX10_readSilence_24 : decode cX10_readSilence 24 = .ok (.invokevirtual 45, 3) := by decide +kernel
theorem dX10_readSilence_27 : decode cX10_readSilence 27 = .ok (.istore_n 3, 1) := by decide +kernel
theorem dX10_readSilence_28 : decode cX10_readSilence 28 = .ok (.aload_n 0, 1) := by decide +kernel
theorem dX10_readSilence_29 : decode cX10_readSilence 29 = .ok (.invokevirtual 59, 3) := by decide +kernel
theorem dX10_readSilence_32 : decode cX10_readSilence 32 = .ok (.aload_n 0, 1) := by decide +kernel
theorem dX10_readSilence_33 : decode cX10_readSilence 33 = .ok (.getfield 22, 3) := by decide +kernel
theorem dX10_readSilence_36 : decode cX10_readSilence 36 = .ok (.ifCond .eq 7, 3) := by decide +kernel
theorem dX10_readSilence_39 : decode cX10_readSilence 39 = .ok (.aconst_null, 1) := by decide +kernel
theorem dX10_readSilence_40 : decode cX10_readSilence 40 = .ok (.goto 13, 3) := by decide +kernel
theorem dX10_readSilence_43 : decode cX10_readSilence 43 = .ok (.new 71, 3) := by decide +kernel
theorem dX10_readSilence_46 : decode cX10_readSilence 46 = .ok (.dup, 1) := by decide +kernel
theorem dX10_readSilence_47 : decode cX10_readSilence 47 = .ok (.aload_n 1, 1) := by decide +kernel
theorem dX10_readSilence_48 : decode cX10_readSilence 48 = .ok (.iload_n 2, 1) := by decide +kernel
theorem dX10_readSilence_49 : decode cX10_readSilence 49 = .ok (.iload_n 3, 1) := by decide +kernel
theorem dX10_readSilence_50 : decode cX10_readSilence 50 = .ok (.invokespecial 73, 3) := by decide +kernel
theorem dX10_readSilence_53 : decode cX10_readSilence 53 = .ok (.areturn, 1) := by decide +kernel
theorem dX10_readInhibition_0 : decode cX10_readInhibition 0 = .ok (.aload_n 0, 1) := by decide +kernel
theorem dX10_readInhibition_1 : decode cX10_readInhibition 1 = .ok (.iconst 0, 1) := by decide +kernel
theorem dX10_readInhibition_2 : decode cX10_readInhibition 2 = .ok (.invokevirtual 67, 3) := by decide +kernel
theorem dX10_readInhibition_5 : decode cX10_readInhibition 5 = .ok (.astore_n 1, 1) := by decide +kernel
theorem dX10_readInhibition_6 : decode cX10_readInhibition 6 = .ok (.aload_n 0, 1) := by decide +kernel
theorem dX10_readInhibition_7 : decode cX10_readInhibition 7 = .ok (.bipush 62, 2) := by decide +kernel
theorem dX10_readInhibition_9 : decode cX10_readInhibition 9 = .ok (.invokevirtual 48, 3) := by decide +kernel
theorem dX10_readInhibition_12 : decode cX10_readInhibition 12 = .ok (.aload_n 0, 1) := by decide +kernel
theorem dX10_readInhibition_13 : decode cX10_readInhibition 13 = .ok (.iconst 0, 1) := by decide +kernel
theorem dX10_readInhibition_14 : decode cX10_readInhibition 14 = .ok (.invokevirtual 67, 3) := by decide +kernel
theorem dX10_readInhibition_17 : decode cX10_readInhibition 17 = .ok (.astore_n 2, 1) := by decide +kernel
theorem dX10_readInhibition_18 : decode cX10_readInhibition 18 = .ok (.aload_n 0, 1) := by decide +kernel
theorem dX10_readInhibition_19 : decode cX10_readInhibition 19 = .ok (.bipush 47, 2) := by decide +kernel
theorem dX10_readInhibition_21 : decode cX10_readInhibition 21 = .ok (.invokevirtual 48, 3) := by decide +kernel
theorem dX10_readInhibition_24 : decode cX10_readInhibition 24 = .ok (.iconst 0, 1) := by decide +kernel
theorem dX10_readInhibition_25 : decode cX10_readInhibition 25 = .ok (.istore_n 3, 1) := by decide +kernel
theorem dX10_readInhibition_26 : decode cX10_readInhibition 26 = .ok (.iconst 0, 1) := by decide +kernel
theorem dX10_readInhibition_27 : decode cX10_readInhibition 27 = .ok (.istore 4, 2) := by decide +kernel
theorem dX10_readInhibition_29 : decode cX10_readInhibition 29 = .ok (.iload 4, 2) := by decide +kernel
theorem dX10_readInhibition_31 : decode cX10_readInhibition 31 = .ok (.bipush 60, 2) := by decide +kernel
theorem dX10_readInhibition_33 : decode cX10_readInhibition 33 = .ok (.if_icmp .ge 49, 3) := by decide +kernel
theorem dX10_readInhibition_36 : decode cX10_readInhibition 36 = .ok (.aload_n 0, 1) := by decide +kernel
theorem dX10_readInhibition_37 : decode cX10_readInhibition 37 = .ok (.invokevirtual 37, 3) := by decide +kernel
theorem dX10_readInhibition_40 : decode cX10_readInhibition 40 = .ok (.invokestatic 76, 3) := by decide +kernel
theorem dX10_readInhibition_43 : decode cX10_readInhibition 43 = .ok (.istore 5, 2) := by decide +kernel
theorem dX10_readInhibition_45 : decode cX10_readInhibition 45 = .ok (.iload 5, 2) := by decide +kernel
theorem dX10_readInhibition_47 : decode cX10_readInhibition 47 = .ok (.ifCond .lt 35, 3) := by decide +kernel
theorem dX10_readInhibition_50 : decode cX10_readInhibition 50 = .ok (.iload 5, 2) := by decide +kernel
theorem dX10_readInhibition_52 : decode cX10_readInhibition 52 = .ok (.iconst 3, 1) := by decide +kernel
theorem dX10_readInhibition_53 : decode cX10_readInhibition 53 = .ok (.if_icmp .ne 6, 3) := by decide +kernel
theorem dX10_readInhibition_56 : decode cX10_readInhibition 56 = .ok (.goto 26, 3) := by decide +kernel
theorem dX10_readInhibition_59 : decode cX10_readInhibition 59 = .ok (.iload_n 3, 1) := by decide +kernel
theorem dX10_readInhibition_60 : decode cX10_readInhibition 60 = .ok (.iconst 1, 1) := by decide +kernel
theorem dX10_readInhibition_61 : decode cX10_readInhibition 61 = .ok (.iload 5, 2) := by decide +kernel
theorem dX10_readInhibition_63 : decode cX10_readInhibition 63 = .ok (.ishl, 1) := by decide +kernel
theorem dX10_readInhibition_64 : decode cX10_readInhibition 64 = .ok (.ior, 1) := by decide +kernel
theorem dX10_readInhibition_65 : decode cX10_readInhibition 65 = .ok (.istore_n 3, 1) := by decide +kernel
theorem dX10_readInhibition_66 : decode cX10_readInhibition 66 = .ok (.aload_n 0, 1) := by decide +kernel
theorem dX10_readInhibition_67 : decode cX10_readInhibition 67 = .ok (.dup, 1) := by decide +kernel
theorem dX10_readInhibition_68 : decode cX10_readInhibition 68 = .ok (.getfield 19, 3) := by decide +kernel
theorem dX10_readInhibition_71 : decode cX10_readInhibition 71 = .ok (.iconst 1, 1) := by decide +kernel
theorem dX10_readInhibition_72 : decode cX10_readInhibition 72 = .ok (.iadd, 1) := by decide +kernel
theorem dX10_readInhibition_73 : decode cX10_readInhibition 73 = .ok (.putfield 19, 3) := by decide +kernel
theorem dX10_readInhibition_76 : decode cX10_readInhibition 76 = .ok (.iinc 4 1, 3) := by decide +kernel
theorem dX10_readInhibition_79 : decode cX10_readInhibition 79 = .ok (.goto (-50), 3) := by decide +kernel
theorem dX10_readInhibition_82 : decode cX10_readInhibition 82 = .ok (.aload_n 0, 1) := by decide +kernel
theorem dX10_readInhibition_83 : decode cX10_readInhibition 83 = .ok (.invokevirtual 59, 3) := by decide +kernel
theorem dX10_readInhibition_86 : decode cX10_readInhibition 86 = .ok (.aload_n 0, 1) := by decide +kernel
theorem dX10_readInhibition_87 : decode cX10_readInhibition 87 = .ok (.getfield 22, 3) := by decide +kernel
theorem dX10_readInhibition_90 : decode cX10_readInhibition 90 = .ok (.ifCond .eq 7, 3) := by decide +kernel
theorem dX10_readInhibition_93 : decode cX10_readInhibition 93 = .ok (.aconst_null, 1) := by decide +kernel
theorem dX10_readInhibition_94 : decode cX10_readInhibition 94 = .ok (.goto 13, 3) := by decide +kernel
theorem dX10_readInhibition_97 : decode cX10_readInhibition 97 = .ok (.new 79, 3) := by decide +kernel
theorem dX10_readInhibition_100 : decode cX10_readInhibition 100 = .ok (.dup, 1) := by decide +kernel
theorem dX10_readInhibition_101 : decode cX10_readInhibition 101 = .ok (.aload_n 1, 1) := by decide +kernel
theorem dX10_readInhibition_102 : decode cX10_readInhibition 102 = .ok (.aload_n 2, 1) := by decide +kernel
theorem dX10_readInhibition_103 : decode cX10_readInhibition 103 = .ok (.iload_n 3, 1) := by decide +kernel
theorem dX10_readInhibition_104 : decode cX10_readInhibition 104 = .ok (.invokespecial 81, 3) := by decide +kernel
theorem dX10_readInhibition_107 : decode cX10_readInhibition 107 = .ok (.areturn, 1) := by decide +kernel
theorem dX10_startsRuleSign_0 : decode cX10_startsRuleSign 0 = .ok (.aload_n 0, 1) := by decide +kernel
theorem dX10_startsRuleSign_1 : decode cX10_startsRuleSign 1 = .ok (.invokevirtual 37, 3) := by decide +kernel
theorem dX10_startsRuleSign_4 : decode cX10_startsRuleSign 4 = .ok (.istore_n 1, 1) := by decide +kernel
theorem dX10_startsRuleSign_5 : decode cX10_startsRuleSign 5 = .ok (.iload_n 1, 1) := by decide +kernel
theorem dX10_startsRuleSign_6 : decode cX10_startsRuleSign 6 = .ok (.bipush 60, 2) := by decide +kernel
theorem dX10_startsRuleSign_8 : decode cX10_startsRuleSign 8 = .ok (.if_icmp .eq 15, 3) := by decide +kernel
theorem dX10_startsRuleSign_11 : decode cX10_startsRuleSign 11 = .ok (.iload_n 1, 1) := by decide +kernel
theorem dX10_startsRuleSign_12 : decode cX10_startsRuleSign 12 = .ok (.bipush 62, 2) := by decide +kernel
theorem dX10_startsRuleSign_14 : decode cX10_startsRuleSign 14 = .ok (.if_icmp .eq 9, 3) := by decide +kernel
theorem dX10_startsRuleSign_17 : decode cX10_startsRuleSign 17 = .ok (.iload_n 1, 1) := by decide +kernel
theorem dX10_startsRuleSign_18 : decode cX10_startsRuleSign 18 = .ok (.bipush 61, 2) := by decide +kernel
theorem dX10_startsRuleSign_20 : decode cX10_startsRuleSign 20 = .ok (.if_icmp .ne 7, 3) := by decide +kernel
theorem dX10_startsRuleSign_23 : decode cX10_startsRuleSign 23 = .ok (.iconst 1, 1) := by decide +kernel
theorem dX10_startsRuleSign_24 : decode cX10_startsRuleSign 24 = .ok (.goto 4, 3) := by decide +kernel
theorem dX10_startsRuleSign_27 : decode cX10_startsRuleSign 27 = .ok (.iconst 0, 1) := by decide +kernel
theorem dX10_startsRuleSign_28 : decode cX10_startsRuleSign 28 = .ok (.ireturn, 1) := by decide +kernel
theorem dX10_readMatchersAhead_0 : decode cX10_readMatchersAhead 0 = .ok (.aload_n 0, 1) := by decide +kernel
theorem dX10_readMatchersAhead_1 : decode cX10_readMatchersAhead 1 = .ok (.iconst 1, 1) := by decide +kernel
theorem dX10_readMatchersAhead_2 : decode cX10_readMatchersAhead 2 = .ok (.invokevirtual 67, 3) := by decide +kernel
theorem dX10_readMatchersAhead_5 : decode cX10_readMatchersAhead 5 = .ok (.astore_n 1, 1) := by decide +kernel
theorem dX10_readMatchersAhead_6 : decode cX10_readMatchersAhead 6 = .ok (.aload_n 0, 1) := by decide +kernel
theorem dX10_readMatchersAhead_7 : decode cX10_readMatchersAhead 7 = .ok (.bipush 58, 2) := by decide +kernel
theorem dX10_readMatchersAhead_9 : decode cX10_readMatchersAhead 9 = .ok (.invokevirtual 48, 3) := by decide +kernel
theorem dX10_readMatchersAhead_12 : decode cX10_readMatchersAhead 12 = .ok (.aload_n 1, 1) := by decide +kernel
theorem dX10_readMatchersAhead_13 : decode cX10_readMatchersAhead 13 = .ok (.areturn, 1) := by decide +kernel
theorem dX10_readMatchers_0 : decode cX10_readMatchers 0 = .ok (.new 30, 3) := by decide +kernel
theorem dX10_readMatchers_3 : decode cX10_readMatchers 3 = .ok (.dup, 1) := by decide +kernel
theorem dX10_readMatchers_4 : decode cX10_readMatchers 4 = .ok (.invokespecial 32, 3) := by decide +kernel
theorem dX10_readMatchers_7 : decode cX10_readMatchers 7 = .ok (.astore_n 2, 1) := by decide +kernel
theorem dX10_readMatchers_8 : decode cX10_readMatchers 8 = .ok (.aload_n 0, 1) := by decide +kernel
theorem dX10_readMatchers_9 : decode cX10_readMatchers 9 = .ok (.aload_n 2, 1) := by decide +kernel
theorem dX10_readMatchers_10 : decode cX10_readMatchers 10 = .ok (.iload_n 1, 1) := by decide +kernel
theorem dX10_readMatchers_11 : decode cX10_readMatchers 11 = .ok (.invokevirtual 84, 3) := by decide +kernel
theorem dX10_readMatchers_14 : decode cX10_readMatchers 14 = .ok (.iconst 1, 1) := by decide +kernel
theorem dX10_readMatchers_15 : decode cX10_readMatchers 15 = .ok (.istore_n 3, 1) := by decide +kernel
theorem dX10_readMatchers_16 : decode cX10_readMatchers 16 = .ok (.iload_n 3, 1) := by decide +kernel
theorem dX10_readMatchers_17 : decode cX10_readMatchers 17 = .ok (.iconst 4, 1) := by decide +kernel
theorem dX10_readMatchers_18 : decode cX10_readMatchers 18 = .ok (.if_icmp .ge 27, 3) := by decide +kernel
theorem dX10_readMatchers_21 : decode cX10_readMatchers 21 = .ok (.aload_n 0, 1) := by decide +kernel
theorem dX10_readMatchers_22 : decode cX10_readMatchers 22 = .ok (.bipush 44, 2) := by decide +kernel
theorem dX10_readMatchers_24 : decode cX10_readMatchers 24 = .ok (.invokevirtual 41, 3) := by decide +kernel
theorem dX10_readMatchers_27 : decode cX10_readMatchers 27 = .ok (.ifCond .ne 6, 3) := by decide +kernel
theorem dX10_readMatchers_30 : decode cX10_readMatchers 30 = .ok (.goto 15, 3) := by decide +kernel
theorem dX10_readMatchers_33 : decode cX10_readMatchers 33 = .ok (.aload_n 0, 1) := by decide +kernel
theorem dX10_readMatchers_34 : decode cX10_readMatchers 34 = .ok (.aload_n 2, 1) := by decide +kernel
theorem dX10_readMatchers_35 : decode cX10_readMatchers 35 = .ok (.iload_n 1, 1) := by decide +kernel
theorem dX10_readMatchers_36 : decode cX10_readMatchers 36 = .ok (.invokevirtual 84, 3) := by decide +kernel
theorem dX10_readMatchers_39 : decode cX10_readMatchers 39 = .ok (.iinc 3 1, 3) := by decide +kernel
theorem dX10_readMatchers_42 : decode cX10_readMatchers 42 = .ok (.goto (-26), 3) := by decide +kernel
theorem dX10_readMatchers_45 : decode cX10_readMatchers 45 = .ok (.aload_n 2, 1) := by decide +kernel
theorem dX10_readMatchers_46 : decode cX10_readMatchers 46 = .ok (.areturn, 1) := by decide +kernel
theorem dX10_readMatcher_0 : decode cX10_readMatcher 0 = .ok (.aload_n 0, 1) := by decide +kernel
theorem dX10_readMatcher_1 : decode cX10_readMatcher 1 = .ok (.bipush 33, 2) := by decide +kernel
theorem dX10_readMatcher_3 : decode cX10_readMatcher 3 = .ok (.invokevirtual 41, 3) := by decide +kernel
theorem dX10_readMatcher_6 : decode cX10_readMatcher 6 = .ok (.istore_n 3, 1) := by decide +kernel
theorem dX10_readMatcher_7 : decode cX10_readMatcher 7 = .ok (.aload_n 0, 1) := by decide +kernel
theorem dX10_readMatcher_8 : decode cX10_readMatcher 8 = .ok (.invokevirtual 37, 3) := by decide +kernel
theorem dX10_readMatcher_11 : decode cX10_readMatcher 11 = .ok (.invokestatic 76, 3) := by decide +kernel
theorem dX10_readMatcher_14 : decode cX10_readMatcher 14 = .ok (.istore 4, 2) := by decide +kernel
theorem dX10_readMatcher_16 : decode cX10_readMatcher 16 = .ok (.iload 4, 2) := by decide +kernel
theorem dX10_readMatcher_18 : decode cX10_readMatcher 18 = .ok (.ifCond .lt 13, 3) := by decide +kernel
theorem dX10_readMatcher_21 : decode cX10_readMatcher 21 = .ok (.iload_n 2, 1) := by decide +kernel
theorem dX10_readMatcher_22 : decode cX10_readMatcher 22 = .ok (.ifCond .eq 15, 3) := by decide +kernel
theorem dX10_readMatcher_25 : decode cX10_readMatcher 25 = .ok (.iload 4, 2) := by decide +kernel
theorem dX10_readMatcher_27 : decode cX10_readMatcher 27 = .ok (.iconst 3, 1) := by decide +kernel
theorem dX10_readMatcher_28 : decode cX10_readMatcher 28 = .ok (.if_icmp .ne 9, 3) := by decide +kernel
theorem dX10_readMatcher_31 : decode cX10_readMatcher 31 = .ok (.aload_n 0, 1) := by decide +kernel
theorem dX10_readMatcher_32 : decode cX10_readMatcher 32 = .ok (.iconst 1, 1) := by decide +kernel
theorem dX10_readMatcher_33 : decode cX10_readMatcher 33 = .ok (.putfield 22, 3) := by decide +kernel
theorem dX10_readMatcher_36 : decode cX10_readMatcher 36 = .ok (.return_, 1) := by decide +kernel
theorem dX10_readMatcher_37 : decode cX10_readMatcher 37 = .ok (.aload_n 0, 1) := by decide +kernel
theorem dX10_readMatcher_38 : decode cX10_readMatcher 38 = .ok (.dup, 1) := by decide +kernel
theorem dX10_readMatcher_39 : decode cX10_readMatcher 39 = .ok (.getfield 19, 3) := by decide +kernel
theorem dX10_readMatcher_42 : decode cX10_readMatcher 42 = .ok (.iconst 1, 1) := by decide +kernel
theorem dX10_readMatcher_43 : decode cX10_readMatcher 43 = .ok (.iadd, 1) := by decide +kernel
theorem dX10_readMatcher_44 : decode cX10_readMatcher 44 = .ok (.putfield 19, 3) := by decide +kernel
theorem dX10_readMatcher_47 : decode cX10_readMatcher 47 = .ok (.aload_n 0, 1) := by decide +kernel
theorem dX10_readMatcher_48 : decode cX10_readMatcher 48 = .ok (.getstatic 52, 3) := by decide +kernel
theorem dX10_readMatcher_51 : decode cX10_readMatcher 51 = .ok (.iload 4, 2) := by decide +kernel
theorem dX10_readMatcher_53 : decode cX10_readMatcher 53 = .ok (.iaload, 1) := by decide +kernel
theorem dX10_readMatcher_54 : decode cX10_readMatcher 54 = .ok (.invokevirtual 55, 3) := by decide +kernel
theorem dX10_readMatcher_57 : decode cX10_readMatcher 57 = .ok (.istore 5, 2) := by decide +kernel
theorem dX10_readMatcher_59 : decode cX10_readMatcher 59 = .ok (.aload_n 0, 1) := by decide +kernel
theorem dX10_readMatcher_60 : decode cX10_readMatcher 60 = .ok (.getfield 22, 3) := by decide +kernel
theorem dX10_readMatcher_63 : decode cX10_readMatcher 63 = .ok (.ifCond .ne 11, 3) := by decide +kernel
theorem dX10_readMatcher_66 : decode cX10_readMatcher 66 = .ok (.aload_n 1, 1) := by decide +kernel
theorem dX10_readMatcher_67 : decode cX10_readMatcher 67 = .ok (.getfield 88, 3) := by decide +kernel
theorem dX10_readMatcher_70 : decode cX10_readMatcher 70 = .ok (.iconst 4, 1) := by decide +kernel
theorem dX10_readMatcher_71 : decode cX10_readMatcher 71 = .ok (.if_icmp .lt 4, 3) := by decide +kernel
theorem dX10_readMatcher_74 : decode cX10_readMatcher 74 = .ok (.return_, 1) := by decide +kernel
theorem dX10_readMatcher_75 : decode cX10_readMatcher 75 = .ok (.aload_n 1, 1) := by decide +kernel
theorem dX10_readMatcher_76 : decode cX10_readMatcher 76 = .ok (.getfield 91, 3) := by decide +kernel
theorem dX10_readMatcher_79 : decode cX10_readMatcher 79 = .ok (.aload_n 1, 1) := by decide +kernel
theorem dX10_readMatcher_80 : decode cX10_readMatcher 80 = .ok (.getfield 88, 3) := by decide +kernel
theorem dX10_readMatcher_83 : decode cX10_readMatcher 83 = .ok (.getstatic 94, 3) := by decide +kernel
theorem dX10_readMatcher_86 : decode cX10_readMatcher 86 = .ok (.iload 4, 2) := by decide +kernel
theorem dX10_readMatcher_88 : decode cX10_readMatcher 88 = .ok (.iaload, 1) := by decide +kernel
theorem dX10_readMatcher_89 : decode cX10_readMatcher 89 = .ok (.iload 5, 2) := by decide +kernel
theorem dX10_readMatcher_91 : decode cX10_readMatcher 91 = .ok (.iadd, 1) := by decide +kernel
theorem dX10_readMatcher_92 : decode cX10_readMatcher 92 = .ok (.iastore, 1) := by decide +kernel
theorem dX10_readMatcher_93 : decode cX10_readMatcher 93 = .ok (.aload_n 1, 1) := by decide +kernel
theorem dX10_readMatcher_94 : decode cX10_readMatcher 94 = .ok (.getfield 97, 3) := by decide +kernel
theorem dX10_readMatcher_97 : decode cX10_readMatcher 97 = .ok (.aload_n 1, 1) := by decide +kernel
theorem dX10_readMatcher_98 : decode cX10_readMatcher 98 = .ok (.getfield 88, 3) := by decide +kernel
theorem dX10_readMatcher_101 : decode cX10_readMatcher 101 = .ok (.iload_n 3, 1) := by decide +kernel
theorem dX10_readMatcher_102 : decode cX10_readMatcher 102 = .ok (.bastore, 1) := by decide +kernel
theorem dX10_readMatcher_103 : decode cX10_readMatcher 103 = .ok (.aload_n 1, 1) := by decide +kernel
theorem dX10_readMatcher_104 : decode cX10_readMatcher 104 = .ok (.dup, 1) := by decide +kernel
theorem dX10_readMatcher_105 : decode cX10_readMatcher 105 = .ok (.getfield 88, 3) := by decide +kernel
theorem dX10_readMatcher_108 : decode cX10_readMatcher 108 = .ok (.iconst 1, 1) := by decide +kernel
theorem dX10_readMatcher_109 : decode cX10_readMatcher 109 = .ok (.iadd, 1) := by decide +kernel
theorem dX10_readMatcher_110 : decode cX10_readMatcher 110 = .ok (.putfield 88, 3) := by decide +kernel
theorem dX10_readMatcher_113 : decode cX10_readMatcher 113 = .ok (.return_, 1) := by decide +kernel
theorem dX10_labelOf_0 : decode cX10_labelOf 0 = .ok (.iload_n 0, 1) := by decide +kernel
theorem dX10_labelOf_1 : decode cX10_labelOf 1 = .ok (.lookupswitch 51 #[(104, 45), (115, 49), (116, 43), (122, 47)], 43) := by decide +kernel
theorem dX10_labelOf_44 : decode cX10_labelOf 44 = .ok (.iconst 0, 1) := by decide +kernel
theorem dX10_labelOf_45 : decode cX10_labelOf 45 = .ok (.ireturn, 1) := by decide +kernel
theorem dX10_labelOf_46 : decode cX10_labelOf 46 = .ok (.iconst 1, 1) := by decide +kernel
theorem dX10_labelOf_47 : decode cX10_labelOf 47 = .ok (.ireturn, 1) := by decide +kernel
theorem dX10_labelOf_48 : decode cX10_labelOf 48 = .ok (.iconst 2, 1) := by decide +kernel
theorem dX10_labelOf_49 : decode cX10_labelOf 49 = .ok (.ireturn, 1) := by decide +kernel
theorem dX10_labelOf_50 : decode cX10_labelOf 50 = .ok (.iconst 3, 1) := by decide +kernel
theorem dX10_labelOf_51 : decode cX10_labelOf 51 = .ok (.ireturn, 1) := by decide +kernel
theorem dX10_labelOf_52 : decode cX10_labelOf 52 = .ok (.bipush (-5), 2) := by decide +kernel
theorem dX10_labelOf_54 : decode cX10_labelOf 54 = .ok (.ireturn, 1) := by decide +kernel
theorem dX10_readNumber_0 : decode cX10_readNumber 0 = .ok (.aload_n 0, 1) := by decide +kernel
theorem dX10_readNumber_1 : decode cX10_readNumber 1 = .ok (.bipush 9, 2) := by decide +kernel
theorem dX10_readNumber_3 : decode cX10_readNumber 3 = .ok (.invokevirtual 55, 3) := by decide +kernel
theorem dX10_readNumber_6 : decode cX10_readNumber 6 = .ok (.istore_n 1, 1) := by decide +kernel
theorem dX10_readNumber_7 : decode cX10_readNumber 7 = .ok (.iconst 1, 1) := by decide +kernel
theorem dX10_readNumber_8 : decode cX10_readNumber 8 = .ok (.istore_n 2, 1) := by decide +kernel
theorem dX10_readNumber_9 : decode cX10_readNumber 9 = .ok (.iload_n 2, 1) := by decide +kernel
theorem dX10_readNumber_10 : decode cX10_readNumber 10 = .ok (.iconst 4, 1) := by decide +kernel
theorem dX10_readNumber_11 : decode cX10_readNumber 11 = .ok (.if_icmp .ge 46, 3) := by decide +kernel
theorem dX10_readNumber_14 : decode cX10_readNumber 14 = .ok (.iload_n 1, 1) := by decide +kernel
theorem dX10_readNumber_15 : decode cX10_readNumber 15 = .ok (.ifCond .eq 42, 3) := by decide +kernel
theorem dX10_readNumber_18 : decode cX10_readNumber 18 = .ok (.aload_n 0, 1) := by decide +kernel
theorem dX10_readNumber_19 : decode cX10_readNumber 19 = .ok (.invokevirtual 37, 3) := by decide +kernel
theorem dX10_readNumber_22 : decode cX10_readNumber 22 = .ok (.bipush 48, 2) := by decide +kernel
theorem dX10_readNumber_24 : decode cX10_readNumber 24 = .ok (.if_icmp .lt 33, 3) := by decide +kernel
theorem dX10_readNumber_27 : decode cX10_readNumber 27 = .ok (.aload_n 0, 1) := by decide +kernel
theorem dX10_readNumber_28 : decode cX10_readNumber 28 = .ok (.invokevirtual 37, 3) := by decide +kernel
theorem dX10_readNumber_31 : decode cX10_readNumber 31 = .ok (.bipush 57, 2) := by decide +kernel
theorem dX10_readNumber_33 : decode cX10_readNumber 33 = .ok (.if_icmp .le 6, 3) := by decide +kernel
theorem dX10_readNumber_36 : decode cX10_readNumber 36 = .ok (.goto 21, 3) := by decide +kernel
theorem dX10_readNumber_39 : decode cX10_readNumber 39 = .ok (.bipush 10, 2) := by decide +kernel
theorem dX10_readNumber_41 : decode cX10_readNumber 41 = .ok (.iload_n 1, 1) := by decide +kernel
theorem dX10_readNumber_42 : decode cX10_readNumber 42 = .ok (.imul, 1) := by decide +kernel
theorem dX10_readNumber_43 : decode cX10_readNumber 43 = .ok (.aload_n 0, 1) := by decide +kernel
theorem dX10_readNumber_44 : decode cX10_readNumber 44 = .ok (.bipush 9, 2) := by decide +kernel
theorem dX10_readNumber_46 : decode cX10_readNumber 46 = .ok (.invokevirtual 55, 3) := by decide +kernel
theorem dX10_readNumber_49 : decode cX10_readNumber 49 = .ok (.iadd, 1) := by decide +kernel
theorem dX10_readNumber_50 : decode cX10_readNumber 50 = .ok (.istore_n 1, 1) := by decide +kernel
theorem dX10_readNumber_51 : decode cX10_readNumber 51 = .ok (.iinc 2 1, 3) := by decide +kernel
theorem dX10_readNumber_54 : decode cX10_readNumber 54 = .ok (.goto (-45), 3) := by decide +kernel
theorem dX10_readNumber_57 : decode cX10_readNumber 57 = .ok (.iload_n 1, 1) := by decide +kernel
theorem dX10_readNumber_58 : decode cX10_readNumber 58 = .ok (.ireturn, 1) := by decide +kernel
theorem dX10_readDigit_0 : decode cX10_readDigit 0 = .ok (.aload_n 0, 1) := by decide +kernel
theorem dX10_readDigit_1 : decode cX10_readDigit 1 = .ok (.invokevirtual 37, 3) := by decide +kernel
theorem dX10_readDigit_4 : decode cX10_readDigit 4 = .ok (.bipush 48, 2) := by decide +kernel
theorem dX10_readDigit_6 : decode cX10_readDigit 6 = .ok (.isub, 1) := by decide +kernel
theorem dX10_readDigit_7 : decode cX10_readDigit 7 = .ok (.istore_n 2, 1) := by decide +kernel
theorem dX10_readDigit_8 : decode cX10_readDigit 8 = .ok (.iload_n 2, 1) := by decide +kernel
theorem dX10_readDigit_9 : decode cX10_readDigit 9 = .ok (.ifCond .lt 8, 3) := by decide +kernel
theorem dX10_readDigit_12 : decode cX10_readDigit 12 = .ok (.iload_n 2, 1) := by decide +kernel
theorem dX10_readDigit_13 : decode cX10_readDigit 13 = .ok (.iload_n 1, 1) := by decide +kernel
theorem dX10_readDigit_14 : decode cX10_readDigit 14 = .ok (.if_icmp .le 10, 3) := by decide +kernel
theorem dX10_readDigit_17 : decode cX10_readDigit 17 = .ok (.aload_n 0, 1) := by decide +kernel
theorem dX10_readDigit_18 : decode cX10_readDigit 18 = .ok (.iconst 1, 1) := by decide +kernel
theorem dX10_readDigit_19 : decode cX10_readDigit 19 = .ok (.putfield 22, 3) := by decide +kernel
theorem dX10_readDigit_22 : decode cX10_readDigit 22 = .ok (.iconst 0, 1) := by decide +kernel
theorem dX10_readDigit_23 : decode cX10_readDigit 23 = .ok (.ireturn, 1) := by decide +kernel
theorem dX10_readDigit_24 : decode cX10_readDigit 24 = .ok (.aload_n 0, 1) := by decide +kernel
theorem dX10_readDigit_25 : decode cX10_readDigit 25 = .ok (.dup, 1) := by decide +kernel
theorem dX10_readDigit_26 : decode cX10_readDigit 26 = .ok (.getfield 19, 3) := by decide +kernel
theorem dX10_readDigit_29 : decode cX10_readDigit 29 = .ok (.iconst 1, 1) := by decide +kernel
theorem dX10_readDigit_30 : decode cX10_readDigit 30 = .ok (.iadd, 1) := by decide +kernel
theorem dX10_readDigit_31 : decode cX10_readDigit 31 = .ok (.putfield 19, 3) := by decide +kernel
theorem dX10_readDigit_34 : decode cX10_readDigit 34 = .ok (.iload_n 2, 1) := by decide +kernel
theorem dX10_readDigit_35 : decode cX10_readDigit 35 = .ok (.ireturn, 1) := by decide +kernel
theorem dX10_peek_0 : decode cX10_peek 0 = .ok (.aload_n 0, 1) := by decide +kernel
theorem dX10_peek_1 : decode cX10_peek 1 = .ok (.getfield 22, 3) := by decide +kernel
theorem dX10_peek_4 : decode cX10_peek 4 = .ok (.ifCond .ne 35, 3) := by decide +kernel
theorem dX10_peek_7 : decode cX10_peek 7 = .ok (.aload_n 0, 1) := by decide +kernel
theorem dX10_peek_8 : decode cX10_peek 8 = .ok (.getfield 19, 3) := by decide +kernel
theorem dX10_peek_11 : decode cX10_peek 11 = .ok (.aload_n 0, 1) := by decide +kernel
theorem dX10_peek_12 : decode cX10_peek 12 = .ok (.getfield 15, 3) := by decide +kernel
theorem dX10_peek_15 : decode cX10_peek 15 = .ok (.if_icmp .ge 24, 3) := by decide +kernel
theorem dX10_peek_18 : decode cX10_peek 18 = .ok (.aload_n 0, 1) := by decide +kernel
theorem dX10_peek_19 : decode cX10_peek 19 = .ok (.getfield 19, 3) := by decide +kernel
theorem dX10_peek_22 : decode cX10_peek 22 = .ok (.bipush 60, 2) := by decide +kernel
theorem dX10_peek_24 : decode cX10_peek 24 = .ok (.if_icmp .ge 15, 3) := by decide +kernel
theorem dX10_peek_27 : decode cX10_peek 27 = .ok (.aload_n 0, 1) := by decide +kernel
theorem dX10_peek_28 : decode cX10_peek 28 = .ok (.getfield 11, 3) := by decide +kernel
theorem dX10_peek_31 : decode cX10_peek 31 = .ok (.aload_n 0, 1) := by decide +kernel
theorem dX10_peek_32 : decode cX10_peek 32 = .ok (.getfield 19, 3) := by decide +kernel
theorem dX10_peek_35 : decode cX10_peek 35 = .ok (.iaload, 1) := by decide +kernel
theorem dX10_peek_36 : decode cX10_peek 36 = .ok (.goto 4, 3) := by decide +kernel
theorem dX10_peek_39 : decode cX10_peek 39 = .ok (.iconst (-1), 1) := by decide +kernel
theorem dX10_peek_40 : decode cX10_peek 40 = .ok (.ireturn, 1) := by decide +kernel
theorem dX10_skip_0 : decode cX10_skip 0 = .ok (.aload_n 0, 1) := by decide +kernel
theorem dX10_skip_1 : decode cX10_skip 1 = .ok (.invokevirtual 37, 3) := by decide +kernel
theorem dX10_skip_4 : decode cX10_skip 4 = .ok (.iload_n 1, 1) := by decide +kernel
theorem dX10_skip_5 : decode cX10_skip 5 = .ok (.if_icmp .eq 5, 3) := by decide +kernel
theorem dX10_skip_8 : decode cX10_skip 8 = .ok (.iconst 0, 1) := by decide +kernel
theorem dX10_skip_9 : decode cX10_skip 9 = .ok (.ireturn, 1) := by decide +kernel
theorem dX10_skip_10 : decode cX10_skip 10 = .ok (.aload_n 0, 1) := by decide +kernel
theorem dX10_skip_11 : decode cX10_skip 11 = .ok (.dup, 1) := by decide +kernel
theorem dX10_skip_12 : decode cX10_skip 12 = .ok (.getfield 19, 3) := by decide +kernel
theorem dX10_skip_15 : decode cX10_skip 15 = .ok (.iconst 1, 1) := by decide +kernel
theorem dX10_skip_16 : decode cX10_skip 16 = .ok (.iadd, 1) := by decide +kernel
theorem dX10_skip_17 : decode cX10_skip 17 = .ok (.putfield 19, 3) := by decide +kernel
theorem dX10_skip_20 : decode cX10_skip 20 = .ok (.iconst 1, 1) := by decide +kernel
theorem dX10_skip_21 : decode cX10_skip 21 = .ok (.ireturn, 1) := by decide +kernel
theorem dX10_expect_0 : decode cX10_expect 0 = .ok (.aload_n 0, 1) := by decide +kernel
theorem dX10_expect_1 : decode cX10_expect 1 = .ok (.iload_n 1, 1) := by decide +kernel
theorem dX10_expect_2 : decode cX10_expect 2 = .ok (.invokevirtual 41, 3) := by decide +kernel
theorem dX10_expect_5 : decode cX10_expect 5 = .ok (.ifCond .ne 8, 3) := by decide +kernel
theorem dX10_expect_8 : decode cX10_expect 8 = .ok (.aload_n 0, 1) := by decide +kernel
theorem dX10_expect_9 : decode cX10_expect 9 = .ok (.iconst 1, 1) := by decide +kernel
theorem dX10_expect_10 : decode cX10_expect 10 = .ok (.putfield 22, 3) := by decide +kernel
theorem dX10_expect_13 : decode cX10_expect 13 = .ok (.return_, 1) := by decide +kernel
theorem dX10_expectEnd_0 : decode cX10_expectEnd 0 = .ok (.aload_n 0, 1) := by decide +kernel
theorem dX10_expectEnd_1 : decode cX10_expectEnd 1 = .ok (.getfield 19, 3) := by decide +kernel
theorem dX10_expectEnd_4 : decode cX10_expectEnd 4 = .ok (.aload_n 0, 1) := by decide +kernel
theorem dX10_expectEnd_5 : decode cX10_expectEnd 5 = .ok (.getfield 15, 3) := by decide +kernel
theorem dX10_expectEnd_8 : decode cX10_expectEnd 8 = .ok (.if_icmp .ge 8, 3) := by decide +kernel
theorem dX10_expectEnd_11 : decode cX10_expectEnd 11 = .ok (.aload_n 0, 1) := by decide +kernel
theorem dX10_expectEnd_12 : decode cX10_expectEnd 12 = .ok (.iconst 1, 1) := by decide +kernel
theorem dX10_expectEnd_13 : decode cX10_expectEnd 13 = .ok (.putfield 22, 3) := by decide +kernel
theorem dX10_expectEnd_16 : decode cX10_expectEnd 16 = .ok (.return_, 1) := by decide +kernel
end
section
theorem dX11_init_0 : decode cX11_init 0 = .ok (.aload_n 0, 1) := by decide +kernel
theorem dX11_init_1 : decode cX11_init 1 = .ok (.invokespecial 3, 3) := by decide +kernel
theorem dX11_init_4 : decode cX11_init 4 = .ok (.aload_n 0, 1) := by decide +kernel
theorem dX11_init_5 : decode cX11_init 5 = .ok (.new 9, 3) := by decide +kernel
theorem dX11_init_8 : decode cX11_init 8 = .ok (.dup, 1) := by decide +kernel
theorem dX11_init_9 : decode cX11_init 9 = .ok (.invokespecial 11, 3) := by decide +kernel
theorem dX11_init_12 : decode cX11_init 12 = .ok (.putfield 12, 3) := by decide +kernel
theorem dX11_init_15 : decode cX11_init 15 = .ok (.aload_n 0, 1) := by decide +kernel
theorem dX11_init_16 : decode cX11_init 16 = .ok (.new 16, 3) := by decide +kernel
theorem dX11_init_19 : decode cX11_init 19 = .ok (.dup, 1) := by decide +kernel
theorem dX11_init_20 : decode cX11_init 20 = .ok (.invokespecial 18, 3) := by decide +kernel
theorem dX11_init_23 : decode cX11_init 23 = .ok (.putfield 19, 3) := by decide +kernel
theorem dX11_init_26 : decode cX11_init 26 = .ok (.aload_n 0, 1) := by decide +kernel
theorem dX11_init_27 : decode cX11_init 27 = .ok (.new 16, 3) := by decide +kernel
theorem dX11_init_30 : decode cX11_init 30 = .ok (.dup, 1) := by decide +kernel
theorem dX11_init_31 : decode cX11_init 31 = .ok (.invokespecial 18, 3) := by decide +kernel
theorem dX11_init_34 : decode cX11_init 34 = .ok (.putfield 23, 3) := by decide +kernel
theorem dX11_init_37 : decode cX11_init 37 = .ok (.aload_n 0, 1) := by decide +kernel
theorem dX11_init_38 : decode cX11_init 38 = .ok (.new 16, 3) := by decide +kernel
theorem dX11_init_41 : decode cX11_init 41 = .ok (.dup, 1) := by decide +kernel
theorem dX11_init_42 : decode cX11_init 42 = .ok (.invokespecial 18, 3) := by decide +kernel
theorem dX11_init_45 : decode cX11_init 45 = .ok (.putfield 26, 3) := by decide +kernel
theorem dX11_init_48 : decode cX11_init 48 = .ok (.return_, 1) := by decide +kernel
theorem dX11_label_0 : decode cX11_label 0 = .ok (.iload_n 1, 1) := by decide +kernel
theorem dX11_label_1 : decode cX11_label 1 = .ok (.invokestatic 29, 3) := by decide +kernel
theorem dX11_label_4 : decode cX11_label 4 = .ok (.ifCond .eq 12, 3) := by decide +kernel
theorem dX11_label_7 : decode cX11_label 7 = .ok (.iload_n 2, 1) := by decide +kernel
theorem dX11_label_8 : decode cX11_label 8 = .ok (.ifCond .lt 8, 3) := by decide +kernel
theorem dX11_label_11 : decode cX11_label 11 = .ok (.iload_n 2, 1) := by decide +kernel
theorem dX11_label_12 : decode cX11_label 12 = .ok (.iconst 3, 1) := by decide +kernel
theorem dX11_label_13 : decode cX11_label 13 = .ok (.if_icmp .lt 5, 3) := by decide +kernel
theorem dX11_label_16 : decode cX11_label 16 = .ok (.iconst (-1), 1) := by decide +kernel
theorem dX11_label_17 : decode cX11_label 17 = .ok (.ireturn, 1) := by decide +kernel
theorem dX11_label_18 : decode cX11_label 18 = .ok (.iload_n 3, 1) := by decide +kernel
theorem dX11_label_19 : decode cX11_label 19 = .ok (.ifCond .lt 12, 3) := by decide +kernel
theorem dX11_label_22 : decode cX11_label 22 = .ok (.iload_n 3, 1) := by decide +kernel
theorem dX11_label_23 : decode cX11_label 23 = .ok (.getstatic 33, 3) := by decide +kernel
theorem dX11_label_26 : decode cX11_label 26 = .ok (.iload_n 2, 1) := by decide +kernel
theorem dX11_label_27 : decode cX11_label 27 = .ok (.iaload, 1) := by decide +kernel
theorem dX11_label_28 : decode cX11_label 28 = .ok (.if_icmp .le 6, 3) := by decide +kernel
theorem dX11_label_31 : decode cX11_label 31 = .ok (.bipush (-2), 2) := by decide +kernel
theorem dX11_label_33 : decode cX11_label 33 = .ok (.ireturn, 1) := by decide +kernel
theorem dX11_label_34 : decode cX11_label 34 = .ok (.aload_n 0, 1) := by decide +kernel
theorem dX11_label_35 : decode cX11_label 35 = .ok (.getfield 19, 3) := by decide +kernel
theorem dX11_label_38 : decode cX11_label 38 = .ok (.getfield 37, 3) := by decide +kernel
theorem dX11_label_41 : decode cX11_label 41 = .ok (.iload_n 1, 1) := by decide +kernel
theorem dX11_label_42 : decode cX11_label 42 = .ok (.iload_n 2, 1) := by decide +kernel
theorem dX11_label_43 : decode cX11_label 43 = .ok (.iload_n 3, 1) := by decide +kernel
theorem dX11_label_44 : decode cX11_label 44 = .ok (.invokevirtual 41, 3) := by decide +kernel
theorem dX11_label_47 : decode cX11_label 47 = .ok (.ireturn, 1) := by decide +kernel
theorem dX11_sample_0 : decode cX11_sample 0 = .ok (.iload_n 1, 1) := by decide +kernel
theorem dX11_sample_1 : decode cX11_sample 1 = .ok (.invokestatic 29, 3) := by decide +kernel
theorem dX11_sample_4 : decode cX11_sample 4 = .ok (.ifCond .ne 5, 3) := by decide +kernel
theorem dX11_sample_7 : decode cX11_sample 7 = .ok (.iconst (-1), 1) := by decide +kernel
theorem dX11_sample_8 : decode cX11_sample 8 = .ok (.ireturn, 1) := by decide +kernel
theorem dX11_sample_9 : decode cX11_sample 9 = .ok (.aload_n 0, 1) := by decide +kernel
theorem dX11_sample_10 : decode cX11_sample 10 = .ok (.getfield 19, 3) := by decide +kernel
theorem dX11_sample_13 : decode cX11_sample 13 = .ok (.getfield 37, 3) := by decide +kernel
theorem dX11_sample_16 : decode cX11_sample 16 = .ok (.getfield 47, 3) := by decide +kernel
theorem dX11_sample_19 : decode cX11_sample 19 = .ok (.iload_n 1, 1) := by decide +kernel
theorem dX11_sample_20 : decode cX11_sample 20 = .ok (.baload, 1) := by decide +kernel
theorem dX11_sample_21 : decode cX11_sample 21 = .ok (.invokestatic 51, 3) := by decide +kernel
theorem dX11_sample_24 : decode cX11_sample 24 = .ok (.istore_n 3, 1) := by decide +kernel
theorem dX11_sample_25 : decode cX11_sample 25 = .ok (.aload_n 0, 1) := by decide +kernel
theorem dX11_sample_26 : decode cX11_sample 26 = .ok (.getfield 19, 3) := by decide +kernel
theorem dX11_sample_29 : decode cX11_sample 29 = .ok (.getfield 37, 3) := by decide +kernel
theorem dX11_sample_32 : decode cX11_sample 32 = .ok (.getfield 47, 3) := by decide +kernel
theorem dX11_sample_35 : decode cX11_sample 35 = .ok (.iload_n 1, 1) := by decide +kernel
theorem dX11_sample_36 : decode cX11_sample 36 = .ok (.iconst 1, 1) := by decide +kernel
theorem dX11_sample_37 : decode cX11_sample 37 = .ok (.bastore, 1) := by decide +kernel
theorem dX11_sample_38 : decode cX11_sample 38 = .ok (.aload_n 0, 1) := by decide +kernel
theorem dX11_sample_39 : decode cX11_sample 39 = .ok (.getfield 19, 3) := by decide +kernel
theorem dX11_sample_42 : decode cX11_sample 42 = .ok (.getfield 37, 3) := by decide +kernel
theorem dX11_sample_45 : decode cX11_sample 45 = .ok (.getfield 55, 3) := by decide +kernel
theorem dX11_sample_48 : decode cX11_sample 48 = .ok (.iload_n 1, 1) := by decide +kernel
theorem dX11_sample_49 : decode cX11_sample 49 = .ok (.iload_n 2, 1) := by decide +kernel
theorem dX11_sample_50 : decode cX11_sample 50 = .ok (.iastore, 1) := by decide +kernel
theorem dX11_sample_51 : decode cX11_sample 51 = .ok (.iload_n 3, 1) := by decide +kernel
theorem dX11_sample_52 : decode cX11_sample 52 = .ok (.ireturn, 1) := by decide +kernel
theorem dX11_drop_0 : decode cX11_drop 0 = .ok (.iload_n 1, 1) := by decide +kernel
theorem dX11_drop_1 : decode cX11_drop 1 = .ok (.invokestatic 29, 3) := by decide +kernel
theorem dX11_drop_4 : decode cX11_drop 4 = .ok (.ifCond .ne 5, 3) := by decide +kernel
theorem dX11_drop_7 : decode cX11_drop 7 = .ok (.iconst (-1), 1) := by decide +kernel
theorem dX11_drop_8 : decode cX11_drop 8 = .ok (.ireturn, 1) := by decide +kernel
theorem dX11_drop_9 : decode cX11_drop 9 = .ok (.aload_n 0, 1) := by decide +kernel
theorem dX11_drop_10 : decode cX11_drop 10 = .ok (.getfield 19, 3) := by decide +kernel
theorem dX11_drop_13 : decode cX11_drop 13 = .ok (.getfield 37, 3) := by decide +kernel
theorem dX11_drop_16 : decode cX11_drop 16 = .ok (.getfield 47, 3) := by decide +kernel
theorem dX11_drop_19 : decode cX11_drop 19 = .ok (.iload_n 1, 1) := by decide +kernel
theorem dX11_drop_20 : decode cX11_drop 20 = .ok (.baload, 1) := by decide +kernel
theorem dX11_drop_21 : decode cX11_drop 21 = .ok (.invokestatic 51, 3) := by decide +kernel
theorem dX11_drop_24 : decode cX11_drop 24 = .ok (.istore_n 2, 1) := by decide +kernel
theorem dX11_drop_25 : decode cX11_drop 25 = .ok (.aload_n 0, 1) := by decide +kernel
theorem dX11_drop_26 : decode cX11_drop 26 = .ok (.getfield 19, 3) := by decide +kernel
theorem dX11_drop_29 : decode cX11_drop 29 = .ok (.getfield 37, 3) := by decide +kernel
theorem dX11_drop_32 : decode cX11_drop 32 = .ok (.getfield 47, 3) := by decide +kernel
theorem dX11_drop_35 : decode cX11_drop 35 = .ok (.iload_n 1, 1) := by decide +kernel
theorem dX11_drop_36 : decode cX11_drop 36 = .ok (.iconst 0, 1) := by decide +kernel
theorem dX11_drop_37 : decode cX11_drop 37 = .ok (.bastore, 1) := by decide +kernel
theorem dX11_drop_38 : decode cX11_drop 38 = .ok (.iload_n 2, 1) := by decide +kernel
theorem dX11_drop_39 : decode cX11_drop 39 = .ok (.ireturn, 1) := by decide +kernel
theorem dX11_feed_0 : decode cX11_feed 0 = .ok (.iload_n 1, 1) := by decide +kernel
theorem dX11_feed_1 : decode cX11_feed 1 = .ok (.iconst 1, 1) := by decide +kernel
theorem dX11_feed_2 : decode cX11_feed 2 = .ok (.if_icmp .lt 8, 3) := by decide +kernel
theorem dX11_feed_5 : decode cX11_feed 5 = .ok (.iload_n 1, 1) := by decide +kernel
theorem dX11_feed_6 : decode cX11_feed 6 = .ok (.iconst 5, 1) := by decide +kernel
theorem dX11_feed_7 : decode cX11_feed 7 = .ok (.if_icmp .le 6, 3) := by decide +kernel
theorem dX11_feed_10 : decode cX11_feed 10 = .ok (.bipush (-2), 2) := by decide +kernel
theorem dX11_feed_12 : decode cX11_feed 12 = .ok (.ireturn, 1) := by decide +kernel
theorem dX11_feed_13 : decode cX11_feed 13 = .ok (.iload_n 2, 1) := by decide +kernel
theorem dX11_feed_14 : decode cX11_feed 14 = .ok (.invokestatic 58, 3) := by decide +kernel
theorem dX11_feed_17 : decode cX11_feed 17 = .ok (.ifCond .eq 34, 3) := by decide +kernel
theorem dX11_feed_20 : decode cX11_feed 20 = .ok (.iload_n 3, 1) := by decide +kernel
theorem dX11_feed_21 : decode cX11_feed 21 = .ok (.invokestatic 58, 3) := by decide +kernel
theorem dX11_feed_24 : decode cX11_feed 24 = .ok (.ifCond .eq 27, 3) := by decide +kernel
theorem dX11_feed_27 : decode cX11_feed 27 = .ok (.iload 4, 2) := by decide +kernel
theorem dX11_feed_29 : decode cX11_feed 29 = .ok (.invokestatic 58, 3) := by decide +kernel
theorem dX11_feed_32 : decode cX11_feed 32 = .ok (.ifCond .eq 19, 3) := by decide +kernel
theorem dX11_feed_35 : decode cX11_feed 35 = .ok (.iload 5, 2) := by decide +kernel
theorem dX11_feed_37 : decode cX11_feed 37 = .ok (.invokestatic 58, 3) := by decide +kernel
theorem dX11_feed_40 : decode cX11_feed 40 = .ok (.ifCond .eq 11, 3) := by decide +kernel
theorem dX11_feed_43 : decode cX11_feed 43 = .ok (.iload 6, 2) := by decide +kernel
theorem dX11_feed_45 : decode cX11_feed 45 = .ok (.invokestatic 58, 3) := by decide +kernel
theorem dX11_feed_48 : decode cX11_feed 48 = .ok (.ifCond .ne 6, 3) := by decide +kernel
theorem dX11_feed_51 : decode cX11_feed 51 = .ok (.bipush (-2), 2) := by decide +kernel
theorem dX11_feed_53 : decode cX11_feed 53 = .ok (.ireturn, 1) := by decide +kernel
theorem dX11_feed_54 : decode cX11_feed 54 = .ok (.aload_n 0, 1) := by decide +kernel
theorem dX11_feed_55 : decode cX11_feed 55 = .ok (.getfield 12, 3) := by decide +kernel
theorem dX11_feed_58 : decode cX11_feed 58 = .ok (.iload_n 1, 1) := by decide +kernel
theorem dX11_feed_59 : decode cX11_feed 59 = .ok (.invokevirtual 61, 3) := by decide +kernel
theorem dX11_feed_62 : decode cX11_feed 62 = .ok (.ifCond .ne 6, 3) := by decide +kernel
theorem dX11_feed_65 : decode cX11_feed 65 = .ok (.bipush (-4), 2) := by decide +kernel
theorem dX11_feed_67 : decode cX11_feed 67 = .ok (.ireturn, 1) := by decide +kernel
theorem dX11_feed_68 : decode cX11_feed 68 = .ok (.aload_n 0, 1) := by decide +kernel
theorem dX11_feed_69 : decode cX11_feed 69 = .ok (.getfield 12, 3) := by decide +kernel
theorem dX11_feed_72 : decode cX11_feed 72 = .ok (.iload_n 2, 1) := by decide +kernel
theorem dX11_feed_73 : decode cX11_feed 73 = .ok (.invokevirtual 64, 3) := by decide +kernel
theorem dX11_feed_76 : decode cX11_feed 76 = .ok (.iload_n 1, 1) := by decide +kernel
theorem dX11_feed_77 : decode cX11_feed 77 = .ok (.iconst 1, 1) := by decide +kernel
theorem dX11_feed_78 : decode cX11_feed 78 = .ok (.if_icmp .le 11, 3) := by decide +kernel
theorem dX11_feed_81 : decode cX11_feed 81 = .ok (.aload_n 0, 1) := by decide +kernel
theorem dX11_feed_82 : decode cX11_feed 82 = .ok (.getfield 12, 3) := by decide +kernel
theorem dX11_feed_85 : decode cX11_feed 85 = .ok (.iload_n 3, 1) := by decide +kernel
theorem dX11_feed_86 : decode cX11_feed 86 = .ok (.invokevirtual 64, 3) := by decide +kernel
theorem dX11_feed_89 : decode cX11_feed 89 = .ok (.iload_n 1, 1) := by decide +kernel
theorem dX11_feed_90 : decode cX11_feed 90 = .ok (.iconst 2, 1) := by decide +kernel
theorem dX11_feed_91 : decode cX11_feed 91 = .ok (.if_icmp .le 12, 3) := by decide +kernel
theorem dX11_feed_94 : decode cX11_feed 94 = .ok (.aload_n 0, 1) := by decide +kernel
theorem dX11_feed_95 : decode cX11_feed 95 = .ok (.getfield 12, 3) := by decide +kernel
theorem dX11_feed_98 : decode cX11_feed 98 = .ok (.iload 4, 2) := by decide +kernel
theorem dX11_feed_100 : decode cX11_feed 100 = .ok (.invokevirtual 64, 3) := by decide +kernel
theorem dX11_feed_103 : decode cX11_feed 103 = .ok (.iload_n 1, 1) := by decide +kernel
theorem dX11_feed_104 : decode cX11_feed 104 = .ok (.iconst 3, 1) := by decide +kernel
theorem dX11_feed_105 : decode cX11_feed 105 = .ok (.if_icmp .le 12, 3) := by decide +kernel
theorem dX11_feed_108 : decode cX11_feed 108 = .ok (.aload_n 0, 1) := by decide +kernel
theorem dX11_feed_109 : decode cX11_feed 109 = .ok (.getfield 12, 3) := by decide +kernel
theorem dX11_feed_112 : decode cX11_feed 112 = .ok (.iload 5, 2) := by decide +kernel
theorem dX11_feed_114 : decode cX11_feed 114 = .ok (.invokevirtual 64, 3) := by decide +kernel
theorem dX11_feed_117 : decode cX11_feed 117 = .ok (.iload_n 1, 1) := by decide +kernel
theorem dX11_feed_118 : decode cX11_feed 118 = .ok (.iconst 4, 1) := by decide +kernel
theorem dX11_feed_119 : decode cX11_feed 119 = .ok (.if_icmp .le 12, 3) := by decide +kernel
theorem dX11_feed_122 : decode cX11_feed 122 = .ok (.aload_n 0, 1) := by decide +kernel
theorem dX11_feed_123 : decode cX11_feed 123 = .ok (.getfield 12, 3) := by decide +kernel
theorem dX11_feed_126 : decode cX11_feed 126 = .ok (.iload 6, 2) := by decide +kernel
theorem dX11_feed_128 : decode cX11_feed 128 = .ok (.invokevirtual 64, 3) := by decide +kernel
theorem dX11_feed_131 : decode cX11_feed 131 = .ok (.aload_n 0, 1) := by decide +kernel
theorem dX11_feed_132 : decode cX11_feed 132 = .ok (.getfield 12, 3) := by decide +kernel
theorem dX11_feed_135 : decode cX11_feed 135 = .ok (.getfield 68, 3) := by decide +kernel
theorem dX11_feed_138 : decode cX11_feed 138 = .ok (.ireturn, 1) := by decide +kernel
theorem dX11_add_0 : decode cX11_add 0 = .ok (.iload_n 1, 1) := by decide +kernel
theorem dX11_add_1 : decode cX11_add 1 = .ok (.invokestatic 72, 3) := by decide +kernel
theorem dX11_add_4 : decode cX11_add 4 = .ok (.ifCond .ne 5, 3) := by decide +kernel
theorem dX11_add_7 : decode cX11_add 7 = .ok (.iconst (-1), 1) := by decide +kernel
theorem dX11_add_8 : decode cX11_add 8 = .ok (.ireturn, 1) := by decide +kernel
theorem dX11_add_9 : decode cX11_add 9 = .ok (.aload_n 0, 1) := by decide +kernel
theorem dX11_add_10 : decode cX11_add 10 = .ok (.getfield 19, 3) := by decide +kernel
theorem dX11_add_13 : decode cX11_add 13 = .ok (.getfield 37, 3) := by decide +kernel
theorem dX11_add_16 : decode cX11_add 16 = .ok (.iload_n 1, 1) := by decide +kernel
theorem dX11_add_17 : decode cX11_add 17 = .ok (.invokevirtual 75, 3) := by decide +kernel
theorem dX11_add_20 : decode cX11_add 20 = .ok (.invokestatic 79, 3) := by decide +kernel
theorem dX11_add_23 : decode cX11_add 23 = .ok (.istore_n 2, 1) := by decide +kernel
theorem dX11_add_24 : decode cX11_add 24 = .ok (.iload_n 2, 1) := by decide +kernel
theorem dX11_add_25 : decode cX11_add 25 = .ok (.bipush (-5), 2) := by decide +kernel
theorem dX11_add_27 : decode cX11_add 27 = .ok (.if_icmp .ne 6, 3) := by decide +kernel
theorem dX11_add_30 : decode cX11_add 30 = .ok (.bipush (-4), 2) := by decide +kernel
theorem dX11_add_32 : decode cX11_add 32 = .ok (.ireturn, 1) := by decide +kernel
theorem dX11_add_33 : decode cX11_add 33 = .ok (.aload_n 0, 1) := by decide +kernel
theorem dX11_add_34 : decode cX11_add 34 = .ok (.getfield 12, 3) := by decide +kernel
theorem dX11_add_37 : decode cX11_add 37 = .ok (.invokevirtual 83, 3) := by decide +kernel
theorem dX11_add_40 : decode cX11_add 40 = .ok (.iload_n 1, 1) := by decide +kernel
theorem dX11_add_41 : decode cX11_add 41 = .ok (.ifCond .ne 21, 3) := by decide +kernel
theorem dX11_add_44 : decode cX11_add 44 = .ok (.aload_n 0, 1) := by decide +kernel
theorem dX11_add_45 : decode cX11_add 45 = .ok (.getfield 19, 3) := by decide +kernel
theorem dX11_add_48 : decode cX11_add 48 = .ok (.getfield 37, 3) := by decide +kernel
theorem dX11_add_51 : decode cX11_add 51 = .ok (.iload_n 2, 1) := by decide +kernel
theorem dX11_add_52 : decode cX11_add 52 = .ok (.aload_n 0, 1) := by decide +kernel
theorem dX11_add_53 : decode cX11_add 53 = .ok (.getfield 12, 3) := by decide +kernel
theorem dX11_add_56 : decode cX11_add 56 = .ok (.invokevirtual 86, 3) := by decide +kernel
theorem dX11_add_59 : decode cX11_add 59 = .ok (.invokevirtual 90, 3) := by decide +kernel
theorem dX11_add_62 : decode cX11_add 62 = .ok (.iload_n 1, 1) := by decide +kernel
theorem dX11_add_63 : decode cX11_add 63 = .ok (.iconst 1, 1) := by decide +kernel
theorem dX11_add_64 : decode cX11_add 64 = .ok (.if_icmp .ne 22, 3) := by decide +kernel
theorem dX11_add_67 : decode cX11_add 67 = .ok (.aload_n 0, 1) := by decide +kernel
theorem dX11_add_68 : decode cX11_add 68 = .ok (.getfield 19, 3) := by decide +kernel
theorem dX11_add_71 : decode cX11_add 71 = .ok (.getfield 37, 3) := by decide +kernel
theorem dX11_add_74 : decode cX11_add 74 = .ok (.getfield 94, 3) := by decide +kernel
theorem dX11_add_77 : decode cX11_add 77 = .ok (.iload_n 2, 1) := by decide +kernel
theorem dX11_add_78 : decode cX11_add 78 = .ok (.aload_n 0, 1) := by decide +kernel
theorem dX11_add_79 : decode cX11_add 79 = .ok (.getfield 12, 3) := by decide +kernel
theorem dX11_add_82 : decode cX11_add 82 = .ok (.invokevirtual 98, 3) := by decide +kernel
theorem dX11_add_85 : decode cX11_add 85 = .ok (.aastore, 1) := by decide +kernel
theorem dX11_add_86 : decode cX11_add 86 = .ok (.iload_n 1, 1) := by decide +kernel
theorem dX11_add_87 : decode cX11_add 87 = .ok (.iconst 2, 1) := by decide +kernel
theorem dX11_add_88 : decode cX11_add 88 = .ok (.if_icmp .ne 22, 3) := by decide +kernel
theorem dX11_add_91 : decode cX11_add 91 = .ok (.aload_n 0, 1) := by decide +kernel
theorem dX11_add_92 : decode cX11_add 92 = .ok (.getfield 19, 3) := by decide +kernel
theorem dX11_add_95 : decode cX11_add 95 = .ok (.getfield 37, 3) := by decide +kernel
theorem dX11_add_98 : decode cX11_add 98 = .ok (.getfield 102, 3) := by decide +kernel
theorem dX11_add_101 : decode cX11_add 101 = .ok (.iload_n 2, 1) := by decide +kernel
theorem dX11_add_102 : decode cX11_add 102 = .ok (.aload_n 0, 1) := by decide +kernel
theorem dX11_add_103 : decode cX11_add 103 = .ok (.getfield 12, 3) := by decide +kernel
theorem dX11_add_106 : decode cX11_add 106 = .ok (.invokevirtual 106, 3) := by decide +kernel
theorem dX11_add_109 : decode cX11_add 109 = .ok (.aastore, 1) := by decide +kernel
theorem dX11_add_110 : decode cX11_add 110 = .ok (.aload_n 0, 1) := by decide +kernel
theorem dX11_add_111 : decode cX11_add 111 = .ok (.getfield 12, 3) := by decide +kernel
theorem dX11_add_114 : decode cX11_add 114 = .ok (.getfield 110, 3) := by decide +kernel
theorem dX11_add_117 : decode cX11_add 117 = .ok (.ifCond .eq 16, 3) := by decide +kernel
theorem dX11_add_120 : decode cX11_add 120 = .ok (.bipush (-100), 2) := by decide +kernel
theorem dX11_add_122 : decode cX11_add 122 = .ok (.aload_n 0, 1) := by decide +kernel
theorem dX11_add_123 : decode cX11_add 123 = .ok (.getfield 12, 3) := by decide +kernel
theorem dX11_add_126 : decode cX11_add 126 = .ok (.getfield 114, 3) := by decide +kernel
theorem dX11_add_129 : decode cX11_add 129 = .ok (.isub, 1) := by decide +kernel
theorem dX11_add_130 : decode cX11_add 130 = .ok (.goto 4, 3) := by decide +kernel
theorem dX11_add_133 : decode cX11_add 133 = .ok (.iload_n 2, 1) := by decide +kernel
theorem dX11_add_134 : decode cX11_add 134 = .ok (.istore_n 3, 1) := by decide +kernel
theorem dX11_add_135 : decode cX11_add 135 = .ok (.aload_n 0, 1) := by decide +kernel
theorem dX11_add_136 : decode cX11_add 136 = .ok (.getfield 12, 3) := by decide +kernel
theorem dX11_add_139 : decode cX11_add 139 = .ok (.invokevirtual 117, 3) := by decide +kernel
theorem dX11_add_142 : decode cX11_add 142 = .ok (.iload_n 3, 1) := by decide +kernel
theorem dX11_add_143 : decode cX11_add 143 = .ok (.ireturn, 1) := by decide +kernel
theorem dX11_remove_0 : decode cX11_remove 0 = .ok (.iload_n 1, 1) := by decide +kernel
theorem dX11_remove_1 : decode cX11_remove 1 = .ok (.invokestatic 72, 3) := by decide +kernel
theorem dX11_remove_4 : decode cX11_remove 4 = .ok (.ifCond .ne 5, 3) := by decide +kernel
theorem dX11_remove_7 : decode cX11_remove 7 = .ok (.iconst (-1), 1) := by decide +kernel
theorem dX11_remove_8 : decode cX11_remove 8 = .ok (.ireturn, 1) := by decide +kernel
theorem dX11_remove_9 : decode cX11_remove 9 = .ok (.aload_n 0, 1) := by decide +kernel
theorem dX11_remove_10 : decode cX11_remove 10 = .ok (.getfield 19, 3) := by decide +kernel
theorem dX11_remove_13 : decode cX11_remove 13 = .ok (.getfield 37, 3) := by decide +kernel
theorem dX11_remove_16 : decode cX11_remove 16 = .ok (.iload_n 1, 1) := by decide +kernel
theorem dX11_remove_17 : decode cX11_remove 17 = .ok (.invokevirtual 75, 3) := by decide +kernel
theorem dX11_remove_20 : decode cX11_remove 20 = .ok (.astore_n 3, 1) := by decide +kernel
theorem dX11_remove_21 : decode cX11_remove 21 = .ok (.aload_n 3, 1) := by decide +kernel
theorem dX11_remove_22 : decode cX11_remove 22 = .ok (.iload_n 2, 1) := by decide +kernel
theorem dX11_remove_23 : decode cX11_remove 23 = .ok (.invokestatic 120, 3) := by decide +kernel
theorem dX11_remove_26 : decode cX11_remove 26 = .ok (.ifCond .ne 5, 3) := by decide +kernel
theorem dX11_remove_29 : decode cX11_remove 29 = .ok (.iconst (-1), 1) := by decide +kernel
theorem dX11_remove_30 : decode cX11_remove 30 = .ok (.ireturn, 1) := by decide +kernel
theorem dX11_remove_31 : decode cX11_remove 31 = .ok (.iload_n 1, 1) := by decide +kernel
theorem dX11_remove_32 : decode cX11_remove 32 = .ok (.ifCond .ne 29, 3) := by decide +kernel
theorem dX11_remove_35 : decode cX11_remove 35 = .ok (.aload_n 0, 1) := by decide +kernel
theorem dX11_remove_36 : decode cX11_remove 36 = .ok (.getfield 19, 3) := by decide +kernel
theorem dX11_remove_39 : decode cX11_remove 39 = .ok (.getfield 37, 3) := by decide +kernel
theorem dX11_remove_42 : decode cX11_remove 42 = .ok (.iload_n 2, 1) := by decide +kernel
theorem dX11_remove_43 : decode cX11_remove 43 = .ok (.aconst_null, 1) := by decide +kernel
theorem dX11_remove_44 : decode cX11_remove 44 = .ok (.invokevirtual 90, 3) := by decide +kernel
theorem dX11_remove_47 : decode cX11_remove 47 = .ok (.aload_n 0, 1) := by decide +kernel
theorem dX11_remove_48 : decode cX11_remove 48 = .ok (.getfield 19, 3) := by decide +kernel
theorem dX11_remove_51 : decode cX11_remove 51 = .ok (.getfield 124, 3) := by decide +kernel
theorem dX11_remove_54 : decode cX11_remove 54 = .ok (.iload_n 2, 1) := by decide +kernel
theorem dX11_remove_55 : decode cX11_remove 55 = .ok (.invokevirtual 128, 3) := by decide +kernel
theorem dX11_remove_58 : decode cX11_remove 58 = .ok (.goto 7, 3) := by decide +kernel
theorem dX11_remove_61 : decode cX11_remove 61 = .ok (.aload_n 3, 1) := by decide +kernel
theorem dX11_remove_62 : decode cX11_remove 62 = .ok (.iload_n 2, 1) := by decide +kernel
theorem dX11_remove_63 : decode cX11_remove 63 = .ok (.aconst_null, 1) := by decide +kernel
theorem dX11_remove_64 : decode cX11_remove 64 = .ok (.aastore, 1) := by decide +kernel
theorem dX11_remove_65 : decode cX11_remove 65 = .ok (.aload_n 3, 1) := by decide +kernel
theorem dX11_remove_66 : decode cX11_remove 66 = .ok (.invokestatic 133, 3) := by decide +kernel
theorem dX11_remove_69 : decode cX11_remove 69 = .ok (.ireturn, 1) := by decide +kernel
theorem dX11_parameter_0 : decode cX11_parameter 0 = .ok (.iload_n 1, 1) := by decide +kernel
theorem dX11_parameter_1 : decode cX11_parameter 1 = .ok (.ifCond .lt 8, 3) := by decide +kernel
theorem dX11_parameter_4 : decode cX11_parameter 4 = .ok (.iload_n 1, 1) := by decide +kernel
theorem dX11_parameter_5 : decode cX11_parameter 5 = .ok (.iconst 5, 1) := by decide +kernel
theorem dX11_parameter_6 : decode cX11_parameter 6 = .ok (.if_icmp .lt 5, 3) := by decide +kernel
theorem dX11_parameter_9 : decode cX11_parameter 9 = .ok (.iconst (-1), 1) := by decide +kernel
theorem dX11_parameter_10 : decode cX11_parameter 10 = .ok (.ireturn, 1) := by decide +kernel
theorem dX11_parameter_11 : decode cX11_parameter 11 = .ok (.iload_n 2, 1) := by decide +kernel
theorem dX11_parameter_12 : decode cX11_parameter 12 = .ok (.getstatic 136, 3) := by decide +kernel
theorem dX11_parameter_15 : decode cX11_parameter 15 = .ok (.iload_n 1, 1) := by decide +kernel
theorem dX11_parameter_16 : decode cX11_parameter 16 = .ok (.iaload, 1) := by decide +kernel
theorem dX11_parameter_17 : decode cX11_parameter 17 = .ok (.if_icmp .lt 12, 3) := by decide +kernel
theorem dX11_parameter_20 : decode cX11_parameter 20 = .ok (.iload_n 2, 1) := by decide +kernel
theorem dX11_parameter_21 : decode cX11_parameter 21 = .ok (.getstatic 139, 3) := by decide +kernel
theorem dX11_parameter_24 : decode cX11_parameter 24 = .ok (.iload_n 1, 1) := by decide +kernel
theorem dX11_parameter_25 : decode cX11_parameter 25 = .ok (.iaload, 1) := by decide +kernel
theorem dX11_parameter_26 : decode cX11_parameter 26 = .ok (.if_icmp .le 6, 3) := by decide +kernel
theorem dX11_parameter_29 : decode cX11_parameter 29 = .ok (.bipush (-2), 2) := by decide +kernel
theorem dX11_parameter_31 : decode cX11_parameter 31 = .ok (.ireturn, 1) := by decide +kernel
theorem dX11_parameter_32 : decode cX11_parameter 32 = .ok (.aload_n 0, 1) := by decide +kernel
theorem dX11_parameter_33 : decode cX11_parameter 33 = .ok (.getfield 19, 3) := by decide +kernel
theorem dX11_parameter_36 : decode cX11_parameter 36 = .ok (.getfield 37, 3) := by decide +kernel
theorem dX11_parameter_39 : decode cX11_parameter 39 = .ok (.getfield 142, 3) := by decide +kernel
theorem dX11_parameter_42 : decode cX11_parameter 42 = .ok (.iload_n 1, 1) := by decide +kernel
theorem dX11_parameter_43 : decode cX11_parameter 43 = .ok (.iaload, 1) := by decide +kernel
theorem dX11_parameter_44 : decode cX11_parameter 44 = .ok (.istore_n 3, 1) := by decide +kernel
theorem dX11_parameter_45 : decode cX11_parameter 45 = .ok (.aload_n 0, 1) := by decide +kernel
theorem dX11_parameter_46 : decode cX11_parameter 46 = .ok (.getfield 19, 3) := by decide +kernel
theorem dX11_parameter_49 : decode cX11_parameter 49 = .ok (.getfield 37, 3) := by decide +kernel
theorem dX11_parameter_52 : decode cX11_parameter 52 = .ok (.getfield 142, 3) := by decide +kernel
theorem dX11_parameter_55 : decode cX11_parameter 55 = .ok (.iload_n 1, 1) := by decide +kernel
theorem dX11_parameter_56 : decode cX11_parameter 56 = .ok (.iload_n 2, 1) := by decide +kernel
theorem dX11_parameter_57 : decode cX11_parameter 57 = .ok (.iastore, 1) := by decide +kernel
theorem dX11_parameter_58 : decode cX11_parameter 58 = .ok (.iload_n 1, 1) := by decide +kernel
theorem dX11_parameter_59 : decode cX11_parameter 59 = .ok (.iconst 4, 1) := by decide +kernel
theorem dX11_parameter_60 : decode cX11_parameter 60 = .ok (.if_icmp .ne 18, 3) := by decide +kernel
theorem dX11_parameter_63 : decode cX11_parameter 63 = .ok (.iload_n 2, 1) := by decide +kernel
theorem dX11_parameter_64 : decode cX11_parameter 64 = .ok (.iload_n 3, 1) := by decide +kernel
theorem dX11_parameter_65 : decode cX11_parameter 65 = .ok (.if_icmp .eq 13, 3) := by decide +kernel
theorem dX11_parameter_68 : decode cX11_parameter 68 = .ok (.aload_n 0, 1) := by decide +kernel
theorem dX11_parameter_69 : decode cX11_parameter 69 = .ok (.getfield 19, 3) := by decide +kernel
theorem dX11_parameter_72 : decode cX11_parameter 72 = .ok (.getfield 145, 3) := by decide +kernel
theorem dX11_parameter_75 : decode cX11_parameter 75 = .ok (.invokevirtual 149, 3) := by decide +kernel
theorem dX11_parameter_78 : decode cX11_parameter 78 = .ok (.iload_n 3, 1) := by decide +kernel
theorem dX11_parameter_79 : decode cX11_parameter 79 = .ok (.ireturn, 1) := by decide +kernel
theorem dX11_pass_0 : decode cX11_pass 0 = .ok (.iload_n 1, 1) := by decide +kernel
theorem dX11_pass_1 : decode cX11_pass 1 = .ok (.invokestatic 154, 3) := by decide +kernel
theorem dX11_pass_4 : decode cX11_pass 4 = .ok (.ifCond .ne 6, 3) := by decide +kernel
theorem dX11_pass_7 : decode cX11_pass 7 = .ok (.bipush (-2), 2) := by decide +kernel
theorem dX11_pass_9 : decode cX11_pass 9 = .ok (.ireturn, 1) := by decide +kernel
theorem dX11_pass_10 : decode cX11_pass 10 = .ok (.aload_n 0, 1) := by decide +kernel
theorem dX11_pass_11 : decode cX11_pass 11 = .ok (.getfield 19, 3) := by decide +kernel
theorem dX11_pass_14 : decode cX11_pass 14 = .ok (.getfield 157, 3) := by decide +kernel
theorem dX11_pass_17 : decode cX11_pass 17 = .ok (.iload_n 1, 1) := by decide +kernel
theorem dX11_pass_18 : decode cX11_pass 18 = .ok (.iadd, 1) := by decide +kernel
theorem dX11_pass_19 : decode cX11_pass 19 = .ok (.ldc 160, 2) := by decide +kernel
theorem dX11_pass_21 : decode cX11_pass 21 = .ok (.if_icmp .le 6, 3) := by decide +kernel
theorem dX11_pass_24 : decode cX11_pass 24 = .ok (.bipush (-4), 2) := by decide +kernel
theorem dX11_pass_26 : decode cX11_pass 26 = .ok (.ireturn, 1) := by decide +kernel
theorem dX11_pass_27 : decode cX11_pass 27 = .ok (.aload_n 0, 1) := by decide +kernel
theorem dX11_pass_28 : decode cX11_pass 28 = .ok (.getfield 19, 3) := by decide +kernel
theorem dX11_pass_31 : decode cX11_pass 31 = .ok (.iload_n 1, 1) := by decide +kernel
theorem dX11_pass_32 : decode cX11_pass 32 = .ok (.invokevirtual 161, 3) := by decide +kernel
theorem dX11_pass_35 : decode cX11_pass 35 = .ok (.ireturn, 1) := by decide +kernel
theorem dX11_alert_0 : decode cX11_alert 0 = .ok (.aload_n 0, 1) := by decide +kernel
theorem dX11_alert_1 : decode cX11_alert 1 = .ok (.getfield 19, 3) := by decide +kernel
theorem dX11_alert_4 : decode cX11_alert 4 = .ok (.getfield 37, 3) := by decide +kernel
theorem dX11_alert_7 : decode cX11_alert 7 = .ok (.getfield 165, 3) := by decide +kernel
theorem dX11_alert_10 : decode cX11_alert 10 = .ok (.iload_n 1, 1) := by decide +kernel
theorem dX11_alert_11 : decode cX11_alert 11 = .ok (.invokestatic 120, 3) := by decide +kernel
theorem dX11_alert_14 : decode cX11_alert 14 = .ok (.ifCond .eq 10, 3) := by decide +kernel
theorem dX11_alert_17 : decode cX11_alert 17 = .ok (.iload_n 2, 1) := by decide +kernel
theorem dX11_alert_18 : decode cX11_alert 18 = .ok (.invokestatic 29, 3) := by decide +kernel
theorem dX11_alert_21 : decode cX11_alert 21 = .ok (.ifCond .ne 5, 3) := by decide +kernel
theorem dX11_alert_24 : decode cX11_alert 24 = .ok (.iconst (-1), 1) := by decide +kernel
theorem dX11_alert_25 : decode cX11_alert 25 = .ok (.ireturn, 1) := by decide +kernel
theorem dX11_alert_26 : decode cX11_alert 26 = .ok (.iload_n 1, 1) := by decide +kernel
theorem dX11_alert_27 : decode cX11_alert 27 = .ok (.bipush 12, 2) := by decide +kernel
theorem dX11_alert_29 : decode cX11_alert 29 = .ok (.imul, 1) := by decide +kernel
theorem dX11_alert_30 : decode cX11_alert 30 = .ok (.iload_n 2, 1) := by decide +kernel
theorem dX11_alert_31 : decode cX11_alert 31 = .ok (.iadd, 1) := by decide +kernel
theorem dX11_alert_32 : decode cX11_alert 32 = .ok (.istore 4, 2) := by decide +kernel
theorem dX11_alert_34 : decode cX11_alert 34 = .ok (.iload_n 3, 1) := by decide +kernel
theorem dX11_alert_35 : decode cX11_alert 35 = .ok (.tableswitch 231 0 10 #[57, 70, 83, 99, 122, 141, 157, 177, 189, 199, 212], 57) := by decide +kernel
theorem dX11_alert_92 : decode cX11_alert 92 = .ok (.aload_n 0, 1) := by decide +kernel
theorem dX11_alert_93 : decode cX11_alert 93 = .ok (.getfield 19, 3) := by decide +kernel
theorem dX11_alert_96 : decode cX11_alert 96 = .ok (.getfield 124, 3) := by decide +kernel
theorem dX11_alert_99 : decode cX11_alert 99 = .ok (.iload 4, 2) := by decide +kernel
theorem dX11_alert_101 : decode cX11_alert 101 = .ok (.invokevirtual 169, 3) := by decide +kernel
theorem dX11_alert_104 : decode cX11_alert 104 = .ok (.ireturn, 1) := by decide +kernel
theorem dX11_alert_105 : decode cX11_alert 105 = .ok (.aload_n 0, 1) := by decide +kernel
theorem dX11_alert_106 : decode cX11_alert 106 = .ok (.getfield 19, 3) := by decide +kernel
theorem dX11_alert_109 : decode cX11_alert 109 = .ok (.getfield 124, 3) := by decide +kernel
theorem dX11_alert_112 : decode cX11_alert 112 = .ok (.iload 4, 2) := by decide +kernel
theorem dX11_alert_114 : decode cX11_alert 114 = .ok (.invokevirtual 172, 3) := by decide +kernel
theorem dX11_alert_117 : decode cX11_alert 117 = .ok (.ireturn, 1) := by decide +kernel
theorem dX11_alert_118 : decode cX11_alert 118 = .ok (.aload_n 0, 1) := by decide +kernel
theorem dX11_alert_119 : decode cX11_alert 119 = .ok (.getfield 19, 3) := by decide +kernel
theorem dX11_alert_122 : decode cX11_alert 122 = .ok (.invokevirtual 175, 3) := by decide +kernel
theorem dX11_alert_125 : decode cX11_alert 125 = .ok (.iload 4, 2) := by decide +kernel
theorem dX11_alert_127 : decode cX11_alert 127 = .ok (.invokestatic 179, 3) := by decide +kernel
theorem dX11_alert_130 : decode cX11_alert 130 = .ok (.invokestatic 51, 3) := by decide +kernel
theorem dX11_alert_133 : decode cX11_alert 133 = .ok (.ireturn, 1) := by decide +kernel
theorem dX11_alert_134 : decode cX11_alert 134 = .ok (.aload_n 0, 1) := by decide +kernel
theorem dX11_alert_135 : decode cX11_alert 135 = .ok (.getfield 19, 3) := by decide +kernel
theorem dX11_alert_138 : decode cX11_alert 138 = .ok (.iload 4, 2) := by decide +kernel
theorem dX11_alert_140 : decode cX11_alert 140 = .ok (.invokevirtual 183, 3) := by decide +kernel
theorem dX11_alert_143 : decode cX11_alert 143 = .ok (.lconst 0, 1) := by decide +kernel
theorem dX11_alert_144 : decode cX11_alert 144 = .ok (.lcmp, 1) := by decide +kernel
theorem dX11_alert_145 : decode cX11_alert 145 = .ok (.ifCond .eq 7, 3) := by decide +kernel
theorem dX11_alert_148 : decode cX11_alert 148 = .ok (.iconst 1, 1) := by decide +kernel
theorem dX11_alert_149 : decode cX11_alert 149 = .ok (.goto 4, 3) := by decide +kernel
theorem dX11_alert_152 : decode cX11_alert 152 = .ok (.iconst 0, 1) := by decide +kernel
theorem dX11_alert_153 : decode cX11_alert 153 = .ok (.invokestatic 51, 3) := by decide +kernel
theorem dX11_alert_156 : decode cX11_alert 156 = .ok (.ireturn, 1) := by decide +kernel
theorem dX11_alert_157 : decode cX11_alert 157 = .ok (.aload_n 0, 1) := by decide +kernel
theorem dX11_alert_158 : decode cX11_alert 158 = .ok (.getfield 19, 3) := by decide +kernel
theorem dX11_alert_161 : decode cX11_alert 161 = .ok (.ldc2_w 187, 3) := by decide +kernel
theorem dX11_alert_164 : decode cX11_alert 164 = .ok (.invokevirtual 189, 3) := by decide +kernel
theorem dX11_alert_167 : decode cX11_alert 167 = .ok (.iload 4, 2) := by decide +kernel
theorem dX11_alert_169 : decode cX11_alert 169 = .ok (.invokestatic 179, 3) := by decide +kernel
theorem dX11_alert_172 : decode cX11_alert 172 = .ok (.invokestatic 51, 3) := by decide +kernel
theorem dX11_alert_175 : decode cX11_alert 175 = .ok (.ireturn, 1) := by decide +kernel
theorem dX11_alert_176 : decode cX11_alert 176 = .ok (.aload_n 0, 1) := by decide +kernel
theorem dX11_alert_177 : decode cX11_alert 177 = .ok (.getfield 19, 3) := by decide +kernel
theorem dX11_alert_180 : decode cX11_alert 180 = .ok (.invokevirtual 193, 3) := by decide +kernel
theorem dX11_alert_183 : decode cX11_alert 183 = .ok (.iload 4, 2) := by decide +kernel
theorem dX11_alert_185 : decode cX11_alert 185 = .ok (.invokestatic 179, 3) := by decide +kernel
theorem dX11_alert_188 : decode cX11_alert 188 = .ok (.invokestatic 51, 3) := by decide +kernel
theorem dX11_alert_191 : decode cX11_alert 191 = .ok (.ireturn, 1) := by decide +kernel
theorem dX11_alert_192 : decode cX11_alert 192 = .ok (.aload_n 0, 1) := by decide +kernel
theorem dX11_alert_193 : decode cX11_alert 193 = .ok (.getfield 19, 3) := by decide +kernel
theorem dX11_alert_196 : decode cX11_alert 196 = .ok (.getfield 124, 3) := by decide +kernel
theorem dX11_alert_199 : decode cX11_alert 199 = .ok (.iload 4, 2) := by decide +kernel
theorem dX11_alert_201 : decode cX11_alert 201 = .ok (.aload_n 0, 1) := by decide +kernel
theorem dX11_alert_202 : decode cX11_alert 202 = .ok (.getfield 19, 3) := by decide +kernel
theorem dX11_alert_205 : decode cX11_alert 205 = .ok (.invokevirtual 196, 3) := by decide +kernel
theorem dX11_alert_208 : decode cX11_alert 208 = .ok (.invokevirtual 200, 3) := by decide +kernel
theorem dX11_alert_211 : decode cX11_alert 211 = .ok (.ireturn, 1) := by decide +kernel
theorem dX11_alert_212 : decode cX11_alert 212 = .ok (.aload_n 0, 1) := by decide +kernel
theorem dX11_alert_213 : decode cX11_alert 213 = .ok (.getfield 19, 3) := by decide +kernel
theorem dX11_alert_216 : decode cX11_alert 216 = .ok (.getfield 37, 3) := by decide +kernel
theorem dX11_alert_219 : decode cX11_alert 219 = .ok (.iload_n 2, 1) := by decide +kernel
theorem dX11_alert_220 : decode cX11_alert 220 = .ok (.invokevirtual 204, 3) := by decide +kernel
theorem dX11_alert_223 : decode cX11_alert 223 = .ok (.ireturn, 1) := by decide +kernel
theorem dX11_alert_224 : decode cX11_alert 224 = .ok (.aload_n 0, 1) := by decide +kernel
theorem dX11_alert_225 : decode cX11_alert 225 = .ok (.getfield 19, 3) := by decide +kernel
theorem dX11_alert_228 : decode cX11_alert 228 = .ok (.iload 4, 2) := by decide +kernel
theorem dX11_alert_230 : decode cX11_alert 230 = .ok (.invokevirtual 207, 3) := by decide +kernel
theorem dX11_alert_233 : decode cX11_alert 233 = .ok (.ireturn, 1) := by decide +kernel
theorem dX11_alert_234 : decode cX11_alert 234 = .ok (.aload_n 0, 1) := by decide +kernel
theorem dX11_alert_235 : decode cX11_alert 235 = .ok (.getfield 19, 3) := by decide +kernel
theorem dX11_alert_238 : decode cX11_alert 238 = .ok (.iload 4, 2) := by decide +kernel
theorem dX11_alert_240 : decode cX11_alert 240 = .ok (.invokevirtual 183, 3) := by decide +kernel
theorem dX11_alert_243 : decode cX11_alert 243 = .ok (.invokestatic 210, 3) := by decide +kernel
theorem dX11_alert_246 : decode cX11_alert 246 = .ok (.ireturn, 1) := by decide +kernel
theorem dX11_alert_247 : decode cX11_alert 247 = .ok (.aload_n 0, 1) := by decide +kernel
theorem dX11_alert_248 : decode cX11_alert 248 = .ok (.getfield 19, 3) := by decide +kernel
theorem dX11_alert_251 : decode cX11_alert 251 = .ok (.getfield 37, 3) := by decide +kernel
theorem dX11_alert_254 : decode cX11_alert 254 = .ok (.invokevirtual 214, 3) := by decide +kernel
theorem dX11_alert_257 : decode cX11_alert 257 = .ok (.iload 4, 2) := by decide +kernel
theorem dX11_alert_259 : decode cX11_alert 259 = .ok (.invokestatic 179, 3) := by decide +kernel
theorem dX11_alert_262 : decode cX11_alert 262 = .ok (.invokestatic 51, 3) := by decide +kernel
theorem dX11_alert_265 : decode cX11_alert 265 = .ok (.ireturn, 1) := by decide +kernel
theorem dX11_alert_266 : decode cX11_alert 266 = .ok (.iconst (-1), 1) := by decide +kernel
theorem dX11_alert_267 : decode cX11_alert 267 = .ok (.ireturn, 1) := by decide +kernel
theorem dX11_alerts_0 : decode cX11_alerts 0 = .ok (.iload_n 1, 1) := by decide +kernel
theorem dX11_alerts_1 : decode cX11_alerts 1 = .ok (.tableswitch 129 0 6 #[43, 54, 65, 84, 92, 110, 118], 43) := by decide +kernel
theorem dX11_alerts_44 : decode cX11_alerts 44 = .ok (.aload_n 0, 1) := by decide +kernel
theorem dX11_alerts_45 : decode cX11_alerts 45 = .ok (.getfield 19, 3) := by decide +kernel
theorem dX11_alerts_48 : decode cX11_alerts 48 = .ok (.getfield 124, 3) := by decide +kernel
theorem dX11_alerts_51 : decode cX11_alerts 51 = .ok (.getfield 217, 3) := by decide +kernel
theorem dX11_alerts_54 : decode cX11_alerts 54 = .ok (.lreturn, 1) := by decide +kernel
theorem dX11_alerts_55 : decode cX11_alerts 55 = .ok (.aload_n 0, 1) := by decide +kernel
theorem dX11_alerts_56 : decode cX11_alerts 56 = .ok (.getfield 19, 3) := by decide +kernel
theorem dX11_alerts_59 : decode cX11_alerts 59 = .ok (.getfield 124, 3) := by decide +kernel
theorem dX11_alerts_62 : decode cX11_alerts 62 = .ok (.getfield 221, 3) := by decide +kernel
theorem dX11_alerts_65 : decode cX11_alerts 65 = .ok (.lreturn, 1) := by decide +kernel
theorem dX11_alerts_66 : decode cX11_alerts 66 = .ok (.aload_n 0, 1) := by decide +kernel
theorem dX11_alerts_67 : decode cX11_alerts 67 = .ok (.getfield 19, 3) := by decide +kernel
theorem dX11_alerts_70 : decode cX11_alerts 70 = .ok (.getfield 124, 3) := by decide +kernel
theorem dX11_alerts_73 : decode cX11_alerts 73 = .ok (.getfield 221, 3) := by decide +kernel
theorem dX11_alerts_76 : decode cX11_alerts 76 = .ok (.aload_n 0, 1) := by decide +kernel
theorem dX11_alerts_77 : decode cX11_alerts 77 = .ok (.getfield 19, 3) := by decide +kernel
theorem dX11_alerts_80 : decode cX11_alerts 80 = .ok (.invokevirtual 175, 3) := by decide +kernel
theorem dX11_alerts_83 : decode cX11_alerts 83 = .ok (.land, 1) := by decide +kernel
theorem dX11_alerts_84 : decode cX11_alerts 84 = .ok (.lreturn, 1) := by decide +kernel
theorem dX11_alerts_85 : decode cX11_alerts 85 = .ok (.aload_n 0, 1) := by decide +kernel
theorem dX11_alerts_86 : decode cX11_alerts 86 = .ok (.getfield 19, 3) := by decide +kernel
theorem dX11_alerts_89 : decode cX11_alerts 89 = .ok (.invokevirtual 224, 3) := by decide +kernel
theorem dX11_alerts_92 : decode cX11_alerts 92 = .ok (.lreturn, 1) := by decide +kernel
theorem dX11_alerts_93 : decode cX11_alerts 93 = .ok (.aload_n 0, 1) := by decide +kernel
theorem dX11_alerts_94 : decode cX11_alerts 94 = .ok (.getfield 19, 3) := by decide +kernel
theorem dX11_alerts_97 : decode cX11_alerts 97 = .ok (.aload_n 0, 1) := by decide +kernel
theorem dX11_alerts_98 : decode cX11_alerts 98 = .ok (.getfield 19, 3) := by decide +kernel
theorem dX11_alerts_101 : decode cX11_alerts 101 = .ok (.getfield 124, 3) := by decide +kernel
theorem dX11_alerts_104 : decode cX11_alerts 104 = .ok (.getfield 221, 3) := by decide +kernel
theorem dX11_alerts_107 : decode cX11_alerts 107 = .ok (.invokevirtual 189, 3) := by decide +kernel
theorem dX11_alerts_110 : decode cX11_alerts 110 = .ok (.lreturn, 1) := by decide +kernel
theorem dX11_alerts_111 : decode cX11_alerts 111 = .ok (.aload_n 0, 1) := by decide +kernel
theorem dX11_alerts_112 : decode cX11_alerts 112 = .ok (.getfield 19, 3) := by decide +kernel
theorem dX11_alerts_115 : decode cX11_alerts 115 = .ok (.invokevirtual 193, 3) := by decide +kernel
theorem dX11_alerts_118 : decode cX11_alerts 118 = .ok (.lreturn, 1) := by decide +kernel
theorem dX11_alerts_119 : decode cX11_alerts 119 = .ok (.aload_n 0, 1) := by decide +kernel
theorem dX11_alerts_120 : decode cX11_alerts 120 = .ok (.getfield 19, 3) := by decide +kernel
theorem dX11_alerts_123 : decode cX11_alerts 123 = .ok (.getfield 37, 3) := by decide +kernel
theorem dX11_alerts_126 : decode cX11_alerts 126 = .ok (.invokevirtual 214, 3) := by decide +kernel
theorem dX11_alerts_129 : decode cX11_alerts 129 = .ok (.lreturn, 1) := by decide +kernel
theorem dX11_alerts_130 : decode cX11_alerts 130 = .ok (.ldc2_w 227, 3) := by decide +kernel
theorem dX11_alerts_133 : decode cX11_alerts 133 = .ok (.lreturn, 1) := by decide +kernel
theorem dX11_group_0 : decode cX11_group 0 = .ok (.iload_n 1, 1) := by decide +kernel
theorem dX11_group_1 : decode cX11_group 1 = .ok (.ifCond .lt 10, 3) := by decide +kernel
theorem dX11_group_4 : decode cX11_group 4 = .ok (.iload_n 1, 1) := by decide +kernel
theorem dX11_group_5 : decode cX11_group 5 = .ok (.sipush 128, 3) := by decide +kernel
theorem dX11_group_8 : decode cX11_group 8 = .ok (.if_icmp .lt 5, 3) := by decide +kernel
theorem dX11_group_11 : decode cX11_group 11 = .ok (.iconst (-1), 1) := by decide +kernel
theorem dX11_group_12 : decode cX11_group 12 = .ok (.ireturn, 1) := by decide +kernel
theorem dX11_group_13 : decode cX11_group 13 = .ok (.aload_n 0, 1) := by decide +kernel
theorem dX11_group_14 : decode cX11_group 14 = .ok (.getfield 19, 3) := by decide +kernel
theorem dX11_group_17 : decode cX11_group 17 = .ok (.getfield 145, 3) := by decide +kernel
theorem dX11_group_20 : decode cX11_group 20 = .ok (.aload_n 0, 1) := by decide +kernel
theorem dX11_group_21 : decode cX11_group 21 = .ok (.getfield 19, 3) := by decide +kernel
theorem dX11_group_24 : decode cX11_group 24 = .ok (.invokevirtual 193, 3) := by decide +kernel
theorem dX11_group_27 : decode cX11_group 27 = .ok (.aload_n 0, 1) := by decide +kernel
theorem dX11_group_28 : decode cX11_group 28 = .ok (.getfield 19, 3) := by decide +kernel
theorem dX11_group_31 : decode cX11_group 31 = .ok (.getfield 37, 3) := by decide +kernel
theorem dX11_group_34 : decode cX11_group 34 = .ok (.invokevirtual 229, 3) := by decide +kernel
theorem dX11_group_37 : decode cX11_group 37 = .ok (.iload_n 2, 1) := by decide +kernel
theorem dX11_group_38 : decode cX11_group 38 = .ok (.tableswitch 140 0 4 #[34, 50, 83, 99, 114], 34) := by decide +kernel
theorem dX11_group_72 : decode cX11_group 72 = .ok (.aload_n 0, 1) := by decide +kernel
theorem dX11_group_73 : decode cX11_group 73 = .ok (.getfield 19, 3) := by decide +kernel
theorem dX11_group_76 : decode cX11_group 76 = .ok (.getfield 145, 3) := by decide +kernel
theorem dX11_group_79 : decode cX11_group 79 = .ok (.getfield 233, 3) := by decide +kernel
theorem dX11_group_82 : decode cX11_group 82 = .ok (.iload_n 1, 1) := by decide +kernel
theorem dX11_group_83 : decode cX11_group 83 = .ok (.baload, 1) := by decide +kernel
theorem dX11_group_84 : decode cX11_group 84 = .ok (.invokestatic 51, 3) := by decide +kernel
theorem dX11_group_87 : decode cX11_group 87 = .ok (.ireturn, 1) := by decide +kernel
theorem dX11_group_88 : decode cX11_group 88 = .ok (.aload_n 0, 1) := by decide +kernel
theorem dX11_group_89 : decode cX11_group 89 = .ok (.getfield 19, 3) := by decide +kernel
theorem dX11_group_92 : decode cX11_group 92 = .ok (.getfield 145, 3) := by decide +kernel
theorem dX11_group_95 : decode cX11_group 95 = .ok (.getfield 233, 3) := by decide +kernel
theorem dX11_group_98 : decode cX11_group 98 = .ok (.iload_n 1, 1) := by decide +kernel
theorem dX11_group_99 : decode cX11_group 99 = .ok (.baload, 1) := by decide +kernel
theorem dX11_group_100 : decode cX11_group 100 = .ok (.ifCond .eq 18, 3) := by decide +kernel
theorem dX11_group_103 : decode cX11_group 103 = .ok (.aload_n 0, 1) := by decide +kernel
theorem dX11_group_104 : decode cX11_group 104 = .ok (.getfield 19, 3) := by decide +kernel
theorem dX11_group_107 : decode cX11_group 107 = .ok (.getfield 145, 3) := by decide +kernel
theorem dX11_group_110 : decode cX11_group 110 = .ok (.getfield 236, 3) := by decide +kernel
theorem dX11_group_113 : decode cX11_group 113 = .ok (.iload_n 1, 1) := by decide +kernel
theorem dX11_group_114 : decode cX11_group 114 = .ok (.iaload, 1) := by decide +kernel
theorem dX11_group_115 : decode cX11_group 115 = .ok (.goto 5, 3) := by decide +kernel
theorem dX11_group_118 : decode cX11_group 118 = .ok (.bipush (-5), 2) := by decide +kernel
theorem dX11_group_120 : decode cX11_group 120 = .ok (.ireturn, 1) := by decide +kernel
theorem dX11_group_121 : decode cX11_group 121 = .ok (.aload_n 0, 1) := by decide +kernel
theorem dX11_group_122 : decode cX11_group 122 = .ok (.getfield 19, 3) := by decide +kernel
theorem dX11_group_125 : decode cX11_group 125 = .ok (.getfield 145, 3) := by decide +kernel
theorem dX11_group_128 : decode cX11_group 128 = .ok (.getfield 239, 3) := by decide +kernel
theorem dX11_group_131 : decode cX11_group 131 = .ok (.iload_n 1, 1) := by decide +kernel
theorem dX11_group_132 : decode cX11_group 132 = .ok (.laload, 1) := by decide +kernel
theorem dX11_group_133 : decode cX11_group 133 = .ok (.invokestatic 243, 3) := by decide +kernel
theorem dX11_group_136 : decode cX11_group 136 = .ok (.ireturn, 1) := by decide +kernel
theorem dX11_group_137 : decode cX11_group 137 = .ok (.aload_n 0, 1) := by decide +kernel
theorem dX11_group_138 : decode cX11_group 138 = .ok (.getfield 19, 3) := by decide +kernel
theorem dX11_group_141 : decode cX11_group 141 = .ok (.getfield 145, 3) := by decide +kernel
theorem dX11_group_144 : decode cX11_group 144 = .ok (.iload_n 1, 1) := by decide +kernel
theorem dX11_group_145 : decode cX11_group 145 = .ok (.invokevirtual 248, 3) := by decide +kernel
theorem dX11_group_148 : decode cX11_group 148 = .ok (.invokestatic 243, 3) := by decide +kernel
theorem dX11_group_151 : decode cX11_group 151 = .ok (.ireturn, 1) := by decide +kernel
theorem dX11_group_152 : decode cX11_group 152 = .ok (.aload_n 0, 1) := by decide +kernel
theorem dX11_group_153 : decode cX11_group 153 = .ok (.getfield 19, 3) := by decide +kernel
theorem dX11_group_156 : decode cX11_group 156 = .ok (.getfield 145, 3) := by decide +kernel
theorem dX11_group_159 : decode cX11_group 159 = .ok (.iload_n 1, 1) := by decide +kernel
theorem dX11_group_160 : decode cX11_group 160 = .ok (.aload_n 0, 1) := by decide +kernel
theorem dX11_group_161 : decode cX11_group 161 = .ok (.getfield 19, 3) := by decide +kernel
theorem dX11_group_164 : decode cX11_group 164 = .ok (.getfield 157, 3) := by decide +kernel
theorem dX11_group_167 : decode cX11_group 167 = .ok (.aload_n 0, 1) := by decide +kernel
theorem dX11_group_168 : decode cX11_group 168 = .ok (.getfield 19, 3) := by decide +kernel
theorem dX11_group_171 : decode cX11_group 171 = .ok (.getfield 37, 3) := by decide +kernel
theorem dX11_group_174 : decode cX11_group 174 = .ok (.invokevirtual 251, 3) := by decide +kernel
theorem dX11_group_177 : decode cX11_group 177 = .ok (.ireturn, 1) := by decide +kernel
theorem dX11_group_178 : decode cX11_group 178 = .ok (.iconst (-1), 1) := by decide +kernel
theorem dX11_group_179 : decode cX11_group 179 = .ok (.ireturn, 1) := by decide +kernel
theorem dX11_key_0 : decode cX11_key 0 = .ok (.iload_n 1, 1) := by decide +kernel
theorem dX11_key_1 : decode cX11_key 1 = .ok (.iconst (-1), 1) := by decide +kernel
theorem dX11_key_2 : decode cX11_key 2 = .ok (.if_icmp .lt 10, 3) := by decide +kernel
theorem dX11_key_5 : decode cX11_key 5 = .ok (.iload_n 1, 1) := by decide +kernel
theorem dX11_key_6 : decode cX11_key 6 = .ok (.sipush 128, 3) := by decide +kernel
theorem dX11_key_9 : decode cX11_key 9 = .ok (.if_icmp .lt 5, 3) := by decide +kernel
theorem dX11_key_12 : decode cX11_key 12 = .ok (.iconst (-1), 1) := by decide +kernel
theorem dX11_key_13 : decode cX11_key 13 = .ok (.ireturn, 1) := by decide +kernel
theorem dX11_key_14 : decode cX11_key 14 = .ok (.aload_n 0, 1) := by decide +kernel
theorem dX11_key_15 : decode cX11_key 15 = .ok (.getfield 19, 3) := by decide +kernel
theorem dX11_key_18 : decode cX11_key 18 = .ok (.getfield 145, 3) := by decide +kernel
theorem dX11_key_21 : decode cX11_key 21 = .ok (.aload_n 0, 1) := by decide +kernel
theorem dX11_key_22 : decode cX11_key 22 = .ok (.getfield 19, 3) := by decide +kernel
theorem dX11_key_25 : decode cX11_key 25 = .ok (.invokevirtual 193, 3) := by decide +kernel
theorem dX11_key_28 : decode cX11_key 28 = .ok (.aload_n 0, 1) := by decide +kernel
theorem dX11_key_29 : decode cX11_key 29 = .ok (.getfield 19, 3) := by decide +kernel
theorem dX11_key_32 : decode cX11_key 32 = .ok (.getfield 37, 3) := by decide +kernel
theorem dX11_key_35 : decode cX11_key 35 = .ok (.invokevirtual 229, 3) := by decide +kernel
theorem dX11_key_38 : decode cX11_key 38 = .ok (.iload_n 1, 1) := by decide +kernel
theorem dX11_key_39 : decode cX11_key 39 = .ok (.iconst (-1), 1) := by decide +kernel
theorem dX11_key_40 : decode cX11_key 40 = .ok (.if_icmp .ne 16, 3) := by decide +kernel
theorem dX11_key_43 : decode cX11_key 43 = .ok (.aload_n 0, 1) := by decide +kernel
theorem dX11_key_44 : decode cX11_key 44 = .ok (.getfield 19, 3) := by decide +kernel
theorem dX11_key_47 : decode cX11_key 47 = .ok (.getfield 145, 3) := by decide +kernel
theorem dX11_key_50 : decode cX11_key 50 = .ok (.invokevirtual 255, 3) := by decide +kernel
theorem dX11_key_53 : decode cX11_key 53 = .ok (.goto 14, 3) := by decide +kernel
theorem dX11_key_56 : decode cX11_key 56 = .ok (.aload_n 0, 1) := by decide +kernel
theorem dX11_key_57 : decode cX11_key 57 = .ok (.getfield 19, 3) := by decide +kernel
theorem dX11_key_60 : decode cX11_key 60 = .ok (.getfield 145, 3) := by decide +kernel
theorem dX11_key_63 : decode cX11_key 63 = .ok (.iload_n 1, 1) := by decide +kernel
theorem dX11_key_64 : decode cX11_key 64 = .ok (.invokevirtual 258, 3) := by decide +kernel
theorem dX11_key_67 : decode cX11_key 67 = .ok (.ireturn, 1) := by decide +kernel
theorem dX11_sent_0 : decode cX11_sent 0 = .ok (.aload_n 0, 1) := by decide +kernel
theorem dX11_sent_1 : decode cX11_sent 1 = .ok (.getfield 19, 3) := by decide +kernel
theorem dX11_sent_4 : decode cX11_sent 4 = .ok (.getfield 261, 3) := by decide +kernel
theorem dX11_sent_7 : decode cX11_sent 7 = .ok (.iload_n 1, 1) := by decide +kernel
theorem dX11_sent_8 : decode cX11_sent 8 = .ok (.invokevirtual 265, 3) := by decide +kernel
theorem dX11_sent_11 : decode cX11_sent 11 = .ok (.ifCond .eq 12, 3) := by decide +kernel
theorem dX11_sent_14 : decode cX11_sent 14 = .ok (.iload_n 2, 1) := by decide +kernel
theorem dX11_sent_15 : decode cX11_sent 15 = .ok (.ifCond .lt 8, 3) := by decide +kernel
theorem dX11_sent_18 : decode cX11_sent 18 = .ok (.iload_n 2, 1) := by decide +kernel
theorem dX11_sent_19 : decode cX11_sent 19 = .ok (.iconst 5, 1) := by decide +kernel
theorem dX11_sent_20 : decode cX11_sent 20 = .ok (.if_icmp .lt 5, 3) := by decide +kernel
theorem dX11_sent_23 : decode cX11_sent 23 = .ok (.iconst (-1), 1) := by decide +kernel
theorem dX11_sent_24 : decode cX11_sent 24 = .ok (.ireturn, 1) := by decide +kernel
theorem dX11_sent_25 : decode cX11_sent 25 = .ok (.aload_n 0, 1) := by decide +kernel
theorem dX11_sent_26 : decode cX11_sent 26 = .ok (.getfield 19, 3) := by decide +kernel
theorem dX11_sent_29 : decode cX11_sent 29 = .ok (.getfield 261, 3) := by decide +kernel
theorem dX11_sent_32 : decode cX11_sent 32 = .ok (.iload_n 1, 1) := by decide +kernel
theorem dX11_sent_33 : decode cX11_sent 33 = .ok (.iload_n 2, 1) := by decide +kernel
theorem dX11_sent_34 : decode cX11_sent 34 = .ok (.invokevirtual 270, 3) := by decide +kernel
theorem dX11_sent_37 : decode cX11_sent 37 = .ok (.ireturn, 1) := by decide +kernel
theorem dX11_ahead_0 : decode cX11_ahead 0 = .ok (.iload_n 1, 1) := by decide +kernel
theorem dX11_ahead_1 : decode cX11_ahead 1 = .ok (.invokestatic 154, 3) := by decide +kernel
theorem dX11_ahead_4 : decode cX11_ahead 4 = .ok (.ifCond .ne 6, 3) := by decide +kernel
theorem dX11_ahead_7 : decode cX11_ahead 7 = .ok (.bipush (-2), 2) := by decide +kernel
theorem dX11_ahead_9 : decode cX11_ahead 9 = .ok (.ireturn, 1) := by decide +kernel
theorem dX11_ahead_10 : decode cX11_ahead 10 = .ok (.aload_n 0, 1) := by decide +kernel
theorem dX11_ahead_11 : decode cX11_ahead 11 = .ok (.getfield 26, 3) := by decide +kernel
theorem dX11_ahead_14 : decode cX11_ahead 14 = .ok (.aload_n 0, 1) := by decide +kernel
theorem dX11_ahead_15 : decode cX11_ahead 15 = .ok (.getfield 19, 3) := by decide +kernel
theorem dX11_ahead_18 : decode cX11_ahead 18 = .ok (.invokevirtual 273, 3) := by decide +kernel
theorem dX11_ahead_21 : decode cX11_ahead 21 = .ok (.aload_n 0, 1) := by decide +kernel
theorem dX11_ahead_22 : decode cX11_ahead 22 = .ok (.getfield 26, 3) := by decide +kernel
theorem dX11_ahead_25 : decode cX11_ahead 25 = .ok (.iload_n 1, 1) := by decide +kernel
theorem dX11_ahead_26 : decode cX11_ahead 26 = .ok (.invokevirtual 161, 3) := by decide +kernel
theorem dX11_ahead_29 : decode cX11_ahead 29 = .ok (.ireturn, 1) := by decide +kernel
theorem dX11_next_0 : decode cX11_next 0 = .ok (.iload_n 1, 1) := by decide +kernel
theorem dX11_next_1 : decode cX11_next 1 = .ok (.invokestatic 154, 3) := by decide +kernel
theorem dX11_next_4 : decode cX11_next 4 = .ok (.ifCond .ne 6, 3) := by decide +kernel
theorem dX11_next_7 : decode cX11_next 7 = .ok (.bipush (-2), 2) := by decide +kernel
theorem dX11_next_9 : decode cX11_next 9 = .ok (.ireturn, 1) := by decide +kernel
theorem dX11_next_10 : decode cX11_next 10 = .ok (.aload_n 0, 1) := by decide +kernel
theorem dX11_next_11 : decode cX11_next 11 = .ok (.getfield 26, 3) := by decide +kernel
theorem dX11_next_14 : decode cX11_next 14 = .ok (.aload_n 0, 1) := by decide +kernel
theorem dX11_next_15 : decode cX11_next 15 = .ok (.getfield 19, 3) := by decide +kernel
theorem dX11_next_18 : decode cX11_next 18 = .ok (.invokevirtual 273, 3) := by decide +kernel
theorem dX11_next_21 : decode cX11_next 21 = .ok (.iconst 0, 1) := by decide +kernel
theorem dX11_next_22 : decode cX11_next 22 = .ok (.istore_n 2, 1) := by decide +kernel
theorem dX11_next_23 : decode cX11_next 23 = .ok (.iload_n 2, 1) := by decide +kernel
theorem dX11_next_24 : decode cX11_next 24 = .ok (.iload_n 1, 1) := by decide +kernel
theorem dX11_next_25 : decode cX11_next 25 = .ok (.if_icmp .ge 27, 3) := by decide +kernel
theorem dX11_next_28 : decode cX11_next 28 = .ok (.aload_n 0, 1) := by decide +kernel
theorem dX11_next_29 : decode cX11_next 29 = .ok (.getfield 26, 3) := by decide +kernel
theorem dX11_next_32 : decode cX11_next 32 = .ok (.invokevirtual 277, 3) := by decide +kernel
theorem dX11_next_35 : decode cX11_next 35 = .ok (.ifCond .le 11, 3) := by decide +kernel
theorem dX11_next_38 : decode cX11_next 38 = .ok (.aload_n 0, 1) := by decide +kernel
theorem dX11_next_39 : decode cX11_next 39 = .ok (.getfield 26, 3) := by decide +kernel
theorem dX11_next_42 : decode cX11_next 42 = .ok (.getfield 157, 3) := by decide +kernel
theorem dX11_next_45 : decode cX11_next 45 = .ok (.ireturn, 1) := by decide +kernel
theorem dX11_next_46 : decode cX11_next 46 = .ok (.iinc 2 1, 3) := by decide +kernel
theorem dX11_next_49 : decode cX11_next 49 = .ok (.goto (-26), 3) := by decide +kernel
theorem dX11_next_52 : decode cX11_next 52 = .ok (.bipush (-5), 2) := by decide +kernel
theorem dX11_next_54 : decode cX11_next 54 = .ok (.ireturn, 1) := by decide +kernel
theorem dX11_saved_0 : decode cX11_saved 0 = .ok (.aload_n 0, 1) := by decide +kernel
theorem dX11_saved_1 : decode cX11_saved 1 = .ok (.getfield 19, 3) := by decide +kernel
theorem dX11_saved_4 : decode cX11_saved 4 = .ok (.getfield 37, 3) := by decide +kernel
theorem dX11_saved_7 : decode cX11_saved 7 = .ok (.getfield 94, 3) := by decide +kernel
theorem dX11_saved_10 : decode cX11_saved 10 = .ok (.iload_n 1, 1) := by decide +kernel
theorem dX11_saved_11 : decode cX11_saved 11 = .ok (.invokestatic 120, 3) := by decide +kernel
theorem dX11_saved_14 : decode cX11_saved 14 = .ok (.ifCond .ne 5, 3) := by decide +kernel
theorem dX11_saved_17 : decode cX11_saved 17 = .ok (.iconst (-1), 1) := by decide +kernel
theorem dX11_saved_18 : decode cX11_saved 18 = .ok (.ireturn, 1) := by decide +kernel
theorem dX11_saved_19 : decode cX11_saved 19 = .ok (.iload_n 2, 1) := by decide +kernel
theorem dX11_saved_20 : decode cX11_saved 20 = .ok (.invokestatic 154, 3) := by decide +kernel
theorem dX11_saved_23 : decode cX11_saved 23 = .ok (.ifCond .ne 6, 3) := by decide +kernel
theorem dX11_saved_26 : decode cX11_saved 26 = .ok (.bipush (-2), 2) := by decide +kernel
theorem dX11_saved_28 : decode cX11_saved 28 = .ok (.ireturn, 1) := by decide +kernel
theorem dX11_saved_29 : decode cX11_saved 29 = .ok (.aload_n 0, 1) := by decide +kernel
theorem dX11_saved_30 : decode cX11_saved 30 = .ok (.getfield 26, 3) := by decide +kernel
theorem dX11_saved_33 : decode cX11_saved 33 = .ok (.aload_n 0, 1) := by decide +kernel
theorem dX11_saved_34 : decode cX11_saved 34 = .ok (.getfield 19, 3) := by decide +kernel
theorem dX11_saved_37 : decode cX11_saved 37 = .ok (.invokevirtual 273, 3) := by decide +kernel
theorem dX11_saved_40 : decode cX11_saved 40 = .ok (.aload_n 0, 1) := by decide +kernel
theorem dX11_saved_41 : decode cX11_saved 41 = .ok (.getfield 26, 3) := by decide +kernel
theorem dX11_saved_44 : decode cX11_saved 44 = .ok (.iload_n 2, 1) := by decide +kernel
theorem dX11_saved_45 : decode cX11_saved 45 = .ok (.invokevirtual 161, 3) := by decide +kernel
theorem dX11_saved_48 : decode cX11_saved 48 = .ok (.istore_n 3, 1) := by decide +kernel
theorem dX11_saved_49 : decode cX11_saved 49 = .ok (.aload_n 0, 1) := by decide +kernel
theorem dX11_saved_50 : decode cX11_saved 50 = .ok (.getfield 26, 3) := by decide +kernel
theorem dX11_saved_53 : decode cX11_saved 53 = .ok (.aload_n 0, 1) := by decide +kernel
theorem dX11_saved_54 : decode cX11_saved 54 = .ok (.getfield 19, 3) := by decide +kernel
theorem dX11_saved_57 : decode cX11_saved 57 = .ok (.invokevirtual 273, 3) := by decide +kernel
theorem dX11_saved_60 : decode cX11_saved 60 = .ok (.aload_n 0, 1) := by decide +kernel
theorem dX11_saved_61 : decode cX11_saved 61 = .ok (.getfield 26, 3) := by decide +kernel
theorem dX11_saved_64 : decode cX11_saved 64 = .ok (.getfield 37, 3) := by decide +kernel
theorem dX11_saved_67 : decode cX11_saved 67 = .ok (.getfield 94, 3) := by decide +kernel
theorem dX11_saved_70 : decode cX11_saved 70 = .ok (.iload_n 1, 1) := by decide +kernel
theorem dX11_saved_71 : decode cX11_saved 71 = .ok (.aconst_null, 1) := by decide +kernel
theorem dX11_saved_72 : decode cX11_saved 72 = .ok (.aastore, 1) := by decide +kernel
theorem dX11_saved_73 : decode cX11_saved 73 = .ok (.aload_n 0, 1) := by decide +kernel
theorem dX11_saved_74 : decode cX11_saved 74 = .ok (.getfield 26, 3) := by decide +kernel
theorem dX11_saved_77 : decode cX11_saved 77 = .ok (.iload_n 2, 1) := by decide +kernel
theorem dX11_saved_78 : decode cX11_saved 78 = .ok (.invokevirtual 161, 3) := by decide +kernel
theorem dX11_saved_81 : decode cX11_saved 81 = .ok (.iload_n 3, 1) := by decide +kernel
theorem dX11_saved_82 : decode cX11_saved 82 = .ok (.isub, 1) := by decide +kernel
theorem dX11_saved_83 : decode cX11_saved 83 = .ok (.sipush 1000, 3) := by decide +kernel
theorem dX11_saved_86 : decode cX11_saved 86 = .ok (.iadd, 1) := by decide +kernel
theorem dX11_saved_87 : decode cX11_saved 87 = .ok (.ireturn, 1) := by decide +kernel
theorem dX11_image_0 : decode cX11_image 0 = .ok (.aload_n 0, 1) := by decide +kernel
theorem dX11_image_1 : decode cX11_image 1 = .ok (.getfield 23, 3) := by decide +kernel
theorem dX11_image_4 : decode cX11_image 4 = .ok (.aload_n 0, 1) := by decide +kernel
theorem dX11_image_5 : decode cX11_image 5 = .ok (.getfield 19, 3) := by decide +kernel
theorem dX11_image_8 : decode cX11_image 8 = .ok (.invokevirtual 273, 3) := by decide +kernel
theorem dX11_image_11 : decode cX11_image 11 = .ok (.aload_n 0, 1) := by decide +kernel
theorem dX11_image_12 : decode cX11_image 12 = .ok (.iconst 1, 1) := by decide +kernel
theorem dX11_image_13 : decode cX11_image 13 = .ok (.putfield 280, 3) := by decide +kernel
theorem dX11_image_16 : decode cX11_image 16 = .ok (.aload_n 0, 1) := by decide +kernel
theorem dX11_image_17 : decode cX11_image 17 = .ok (.getfield 19, 3) := by decide +kernel
theorem dX11_image_20 : decode cX11_image 20 = .ok (.getfield 157, 3) := by decide +kernel
theorem dX11_image_23 : decode cX11_image 23 = .ok (.ireturn, 1) := by decide +kernel
theorem dX11_undo_0 : decode cX11_undo 0 = .ok (.aload_n 0, 1) := by decide +kernel
theorem dX11_undo_1 : decode cX11_undo 1 = .ok (.getfield 280, 3) := by decide +kernel
theorem dX11_undo_4 : decode cX11_undo 4 = .ok (.ifCond .ne 6, 3) := by decide +kernel
theorem dX11_undo_7 : decode cX11_undo 7 = .ok (.bipush (-3), 2) := by decide +kernel
theorem dX11_undo_9 : decode cX11_undo 9 = .ok (.ireturn, 1) := by decide +kernel
theorem dX11_undo_10 : decode cX11_undo 10 = .ok (.aload_n 0, 1) := by decide +kernel
theorem dX11_undo_11 : decode cX11_undo 11 = .ok (.getfield 19, 3) := by decide +kernel
theorem dX11_undo_14 : decode cX11_undo 14 = .ok (.aload_n 0, 1) := by decide +kernel
theorem dX11_undo_15 : decode cX11_undo 15 = .ok (.getfield 23, 3) := by decide +kernel
theorem dX11_undo_18 : decode cX11_undo 18 = .ok (.invokevirtual 273, 3) := by decide +kernel
theorem dX11_undo_21 : decode cX11_undo 21 = .ok (.aload_n 0, 1) := by decide +kernel
theorem dX11_undo_22 : decode cX11_undo 22 = .ok (.getfield 19, 3) := by decide +kernel
theorem dX11_undo_25 : decode cX11_undo 25 = .ok (.getfield 157, 3) := by decide +kernel
theorem dX11_undo_28 : decode cX11_undo 28 = .ok (.ireturn, 1) := by decide +kernel
theorem dX11_count_0 : decode cX11_count 0 = .ok (.iload_n 1, 1) := by decide +kernel
theorem dX11_count_1 : decode cX11_count 1 = .ok (.tableswitch 172 0 9 #[55, 63, 77, 91, 105, 116, 127, 138, 156, 164], 55) := by decide +kernel
theorem dX11_count_56 : decode cX11_count 56 = .ok (.aload_n 0, 1) := by decide +kernel
theorem dX11_count_57 : decode cX11_count 57 = .ok (.getfield 19, 3) := by decide +kernel
theorem dX11_count_60 : decode cX11_count 60 = .ok (.getfield 157, 3) := by decide +kernel
theorem dX11_count_63 : decode cX11_count 63 = .ok (.ireturn, 1) := by decide +kernel
theorem dX11_count_64 : decode cX11_count 64 = .ok (.aload_n 0, 1) := by decide +kernel
theorem dX11_count_65 : decode cX11_count 65 = .ok (.getfield 19, 3) := by decide +kernel
theorem dX11_count_68 : decode cX11_count 68 = .ok (.getfield 37, 3) := by decide +kernel
theorem dX11_count_71 : decode cX11_count 71 = .ok (.getfield 165, 3) := by decide +kernel
theorem dX11_count_74 : decode cX11_count 74 = .ok (.invokestatic 133, 3) := by decide +kernel
theorem dX11_count_77 : decode cX11_count 77 = .ok (.ireturn, 1) := by decide +kernel
theorem dX11_count_78 : decode cX11_count 78 = .ok (.aload_n 0, 1) := by decide +kernel
theorem dX11_count_79 : decode cX11_count 79 = .ok (.getfield 19, 3) := by decide +kernel
theorem dX11_count_82 : decode cX11_count 82 = .ok (.getfield 37, 3) := by decide +kernel
theorem dX11_count_85 : decode cX11_count 85 = .ok (.getfield 94, 3) := by decide +kernel
theorem dX11_count_88 : decode cX11_count 88 = .ok (.invokestatic 133, 3) := by decide +kernel
theorem dX11_count_91 : decode cX11_count 91 = .ok (.ireturn, 1) := by decide +kernel
theorem dX11_count_92 : decode cX11_count 92 = .ok (.aload_n 0, 1) := by decide +kernel
theorem dX11_count_93 : decode cX11_count 93 = .ok (.getfield 19, 3) := by decide +kernel
theorem dX11_count_96 : decode cX11_count 96 = .ok (.getfield 37, 3) := by decide +kernel
theorem dX11_count_99 : decode cX11_count 99 = .ok (.getfield 102, 3) := by decide +kernel
theorem dX11_count_102 : decode cX11_count 102 = .ok (.invokestatic 133, 3) := by decide +kernel
theorem dX11_count_105 : decode cX11_count 105 = .ok (.ireturn, 1) := by decide +kernel
theorem dX11_count_106 : decode cX11_count 106 = .ok (.aload_n 0, 1) := by decide +kernel
theorem dX11_count_107 : decode cX11_count 107 = .ok (.getfield 19, 3) := by decide +kernel
theorem dX11_count_110 : decode cX11_count 110 = .ok (.getfield 37, 3) := by decide +kernel
theorem dX11_count_113 : decode cX11_count 113 = .ok (.invokevirtual 283, 3) := by decide +kernel
theorem dX11_count_116 : decode cX11_count 116 = .ok (.ireturn, 1) := by decide +kernel
theorem dX11_count_117 : decode cX11_count 117 = .ok (.aload_n 0, 1) := by decide +kernel
theorem dX11_count_118 : decode cX11_count 118 = .ok (.getfield 19, 3) := by decide +kernel
theorem dX11_count_121 : decode cX11_count 121 = .ok (.getfield 261, 3) := by decide +kernel
theorem dX11_count_124 : decode cX11_count 124 = .ok (.getfield 286, 3) := by decide +kernel
theorem dX11_count_127 : decode cX11_count 127 = .ok (.ireturn, 1) := by decide +kernel
theorem dX11_count_128 : decode cX11_count 128 = .ok (.aload_n 0, 1) := by decide +kernel
theorem dX11_count_129 : decode cX11_count 129 = .ok (.getfield 19, 3) := by decide +kernel
theorem dX11_count_132 : decode cX11_count 132 = .ok (.getfield 145, 3) := by decide +kernel
theorem dX11_count_135 : decode cX11_count 135 = .ok (.invokevirtual 289, 3) := by decide +kernel
theorem dX11_count_138 : decode cX11_count 138 = .ok (.ireturn, 1) := by decide +kernel
theorem dX11_count_139 : decode cX11_count 139 = .ok (.aload_n 0, 1) := by decide +kernel
theorem dX11_count_140 : decode cX11_count 140 = .ok (.getfield 19, 3) := by decide +kernel
theorem dX11_count_143 : decode cX11_count 143 = .ok (.getfield 37, 3) := by decide +kernel
theorem dX11_count_146 : decode cX11_count 146 = .ok (.aload_n 0, 1) := by decide +kernel
theorem dX11_count_147 : decode cX11_count 147 = .ok (.getfield 19, 3) := by decide +kernel
theorem dX11_count_150 : decode cX11_count 150 = .ok (.invokevirtual 193, 3) := by decide +kernel
theorem dX11_count_153 : decode cX11_count 153 = .ok (.invokevirtual 292, 3) := by decide +kernel
theorem dX11_count_156 : decode cX11_count 156 = .ok (.ireturn, 1) := by decide +kernel
theorem dX11_count_157 : decode cX11_count 157 = .ok (.aload_n 0, 1) := by decide +kernel
theorem dX11_count_158 : decode cX11_count 158 = .ok (.getfield 19, 3) := by decide +kernel
theorem dX11_count_161 : decode cX11_count 161 = .ok (.invokevirtual 295, 3) := by decide +kernel
theorem dX11_count_164 : decode cX11_count 164 = .ok (.ireturn, 1) := by decide +kernel
theorem dX11_count_165 : decode cX11_count 165 = .ok (.aload_n 0, 1) := by decide +kernel
theorem dX11_count_166 : decode cX11_count 166 = .ok (.getfield 12, 3) := by decide +kernel
theorem dX11_count_169 : decode cX11_count 169 = .ok (.getfield 68, 3) := by decide +kernel
theorem dX11_count_172 : decode cX11_count 172 = .ok (.ireturn, 1) := by decide +kernel
theorem dX11_count_173 : decode cX11_count 173 = .ok (.aload_n 0, 1) := by decide +kernel
theorem dX11_count_174 : decode cX11_count 174 = .ok (.iload_n 1, 1) := by decide +kernel
theorem dX11_count_175 : decode cX11_count 175 = .ok (.bipush 10, 2) := by decide +kernel
theorem dX11_count_177 : decode cX11_count 177 = .ok (.isub, 1) := by decide +kernel
theorem dX11_count_178 : decode cX11_count 178 = .ok (.invokevirtual 298, 3) := by decide +kernel
theorem dX11_count_181 : decode cX11_count 181 = .ok (.ireturn, 1) := by decide +kernel
theorem dX11_parameterOrNone_0 : decode cX11_parameterOrNone 0 = .ok (.iload_n 1, 1) := by decide +kernel
theorem dX11_parameterOrNone_1 : decode cX11_parameterOrNone 1 = .ok (.ifCond .lt 23, 3) := by decide +kernel
theorem dX11_parameterOrNone_4 : decode cX11_parameterOrNone 4 = .ok (.iload_n 1, 1) := by decide +kernel
theorem dX11_parameterOrNone_5 : decode cX11_parameterOrNone 5 = .ok (.iconst 5, 1) := by decide +kernel
theorem dX11_parameterOrNone_6 : decode cX11_parameterOrNone 6 = .ok (.if_icmp .ge 18, 3) := by decide +kernel
theorem dX11_parameterOrNone_9 : decode cX11_parameterOrNone 9 = .ok (.aload_n 0, 1) := by decide +kernel
theorem dX11_parameterOrNone_10 : decode cX11_parameterOrNone 10 = .ok (.getfield 19, 3) := by decide +kernel
theorem dX11_parameterOrNone_13 : decode cX11_parameterOrNone 13 = .ok (.getfield 37, 3) := by decide +kernel
theorem dX11_parameterOrNone_16 : decode cX11_parameterOrNone 16 = .ok (.getfield 142, 3) := by decide +kernel
theorem dX11_parameterOrNone_19 : decode cX11_parameterOrNone 19 = .ok (.iload_n 1, 1) := by decide +kernel
theorem dX11_parameterOrNone_20 : decode cX11_parameterOrNone 20 = .ok (.iaload, 1) := by decide +kernel
theorem dX11_parameterOrNone_21 : decode cX11_parameterOrNone 21 = .ok (.goto 4, 3) := by decide +kernel
theorem dX11_parameterOrNone_24 : decode cX11_parameterOrNone 24 = .ok (.iconst (-1), 1) := by decide +kernel
theorem dX11_parameterOrNone_25 : decode cX11_parameterOrNone 25 = .ok (.ireturn, 1) := by decide +kernel
theorem dX11_isSeries_0 : decode cX11_isSeries 0 = .ok (.iload_n 0, 1) := by decide +kernel
theorem dX11_isSeries_1 : decode cX11_isSeries 1 = .ok (.ifCond .lt 13, 3) := by decide +kernel
theorem dX11_isSeries_4 : decode cX11_isSeries 4 = .ok (.iload_n 0, 1) := by decide +kernel
theorem dX11_isSeries_5 : decode cX11_isSeries 5 = .ok (.bipush 12, 2) := by decide +kernel
theorem dX11_isSeries_7 : decode cX11_isSeries 7 = .ok (.if_icmp .ge 7, 3) := by decide +kernel
theorem dX11_isSeries_10 : decode cX11_isSeries 10 = .ok (.iconst 1, 1) := by decide +kernel
theorem dX11_isSeries_11 : decode cX11_isSeries 11 = .ok (.goto 4, 3) := by decide +kernel
theorem dX11_isSeries_14 : decode cX11_isSeries 14 = .ok (.iconst 0, 1) := by decide +kernel
theorem dX11_isSeries_15 : decode cX11_isSeries 15 = .ok (.ireturn, 1) := by decide +kernel
theorem dX11_isByte_0 : decode cX11_isByte 0 = .ok (.iload_n 0, 1) := by decide +kernel
theorem dX11_isByte_1 : decode cX11_isByte 1 = .ok (.ifCond .lt 13, 3) := by decide +kernel
theorem dX11_isByte_4 : decode cX11_isByte 4 = .ok (.iload_n 0, 1) := by decide +kernel
theorem dX11_isByte_5 : decode cX11_isByte 5 = .ok (.bipush 127, 2) := by decide +kernel
theorem dX11_isByte_7 : decode cX11_isByte 7 = .ok (.if_icmp .gt 7, 3) := by decide +kernel
theorem dX11_isByte_10 : decode cX11_isByte 10 = .ok (.iconst 1, 1) := by decide +kernel
theorem dX11_isByte_11 : decode cX11_isByte 11 = .ok (.goto 4, 3) := by decide +kernel
theorem dX11_isByte_14 : decode cX11_isByte 14 = .ok (.iconst 0, 1) := by decide +kernel
theorem dX11_isByte_15 : decode cX11_isByte 15 = .ok (.ireturn, 1) := by decide +kernel
theorem dX11_isKind_0 : decode cX11_isKind 0 = .ok (.iload_n 0, 1) := by decide +kernel
theorem dX11_isKind_1 : decode cX11_isKind 1 = .ok (.ifCond .lt 12, 3) := by decide +kernel
theorem dX11_isKind_4 : decode cX11_isKind 4 = .ok (.iload_n 0, 1) := by decide +kernel
theorem dX11_isKind_5 : decode cX11_isKind 5 = .ok (.iconst 2, 1) := by decide +kernel
theorem dX11_isKind_6 : decode cX11_isKind 6 = .ok (.if_icmp .gt 7, 3) := by decide +kernel
theorem dX11_isKind_9 : decode cX11_isKind 9 = .ok (.iconst 1, 1) := by decide +kernel
theorem dX11_isKind_10 : decode cX11_isKind 10 = .ok (.goto 4, 3) := by decide +kernel
theorem dX11_isKind_13 : decode cX11_isKind 13 = .ok (.iconst 0, 1) := by decide +kernel
theorem dX11_isKind_14 : decode cX11_isKind 14 = .ok (.ireturn, 1) := by decide +kernel
theorem dX11_isSpan_0 : decode cX11_isSpan 0 = .ok (.iload_n 0, 1) := by decide +kernel
theorem dX11_isSpan_1 : decode cX11_isSpan 1 = .ok (.iconst 1, 1) := by decide +kernel
theorem dX11_isSpan_2 : decode cX11_isSpan 2 = .ok (.if_icmp .lt 13, 3) := by decide +kernel
theorem dX11_isSpan_5 : decode cX11_isSpan 5 = .ok (.iload_n 0, 1) := by decide +kernel
theorem dX11_isSpan_6 : decode cX11_isSpan 6 = .ok (.bipush 100, 2) := by decide +kernel
theorem dX11_isSpan_8 : decode cX11_isSpan 8 = .ok (.if_icmp .gt 7, 3) := by decide +kernel
theorem dX11_isSpan_11 : decode cX11_isSpan 11 = .ok (.iconst 1, 1) := by decide +kernel
theorem dX11_isSpan_12 : decode cX11_isSpan 12 = .ok (.goto 4, 3) := by decide +kernel
theorem dX11_isSpan_15 : decode cX11_isSpan 15 = .ok (.iconst 0, 1) := by decide +kernel
theorem dX11_isSpan_16 : decode cX11_isSpan 16 = .ok (.ireturn, 1) := by decide +kernel
theorem dX11_bit_0 : decode cX11_bit 0 = .ok (.iload_n 0, 1) := by decide +kernel
theorem dX11_bit_1 : decode cX11_bit 1 = .ok (.ifCond .eq 7, 3) := by decide +kernel
theorem dX11_bit_4 : decode cX11_bit 4 = .ok (.iconst 1, 1) := by decide +kernel
theorem dX11_bit_5 : decode cX11_bit 5 = .ok (.goto 4, 3) := by decide +kernel
theorem dX11_bit_8 : decode cX11_bit 8 = .ok (.iconst 0, 1) := by decide +kernel
theorem dX11_bit_9 : decode cX11_bit 9 = .ok (.ireturn, 1) := by decide +kernel
theorem dX11_has_0 : decode cX11_has 0 = .ok (.lload_n 0, 1) := by decide +kernel
theorem dX11_has_1 : decode cX11_has 1 = .ok (.iload_n 2, 1) := by decide +kernel
theorem dX11_has_2 : decode cX11_has 2 = .ok (.lushr, 1) := by decide +kernel
theorem dX11_has_3 : decode cX11_has 3 = .ok (.lconst 1, 1) := by decide +kernel
theorem dX11_has_4 : decode cX11_has 4 = .ok (.land, 1) := by decide +kernel
theorem dX11_has_5 : decode cX11_has 5 = .ok (.lconst 0, 1) := by decide +kernel
theorem dX11_has_6 : decode cX11_has 6 = .ok (.lcmp, 1) := by decide +kernel
theorem dX11_has_7 : decode cX11_has 7 = .ok (.ifCond .eq 7, 3) := by decide +kernel
theorem dX11_has_10 : decode cX11_has 10 = .ok (.iconst 1, 1) := by decide +kernel
theorem dX11_has_11 : decode cX11_has 11 = .ok (.goto 4, 3) := by decide +kernel
theorem dX11_has_14 : decode cX11_has 14 = .ok (.iconst 0, 1) := by decide +kernel
theorem dX11_has_15 : decode cX11_has 15 = .ok (.ireturn, 1) := by decide +kernel
theorem dX11_lowest_0 : decode cX11_lowest 0 = .ok (.lload_n 0, 1) := by decide +kernel
theorem dX11_lowest_1 : decode cX11_lowest 1 = .ok (.lconst 0, 1) := by decide +kernel
theorem dX11_lowest_2 : decode cX11_lowest 2 = .ok (.lcmp, 1) := by decide +kernel
theorem dX11_lowest_3 : decode cX11_lowest 3 = .ok (.ifCond .ne 8, 3) := by decide +kernel
theorem dX11_lowest_6 : decode cX11_lowest 6 = .ok (.bipush (-5), 2) := by decide +kernel
theorem dX11_lowest_8 : decode cX11_lowest 8 = .ok (.goto 7, 3) := by decide +kernel
theorem dX11_lowest_11 : decode cX11_lowest 11 = .ok (.lload_n 0, 1) := by decide +kernel
theorem dX11_lowest_12 : decode cX11_lowest 12 = .ok (.invokestatic 301, 3) := by decide +kernel
theorem dX11_lowest_15 : decode cX11_lowest 15 = .ok (.ireturn, 1) := by decide +kernel
theorem dX11_holdsEntry_0 : decode cX11_holdsEntry 0 = .ok (.iload_n 1, 1) := by decide +kernel
theorem dX11_holdsEntry_1 : decode cX11_holdsEntry 1 = .ok (.ifCond .lt 19, 3) := by decide +kernel
theorem dX11_holdsEntry_4 : decode cX11_holdsEntry 4 = .ok (.iload_n 1, 1) := by decide +kernel
theorem dX11_holdsEntry_5 : decode cX11_holdsEntry 5 = .ok (.aload_n 0, 1) := by decide +kernel
theorem dX11_holdsEntry_6 : decode cX11_holdsEntry 6 = .ok (.arraylength, 1) := by decide +kernel
theorem dX11_holdsEntry_7 : decode cX11_holdsEntry 7 = .ok (.if_icmp .ge 13, 3) := by decide +kernel
theorem dX11_holdsEntry_10 : decode cX11_holdsEntry 10 = .ok (.aload_n 0, 1) := by decide +kernel
theorem dX11_holdsEntry_11 : decode cX11_holdsEntry 11 = .ok (.iload_n 1, 1) := by decide +kernel
theorem dX11_holdsEntry_12 : decode cX11_holdsEntry 12 = .ok (.aaload, 1) := by decide +kernel
theorem dX11_holdsEntry_13 : decode cX11_holdsEntry 13 = .ok (.ifnull 7, 3) := by decide +kernel
theorem dX11_holdsEntry_16 : decode cX11_holdsEntry 16 = .ok (.iconst 1, 1) := by decide +kernel
theorem dX11_holdsEntry_17 : decode cX11_holdsEntry 17 = .ok (.goto 4, 3) := by decide +kernel
theorem dX11_holdsEntry_20 : decode cX11_holdsEntry 20 = .ok (.iconst 0, 1) := by decide +kernel
theorem dX11_holdsEntry_21 : decode cX11_holdsEntry 21 = .ok (.ireturn, 1) := by decide +kernel
theorem dX11_lowestFree_0 : decode cX11_lowestFree 0 = .ok (.iconst 0, 1) := by decide +kernel
theorem dX11_lowestFree_1 : decode cX11_lowestFree 1 = .ok (.istore_n 1, 1) := by decide +kernel
theorem dX11_lowestFree_2 : decode cX11_lowestFree 2 = .ok (.iload_n 1, 1) := by decide +kernel
theorem dX11_lowestFree_3 : decode cX11_lowestFree 3 = .ok (.aload_n 0, 1) := by decide +kernel
theorem dX11_lowestFree_4 : decode cX11_lowestFree 4 = .ok (.arraylength, 1) := by decide +kernel
theorem dX11_lowestFree_5 : decode cX11_lowestFree 5 = .ok (.if_icmp .ge 17, 3) := by decide +kernel
theorem dX11_lowestFree_8 : decode cX11_lowestFree 8 = .ok (.aload_n 0, 1) := by decide +kernel
theorem dX11_lowestFree_9 : decode cX11_lowestFree 9 = .ok (.iload_n 1, 1) := by decide +kernel
theorem dX11_lowestFree_10 : decode cX11_lowestFree 10 = .ok (.aaload, 1) := by decide +kernel
theorem dX11_lowestFree_11 : decode cX11_lowestFree 11 = .ok (.ifnonnull 5, 3) := by decide +kernel
theorem dX11_lowestFree_14 : decode cX11_lowestFree 14 = .ok (.iload_n 1, 1) := by decide +kernel
theorem dX11_lowestFree_15 : decode cX11_lowestFree 15 = .ok (.ireturn, 1) := by decide +kernel
theorem dX11_lowestFree_16 : decode cX11_lowestFree 16 = .ok (.iinc 1 1, 3) := by decide +kernel
theorem dX11_lowestFree_19 : decode cX11_lowestFree 19 = .ok (.goto (-17), 3) := by decide +kernel
theorem dX11_lowestFree_22 : decode cX11_lowestFree 22 = .ok (.bipush (-5), 2) := by decide +kernel
theorem dX11_lowestFree_24 : decode cX11_lowestFree 24 = .ok (.ireturn, 1) := by decide +kernel
theorem dX11_countEntries_0 : decode cX11_countEntries 0 = .ok (.iconst 0, 1) := by decide +kernel
theorem dX11_countEntries_1 : decode cX11_countEntries 1 = .ok (.istore_n 1, 1) := by decide +kernel
theorem dX11_countEntries_2 : decode cX11_countEntries 2 = .ok (.iconst 0, 1) := by decide +kernel
theorem dX11_countEntries_3 : decode cX11_countEntries 3 = .ok (.istore_n 2, 1) := by decide +kernel
theorem dX11_countEntries_4 : decode cX11_countEntries 4 = .ok (.iload_n 2, 1) := by decide +kernel
theorem dX11_countEntries_5 : decode cX11_countEntries 5 = .ok (.aload_n 0, 1) := by decide +kernel
end
section
theorem dX11_countEntries_6 : decode cX11_countEntries 6 = .ok (.arraylength, 1) := by decide +kernel
theorem dX11_countEntries_7 : decode cX11_countEntries 7 = .ok (.if_icmp .ge 18, 3) := by decide +kernel
theorem dX11_countEntries_10 : decode cX11_countEntries 10 = .ok (.aload_n 0, 1) := by decide +kernel
theorem dX11_countEntries_11 : decode cX11_countEntries 11 = .ok (.iload_n 2, 1) := by decide +kernel
theorem dX11_countEntries_12 : decode cX11_countEntries 12 = .ok (.aaload, 1) := by decide +kernel
theorem dX11_countEntries_13 : decode cX11_countEntries 13 = .ok (.ifnull 6, 3) := by decide +kernel
theorem dX11_countEntries_16 : decode cX11_countEntries 16 = .ok (.iinc 1 1, 3) := by decide +kernel
theorem dX11_countEntries_19 : decode cX11_countEntries 19 = .ok (.iinc 2 1, 3) := by decide +kernel
theorem dX11_countEntries_22 : decode cX11_countEntries 22 = .ok (.goto (-18), 3) := by decide +kernel
theorem dX11_countEntries_25 : decode cX11_countEntries 25 = .ok (.iload_n 1, 1) := by decide +kernel
theorem dX11_countEntries_26 : decode cX11_countEntries 26 = .ok (.ireturn, 1) := by decide +kernel
theorem dJ6_numberOfTrailingZeros_0f7a4_0 : decode cJ6_numberOfTrailingZeros_0f7a4 0 = .ok (.iload_n 0, 1) := by decide +kernel
theorem dJ6_numberOfTrailingZeros_0f7a4_1 : decode cJ6_numberOfTrailingZeros_0f7a4 1 = .ok (.iconst (-1), 1) := by decide +kernel
theorem dJ6_numberOfTrailingZeros_0f7a4_2 : decode cJ6_numberOfTrailingZeros_0f7a4 2 = .ok (.ixor, 1) := by decide +kernel
theorem dJ6_numberOfTrailingZeros_0f7a4_3 : decode cJ6_numberOfTrailingZeros_0f7a4 3 = .ok (.iload_n 0, 1) := by decide +kernel
theorem dJ6_numberOfTrailingZeros_0f7a4_4 : decode cJ6_numberOfTrailingZeros_0f7a4 4 = .ok (.iconst 1, 1) := by decide +kernel
theorem dJ6_numberOfTrailingZeros_0f7a4_5 : decode cJ6_numberOfTrailingZeros_0f7a4 5 = .ok (.isub, 1) := by decide +kernel
theorem dJ6_numberOfTrailingZeros_0f7a4_6 : decode cJ6_numberOfTrailingZeros_0f7a4 6 = .ok (.iand, 1) := by decide +kernel
theorem dJ6_numberOfTrailingZeros_0f7a4_7 : decode cJ6_numberOfTrailingZeros_0f7a4 7 = .ok (.istore_n 0, 1) := by decide +kernel
theorem dJ6_numberOfTrailingZeros_0f7a4_8 : decode cJ6_numberOfTrailingZeros_0f7a4 8 = .ok (.iload_n 0, 1) := by decide +kernel
theorem dJ6_numberOfTrailingZeros_0f7a4_9 : decode cJ6_numberOfTrailingZeros_0f7a4 9 = .ok (.ifCond .gt 8, 3) := by decide +kernel
theorem dJ6_numberOfTrailingZeros_0f7a4_12 : decode cJ6_numberOfTrailingZeros_0f7a4 12 = .ok (.iload_n 0, 1) := by decide +kernel
theorem dJ6_numberOfTrailingZeros_0f7a4_13 : decode cJ6_numberOfTrailingZeros_0f7a4 13 = .ok (.bipush 32, 2) := by decide +kernel
theorem dJ6_numberOfTrailingZeros_0f7a4_15 : decode cJ6_numberOfTrailingZeros_0f7a4 15 = .ok (.iand, 1) := by decide +kernel
theorem dJ6_numberOfTrailingZeros_0f7a4_16 : decode cJ6_numberOfTrailingZeros_0f7a4 16 = .ok (.ireturn, 1) := by decide +kernel
theorem dJ6_numberOfTrailingZeros_0f7a4_17 : decode cJ6_numberOfTrailingZeros_0f7a4 17 = .ok (.iconst 1, 1) := by decide +kernel
theorem dJ6_numberOfTrailingZeros_0f7a4_18 : decode cJ6_numberOfTrailingZeros_0f7a4 18 = .ok (.istore_n 1, 1) := by decide +kernel
theorem dJ6_numberOfTrailingZeros_0f7a4_19 : decode cJ6_numberOfTrailingZeros_0f7a4 19 = .ok (.iload_n 0, 1) := by decide +kernel
theorem dJ6_numberOfTrailingZeros_0f7a4_20 : decode cJ6_numberOfTrailingZeros_0f7a4 20 = .ok (.ldc_w 264, 3) := by decide +kernel
theorem dJ6_numberOfTrailingZeros_0f7a4_23 : decode cJ6_numberOfTrailingZeros_0f7a4 23 = .ok (.if_icmp .le 11, 3) := by decide +kernel
theorem dJ6_numberOfTrailingZeros_0f7a4_26 : decode cJ6_numberOfTrailingZeros_0f7a4 26 = .ok (.iinc 1 16, 3) := by decide +kernel
theorem dJ6_numberOfTrailingZeros_0f7a4_29 : decode cJ6_numberOfTrailingZeros_0f7a4 29 = .ok (.iload_n 0, 1) := by decide +kernel
theorem dJ6_numberOfTrailingZeros_0f7a4_30 : decode cJ6_numberOfTrailingZeros_0f7a4 30 = .ok (.bipush 16, 2) := by decide +kernel
theorem dJ6_numberOfTrailingZeros_0f7a4_32 : decode cJ6_numberOfTrailingZeros_0f7a4 32 = .ok (.iushr, 1) := by decide +kernel
theorem dJ6_numberOfTrailingZeros_0f7a4_33 : decode cJ6_numberOfTrailingZeros_0f7a4 33 = .ok (.istore_n 0, 1) := by decide +kernel
theorem dJ6_numberOfTrailingZeros_0f7a4_34 : decode cJ6_numberOfTrailingZeros_0f7a4 34 = .ok (.iload_n 0, 1) := by decide +kernel
theorem dJ6_numberOfTrailingZeros_0f7a4_35 : decode cJ6_numberOfTrailingZeros_0f7a4 35 = .ok (.sipush 256, 3) := by decide +kernel
theorem dJ6_numberOfTrailingZeros_0f7a4_38 : decode cJ6_numberOfTrailingZeros_0f7a4 38 = .ok (.if_icmp .le 11, 3) := by decide +kernel
theorem dJ6_numberOfTrailingZeros_0f7a4_41 : decode cJ6_numberOfTrailingZeros_0f7a4 41 = .ok (.iinc 1 8, 3) := by decide +kernel
theorem dJ6_numberOfTrailingZeros_0f7a4_44 : decode cJ6_numberOfTrailingZeros_0f7a4 44 = .ok (.iload_n 0, 1) := by decide +kernel
theorem dJ6_numberOfTrailingZeros_0f7a4_45 : decode cJ6_numberOfTrailingZeros_0f7a4 45 = .ok (.bipush 8, 2) := by decide +kernel
theorem dJ6_numberOfTrailingZeros_0f7a4_47 : decode cJ6_numberOfTrailingZeros_0f7a4 47 = .ok (.iushr, 1) := by decide +kernel
theorem dJ6_numberOfTrailingZeros_0f7a4_48 : decode cJ6_numberOfTrailingZeros_0f7a4 48 = .ok (.istore_n 0, 1) := by decide +kernel
theorem dJ6_numberOfTrailingZeros_0f7a4_49 : decode cJ6_numberOfTrailingZeros_0f7a4 49 = .ok (.iload_n 0, 1) := by decide +kernel
theorem dJ6_numberOfTrailingZeros_0f7a4_50 : decode cJ6_numberOfTrailingZeros_0f7a4 50 = .ok (.bipush 16, 2) := by decide +kernel
theorem dJ6_numberOfTrailingZeros_0f7a4_52 : decode cJ6_numberOfTrailingZeros_0f7a4 52 = .ok (.if_icmp .le 10, 3) := by decide +kernel
theorem dJ6_numberOfTrailingZeros_0f7a4_55 : decode cJ6_numberOfTrailingZeros_0f7a4 55 = .ok (.iinc 1 4, 3) := by decide +kernel
theorem dJ6_numberOfTrailingZeros_0f7a4_58 : decode cJ6_numberOfTrailingZeros_0f7a4 58 = .ok (.iload_n 0, 1) := by decide +kernel
theorem dJ6_numberOfTrailingZeros_0f7a4_59 : decode cJ6_numberOfTrailingZeros_0f7a4 59 = .ok (.iconst 4, 1) := by decide +kernel
theorem dJ6_numberOfTrailingZeros_0f7a4_60 : decode cJ6_numberOfTrailingZeros_0f7a4 60 = .ok (.iushr, 1) := by decide +kernel
theorem dJ6_numberOfTrailingZeros_0f7a4_61 : decode cJ6_numberOfTrailingZeros_0f7a4 61 = .ok (.istore_n 0, 1) := by decide +kernel
theorem dJ6_numberOfTrailingZeros_0f7a4_62 : decode cJ6_numberOfTrailingZeros_0f7a4 62 = .ok (.iload_n 0, 1) := by decide +kernel
theorem dJ6_numberOfTrailingZeros_0f7a4_63 : decode cJ6_numberOfTrailingZeros_0f7a4 63 = .ok (.iconst 4, 1) := by decide +kernel
theorem dJ6_numberOfTrailingZeros_0f7a4_64 : decode cJ6_numberOfTrailingZeros_0f7a4 64 = .ok (.if_icmp .le 10, 3) := by decide +kernel
theorem dJ6_numberOfTrailingZeros_0f7a4_67 : decode cJ6_numberOfTrailingZeros_0f7a4 67 = .ok (.iinc 1 2, 3) := by decide +kernel
theorem dJ6_numberOfTrailingZeros_0f7a4_70 : decode cJ6_numberOfTrailingZeros_0f7a4 70 = .ok (.iload_n 0, 1) := by decide +kernel
theorem dJ6_numberOfTrailingZeros_0f7a4_71 : decode cJ6_numberOfTrailingZeros_0f7a4 71 = .ok (.iconst 2, 1) := by decide +kernel
theorem dJ6_numberOfTrailingZeros_0f7a4_72 : decode cJ6_numberOfTrailingZeros_0f7a4 72 = .ok (.iushr, 1) := by decide +kernel
theorem dJ6_numberOfTrailingZeros_0f7a4_73 : decode cJ6_numberOfTrailingZeros_0f7a4 73 = .ok (.istore_n 0, 1) := by decide +kernel
theorem dJ6_numberOfTrailingZeros_0f7a4_74 : decode cJ6_numberOfTrailingZeros_0f7a4 74 = .ok (.iload_n 1, 1) := by decide +kernel
theorem dJ6_numberOfTrailingZeros_0f7a4_75 : decode cJ6_numberOfTrailingZeros_0f7a4 75 = .ok (.iload_n 0, 1) := by decide +kernel
theorem dJ6_numberOfTrailingZeros_0f7a4_76 : decode cJ6_numberOfTrailingZeros_0f7a4 76 = .ok (.iconst 1, 1) := by decide +kernel
theorem dJ6_numberOfTrailingZeros_0f7a4_77 : decode cJ6_numberOfTrailingZeros_0f7a4 77 = .ok (.iushr, 1) := by decide +kernel
theorem dJ6_numberOfTrailingZeros_0f7a4_78 : decode cJ6_numberOfTrailingZeros_0f7a4 78 = .ok (.iadd, 1) := by decide +kernel
theorem dJ6_numberOfTrailingZeros_0f7a4_79 : decode cJ6_numberOfTrailingZeros_0f7a4 79 = .ok (.ireturn, 1) := by decide +kernel
theorem dJ13_numberOfTrailingZeros_95d88_0 : decode cJ13_numberOfTrailingZeros_95d88 0 = .ok (.lload_n 0, 1) := by decide +kernel
theorem dJ13_numberOfTrailingZeros_95d88_1 : decode cJ13_numberOfTrailingZeros_95d88 1 = .ok (.l2i, 1) := by decide +kernel
theorem dJ13_numberOfTrailingZeros_95d88_2 : decode cJ13_numberOfTrailingZeros_95d88 2 = .ok (.istore_n 2, 1) := by decide +kernel
theorem dJ13_numberOfTrailingZeros_95d88_3 : decode cJ13_numberOfTrailingZeros_95d88 3 = .ok (.iload_n 2, 1) := by decide +kernel
theorem dJ13_numberOfTrailingZeros_95d88_4 : decode cJ13_numberOfTrailingZeros_95d88 4 = .ok (.ifCond .ne 17, 3) := by decide +kernel
theorem dJ13_numberOfTrailingZeros_95d88_7 : decode cJ13_numberOfTrailingZeros_95d88 7 = .ok (.bipush 32, 2) := by decide +kernel
theorem dJ13_numberOfTrailingZeros_95d88_9 : decode cJ13_numberOfTrailingZeros_95d88 9 = .ok (.lload_n 0, 1) := by decide +kernel
theorem dJ13_numberOfTrailingZeros_95d88_10 : decode cJ13_numberOfTrailingZeros_95d88 10 = .ok (.bipush 32, 2) := by decide +kernel
theorem dJ13_numberOfTrailingZeros_95d88_12 : decode cJ13_numberOfTrailingZeros_95d88 12 = .ok (.lushr, 1) := by decide +kernel
theorem dJ13_numberOfTrailingZeros_95d88_13 : decode cJ13_numberOfTrailingZeros_95d88 13 = .ok (.l2i, 1) := by decide +kernel
theorem dJ13_numberOfTrailingZeros_95d88_14 : decode cJ13_numberOfTrailingZeros_95d88 14 = .ok (.invokestatic 311, 3) := by decide +kernel
theorem dJ13_numberOfTrailingZeros_95d88_17 : decode cJ13_numberOfTrailingZeros_95d88 17 = .ok (.iadd, 1) := by decide +kernel
theorem dJ13_numberOfTrailingZeros_95d88_18 : decode cJ13_numberOfTrailingZeros_95d88 18 = .ok (.goto 7, 3) := by decide +kernel
theorem dJ13_numberOfTrailingZeros_95d88_21 : decode cJ13_numberOfTrailingZeros_95d88 21 = .ok (.iload_n 2, 1) := by decide +kernel
theorem dJ13_numberOfTrailingZeros_95d88_22 : decode cJ13_numberOfTrailingZeros_95d88 22 = .ok (.invokestatic 311, 3) := by decide +kernel
theorem dJ13_numberOfTrailingZeros_95d88_25 : decode cJ13_numberOfTrailingZeros_95d88 25 = .ok (.ireturn, 1) := by decide +kernel
theorem dJ13_bitCount_95d88_0 : decode cJ13_bitCount_95d88 0 = .ok (.lload_n 0, 1) := by decide +kernel
theorem dJ13_bitCount_95d88_1 : decode cJ13_bitCount_95d88 1 = .ok (.lload_n 0, 1) := by decide +kernel
theorem dJ13_bitCount_95d88_2 : decode cJ13_bitCount_95d88 2 = .ok (.iconst 1, 1) := by decide +kernel
theorem dJ13_bitCount_95d88_3 : decode cJ13_bitCount_95d88 3 = .ok (.lushr, 1) := by decide +kernel
theorem dJ13_bitCount_95d88_4 : decode cJ13_bitCount_95d88 4 = .ok (.ldc2_w 314, 3) := by decide +kernel
theorem dJ13_bitCount_95d88_7 : decode cJ13_bitCount_95d88 7 = .ok (.land, 1) := by decide +kernel
theorem dJ13_bitCount_95d88_8 : decode cJ13_bitCount_95d88 8 = .ok (.lsub, 1) := by decide +kernel
theorem dJ13_bitCount_95d88_9 : decode cJ13_bitCount_95d88 9 = .ok (.lstore_n 0, 1) := by decide +kernel
theorem dJ13_bitCount_95d88_10 : decode cJ13_bitCount_95d88 10 = .ok (.lload_n 0, 1) := by decide +kernel
theorem dJ13_bitCount_95d88_11 : decode cJ13_bitCount_95d88 11 = .ok (.ldc2_w 316, 3) := by decide +kernel
theorem dJ13_bitCount_95d88_14 : decode cJ13_bitCount_95d88 14 = .ok (.land, 1) := by decide +kernel
theorem dJ13_bitCount_95d88_15 : decode cJ13_bitCount_95d88 15 = .ok (.lload_n 0, 1) := by decide +kernel
theorem dJ13_bitCount_95d88_16 : decode cJ13_bitCount_95d88 16 = .ok (.iconst 2, 1) := by decide +kernel
theorem dJ13_bitCount_95d88_17 : decode cJ13_bitCount_95d88 17 = .ok (.lushr, 1) := by decide +kernel
theorem dJ13_bitCount_95d88_18 : decode cJ13_bitCount_95d88 18 = .ok (.ldc2_w 316, 3) := by decide +kernel
theorem dJ13_bitCount_95d88_21 : decode cJ13_bitCount_95d88 21 = .ok (.land, 1) := by decide +kernel
theorem dJ13_bitCount_95d88_22 : decode cJ13_bitCount_95d88 22 = .ok (.ladd, 1) := by decide +kernel
theorem dJ13_bitCount_95d88_23 : decode cJ13_bitCount_95d88 23 = .ok (.lstore_n 0, 1) := by decide +kernel
theorem dJ13_bitCount_95d88_24 : decode cJ13_bitCount_95d88 24 = .ok (.lload_n 0, 1) := by decide +kernel
theorem dJ13_bitCount_95d88_25 : decode cJ13_bitCount_95d88 25 = .ok (.lload_n 0, 1) := by decide +kernel
theorem dJ13_bitCount_95d88_26 : decode cJ13_bitCount_95d88 26 = .ok (.iconst 4, 1) := by decide +kernel
theorem dJ13_bitCount_95d88_27 : decode cJ13_bitCount_95d88 27 = .ok (.lushr, 1) := by decide +kernel
theorem dJ13_bitCount_95d88_28 : decode cJ13_bitCount_95d88 28 = .ok (.ladd, 1) := by decide +kernel
theorem dJ13_bitCount_95d88_29 : decode cJ13_bitCount_95d88 29 = .ok (.ldc2_w 318, 3) := by decide +kernel
theorem dJ13_bitCount_95d88_32 : decode cJ13_bitCount_95d88 32 = .ok (.land, 1) := by decide +kernel
theorem dJ13_bitCount_95d88_33 : decode cJ13_bitCount_95d88 33 = .ok (.lstore_n 0, 1) := by decide +kernel
theorem dJ13_bitCount_95d88_34 : decode cJ13_bitCount_95d88 34 = .ok (.lload_n 0, 1) := by decide +kernel
theorem dJ13_bitCount_95d88_35 : decode cJ13_bitCount_95d88 35 = .ok (.lload_n 0, 1) := by decide +kernel
theorem dJ13_bitCount_95d88_36 : decode cJ13_bitCount_95d88 36 = .ok (.bipush 8, 2) := by decide +kernel
theorem dJ13_bitCount_95d88_38 : decode cJ13_bitCount_95d88 38 = .ok (.lushr, 1) := by decide +kernel
theorem dJ13_bitCount_95d88_39 : decode cJ13_bitCount_95d88 39 = .ok (.ladd, 1) := by decide +kernel
theorem dJ13_bitCount_95d88_40 : decode cJ13_bitCount_95d88 40 = .ok (.lstore_n 0, 1) := by decide +kernel
theorem dJ13_bitCount_95d88_41 : decode cJ13_bitCount_95d88 41 = .ok (.lload_n 0, 1) := by decide +kernel
theorem dJ13_bitCount_95d88_42 : decode cJ13_bitCount_95d88 42 = .ok (.lload_n 0, 1) := by decide +kernel
theorem dJ13_bitCount_95d88_43 : decode cJ13_bitCount_95d88 43 = .ok (.bipush 16, 2) := by decide +kernel
theorem dJ13_bitCount_95d88_45 : decode cJ13_bitCount_95d88 45 = .ok (.lushr, 1) := by decide +kernel
theorem dJ13_bitCount_95d88_46 : decode cJ13_bitCount_95d88 46 = .ok (.ladd, 1) := by decide +kernel
theorem dJ13_bitCount_95d88_47 : decode cJ13_bitCount_95d88 47 = .ok (.lstore_n 0, 1) := by decide +kernel
theorem dJ13_bitCount_95d88_48 : decode cJ13_bitCount_95d88 48 = .ok (.lload_n 0, 1) := by decide +kernel
theorem dJ13_bitCount_95d88_49 : decode cJ13_bitCount_95d88 49 = .ok (.lload_n 0, 1) := by decide +kernel
theorem dJ13_bitCount_95d88_50 : decode cJ13_bitCount_95d88 50 = .ok (.bipush 32, 2) := by decide +kernel
theorem dJ13_bitCount_95d88_52 : decode cJ13_bitCount_95d88 52 = .ok (.lushr, 1) := by decide +kernel
theorem dJ13_bitCount_95d88_53 : decode cJ13_bitCount_95d88 53 = .ok (.ladd, 1) := by decide +kernel
theorem dJ13_bitCount_95d88_54 : decode cJ13_bitCount_95d88 54 = .ok (.lstore_n 0, 1) := by decide +kernel
theorem dJ13_bitCount_95d88_55 : decode cJ13_bitCount_95d88 55 = .ok (.lload_n 0, 1) := by decide +kernel
theorem dJ13_bitCount_95d88_56 : decode cJ13_bitCount_95d88 56 = .ok (.l2i, 1) := by decide +kernel
theorem dJ13_bitCount_95d88_57 : decode cJ13_bitCount_95d88 57 = .ok (.bipush 127, 2) := by decide +kernel
theorem dJ13_bitCount_95d88_59 : decode cJ13_bitCount_95d88 59 = .ok (.iand, 1) := by decide +kernel
theorem dJ13_bitCount_95d88_60 : decode cJ13_bitCount_95d88 60 = .ok (.ireturn, 1) := by decide +kernel
theorem dJ9_max_7cf53_0 : decode cJ9_max_7cf53 0 = .ok (.iload_n 0, 1) := by decide +kernel
theorem dJ9_max_7cf53_1 : decode cJ9_max_7cf53 1 = .ok (.iload_n 1, 1) := by decide +kernel
theorem dJ9_max_7cf53_2 : decode cJ9_max_7cf53 2 = .ok (.if_icmp .lt 7, 3) := by decide +kernel
theorem dJ9_max_7cf53_5 : decode cJ9_max_7cf53 5 = .ok (.iload_n 0, 1) := by decide +kernel
theorem dJ9_max_7cf53_6 : decode cJ9_max_7cf53 6 = .ok (.goto 4, 3) := by decide +kernel
theorem dJ9_max_7cf53_9 : decode cJ9_max_7cf53 9 = .ok (.iload_n 1, 1) := by decide +kernel
theorem dJ9_max_7cf53_10 : decode cJ9_max_7cf53 10 = .ok (.ireturn, 1) := by decide +kernel
theorem dJ9_min_7cf53_0 : decode cJ9_min_7cf53 0 = .ok (.iload_n 0, 1) := by decide +kernel
theorem dJ9_min_7cf53_1 : decode cJ9_min_7cf53 1 = .ok (.iload_n 1, 1) := by decide +kernel
theorem dJ9_min_7cf53_2 : decode cJ9_min_7cf53 2 = .ok (.if_icmp .gt 7, 3) := by decide +kernel
theorem dJ9_min_7cf53_5 : decode cJ9_min_7cf53 5 = .ok (.iload_n 0, 1) := by decide +kernel
theorem dJ9_min_7cf53_6 : decode cJ9_min_7cf53 6 = .ok (.goto 4, 3) := by decide +kernel
theorem dJ9_min_7cf53_9 : decode cJ9_min_7cf53 9 = .ok (.iload_n 1, 1) := by decide +kernel
theorem dJ9_min_7cf53_10 : decode cJ9_min_7cf53 10 = .ok (.ireturn, 1) := by decide +kernel
theorem dL_law_0 : decode cL_law 0 = .ok (.new 7, 3) := by decide +kernel
theorem dL_law_3 : decode cL_law 3 = .ok (.dup, 1) := by decide +kernel
theorem dL_law_4 : decode cL_law 4 = .ok (.invokespecial 9, 3) := by decide +kernel
theorem dL_law_7 : decode cL_law 7 = .ok (.astore_n 1, 1) := by decide +kernel
theorem dL_law_8 : decode cL_law 8 = .ok (.new 10, 3) := by decide +kernel
theorem dL_law_11 : decode cL_law 11 = .ok (.dup, 1) := by decide +kernel
theorem dL_law_12 : decode cL_law 12 = .ok (.invokespecial 12, 3) := by decide +kernel
theorem dL_law_15 : decode cL_law 15 = .ok (.astore_n 2, 1) := by decide +kernel
theorem dL_law_16 : decode cL_law 16 = .ok (.iconst 0, 1) := by decide +kernel
theorem dL_law_17 : decode cL_law 17 = .ok (.istore_n 3, 1) := by decide +kernel
theorem dL_law_18 : decode cL_law 18 = .ok (.iload_n 3, 1) := by decide +kernel
theorem dL_law_19 : decode cL_law 19 = .ok (.aload_n 0, 1) := by decide +kernel
theorem dL_law_20 : decode cL_law 20 = .ok (.arraylength, 1) := by decide +kernel
theorem dL_law_21 : decode cL_law 21 = .ok (.bipush 7, 2) := by decide +kernel
theorem dL_law_23 : decode cL_law 23 = .ok (.isub, 1) := by decide +kernel
theorem dL_law_24 : decode cL_law 24 = .ok (.if_icmp .gt 676, 3) := by decide +kernel
theorem dL_law_27 : decode cL_law 27 = .ok (.aload_n 0, 1) := by decide +kernel
theorem dL_law_28 : decode cL_law 28 = .ok (.iload_n 3, 1) := by decide +kernel
theorem dL_law_29 : decode cL_law 29 = .ok (.iaload, 1) := by decide +kernel
theorem dL_law_30 : decode cL_law 30 = .ok (.bipush 31, 2) := by decide +kernel
theorem dL_law_32 : decode cL_law 32 = .ok (.iand, 1) := by decide +kernel
theorem dL_law_33 : decode cL_law 33 = .ok (.tableswitch 661 0 18 #[91, 134, 167, 190, 265, 288, 321, 354, 377, 420, 444, 477, 500, 533, 556, 579, 612, 625, 638], 91) := by decide +kernel
theorem dL_law_124 : decode cL_law 124 = .ok (.aload_n 1, 1) := by decide +kernel
theorem dL_law_125 : decode cL_law 125 = .ok (.aload_n 0, 1) := by decide +kernel
theorem dL_law_126 : decode cL_law 126 = .ok (.iload_n 3, 1) := by decide +kernel
theorem dL_law_127 : decode cL_law 127 = .ok (.iconst 1, 1) := by decide +kernel
theorem dL_law_128 : decode cL_law 128 = .ok (.iadd, 1) := by decide +kernel
theorem dL_law_129 : decode cL_law 129 = .ok (.iaload, 1) := by decide +kernel
theorem dL_law_130 : decode cL_law 130 = .ok (.aload_n 0, 1) := by decide +kernel
theorem dL_law_131 : decode cL_law 131 = .ok (.iload_n 3, 1) := by decide +kernel
theorem dL_law_132 : decode cL_law 132 = .ok (.iconst 2, 1) := by decide +kernel
theorem dL_law_133 : decode cL_law 133 = .ok (.iadd, 1) := by decide +kernel
theorem dL_law_134 : decode cL_law 134 = .ok (.iaload, 1) := by decide +kernel
theorem dL_law_135 : decode cL_law 135 = .ok (.aload_n 0, 1) := by decide +kernel
theorem dL_law_136 : decode cL_law 136 = .ok (.iload_n 3, 1) := by decide +kernel
theorem dL_law_137 : decode cL_law 137 = .ok (.iconst 3, 1) := by decide +kernel
theorem dL_law_138 : decode cL_law 138 = .ok (.iadd, 1) := by decide +kernel
theorem dL_law_139 : decode cL_law 139 = .ok (.iaload, 1) := by decide +kernel
theorem dL_law_140 : decode cL_law 140 = .ok (.invokevirtual 13, 3) := by decide +kernel
theorem dL_law_143 : decode cL_law 143 = .ok (.aload_n 2, 1) := by decide +kernel
theorem dL_law_144 : decode cL_law 144 = .ok (.aload_n 0, 1) := by decide +kernel
theorem dL_law_145 : decode cL_law 145 = .ok (.iload_n 3, 1) := by decide +kernel
theorem dL_law_146 : decode cL_law 146 = .ok (.iconst 1, 1) := by decide +kernel
theorem dL_law_147 : decode cL_law 147 = .ok (.iadd, 1) := by decide +kernel
theorem dL_law_148 : decode cL_law 148 = .ok (.iaload, 1) := by decide +kernel
theorem dL_law_149 : decode cL_law 149 = .ok (.aload_n 0, 1) := by decide +kernel
theorem dL_law_150 : decode cL_law 150 = .ok (.iload_n 3, 1) := by decide +kernel
theorem dL_law_151 : decode cL_law 151 = .ok (.iconst 2, 1) := by decide +kernel
theorem dL_law_152 : decode cL_law 152 = .ok (.iadd, 1) := by decide +kernel
theorem dL_law_153 : decode cL_law 153 = .ok (.iaload, 1) := by decide +kernel
theorem dL_law_154 : decode cL_law 154 = .ok (.aload_n 0, 1) := by decide +kernel
theorem dL_law_155 : decode cL_law 155 = .ok (.iload_n 3, 1) := by decide +kernel
theorem dL_law_156 : decode cL_law 156 = .ok (.iconst 3, 1) := by decide +kernel
theorem dL_law_157 : decode cL_law 157 = .ok (.iadd, 1) := by decide +kernel
theorem dL_law_158 : decode cL_law 158 = .ok (.iaload, 1) := by decide +kernel
theorem dL_law_159 : decode cL_law 159 = .ok (.invokevirtual 17, 3) := by decide +kernel
theorem dL_law_162 : decode cL_law 162 = .ok (.if_icmp .eq 532, 3) := by decide +kernel
theorem dL_law_165 : decode cL_law 165 = .ok (.iconst 0, 1) := by decide +kernel
theorem dL_law_166 : decode cL_law 166 = .ok (.ireturn, 1) := by decide +kernel
theorem dL_law_167 : decode cL_law 167 = .ok (.aload_n 1, 1) := by decide +kernel
theorem dL_law_168 : decode cL_law 168 = .ok (.aload_n 0, 1) := by decide +kernel
theorem dL_law_169 : decode cL_law 169 = .ok (.iload_n 3, 1) := by decide +kernel
theorem dL_law_170 : decode cL_law 170 = .ok (.iconst 1, 1) := by decide +kernel
theorem dL_law_171 : decode cL_law 171 = .ok (.iadd, 1) := by decide +kernel
theorem dL_law_172 : decode cL_law 172 = .ok (.iaload, 1) := by decide +kernel
theorem dL_law_173 : decode cL_law 173 = .ok (.aload_n 0, 1) := by decide +kernel
theorem dL_law_174 : decode cL_law 174 = .ok (.iload_n 3, 1) := by decide +kernel
theorem dL_law_175 : decode cL_law 175 = .ok (.iconst 2, 1) := by decide +kernel
theorem dL_law_176 : decode cL_law 176 = .ok (.iadd, 1) := by decide +kernel
theorem dL_law_177 : decode cL_law 177 = .ok (.iaload, 1) := by decide +kernel
theorem dL_law_178 : decode cL_law 178 = .ok (.invokevirtual 18, 3) := by decide +kernel
theorem dL_law_181 : decode cL_law 181 = .ok (.aload_n 2, 1) := by decide +kernel
theorem dL_law_182 : decode cL_law 182 = .ok (.aload_n 0, 1) := by decide +kernel
theorem dL_law_183 : decode cL_law 183 = .ok (.iload_n 3, 1) := by decide +kernel
theorem dL_law_184 : decode cL_law 184 = .ok (.iconst 1, 1) := by decide +kernel
theorem dL_law_185 : decode cL_law 185 = .ok (.iadd, 1) := by decide +kernel
theorem dL_law_186 : decode cL_law 186 = .ok (.iaload, 1) := by decide +kernel
theorem dL_law_187 : decode cL_law 187 = .ok (.aload_n 0, 1) := by decide +kernel
theorem dL_law_188 : decode cL_law 188 = .ok (.iload_n 3, 1) := by decide +kernel
theorem dL_law_189 : decode cL_law 189 = .ok (.iconst 2, 1) := by decide +kernel
theorem dL_law_190 : decode cL_law 190 = .ok (.iadd, 1) := by decide +kernel
theorem dL_law_191 : decode cL_law 191 = .ok (.iaload, 1) := by decide +kernel
theorem dL_law_192 : decode cL_law 192 = .ok (.invokevirtual 22, 3) := by decide +kernel
theorem dL_law_195 : decode cL_law 195 = .ok (.if_icmp .eq 499, 3) := by decide +kernel
theorem dL_law_198 : decode cL_law 198 = .ok (.iconst 0, 1) := by decide +kernel
theorem dL_law_199 : decode cL_law 199 = .ok (.ireturn, 1) := by decide +kernel
theorem dL_law_200 : decode cL_law 200 = .ok (.aload_n 1, 1) := by decide +kernel
theorem dL_law_201 : decode cL_law 201 = .ok (.aload_n 0, 1) := by decide +kernel
theorem dL_law_202 : decode cL_law 202 = .ok (.iload_n 3, 1) := by decide +kernel
theorem dL_law_203 : decode cL_law 203 = .ok (.iconst 1, 1) := by decide +kernel
theorem dL_law_204 : decode cL_law 204 = .ok (.iadd, 1) := by decide +kernel
theorem dL_law_205 : decode cL_law 205 = .ok (.iaload, 1) := by decide +kernel
theorem dL_law_206 : decode cL_law 206 = .ok (.invokevirtual 23, 3) := by decide +kernel
theorem dL_law_209 : decode cL_law 209 = .ok (.aload_n 2, 1) := by decide +kernel
theorem dL_law_210 : decode cL_law 210 = .ok (.aload_n 0, 1) := by decide +kernel
theorem dL_law_211 : decode cL_law 211 = .ok (.iload_n 3, 1) := by decide +kernel
theorem dL_law_212 : decode cL_law 212 = .ok (.iconst 1, 1) := by decide +kernel
theorem dL_law_213 : decode cL_law 213 = .ok (.iadd, 1) := by decide +kernel
theorem dL_law_214 : decode cL_law 214 = .ok (.iaload, 1) := by decide +kernel
theorem dL_law_215 : decode cL_law 215 = .ok (.invokevirtual 27, 3) := by decide +kernel
theorem dL_law_218 : decode cL_law 218 = .ok (.if_icmp .eq 476, 3) := by decide +kernel
theorem dL_law_221 : decode cL_law 221 = .ok (.iconst 0, 1) := by decide +kernel
theorem dL_law_222 : decode cL_law 222 = .ok (.ireturn, 1) := by decide +kernel
theorem dL_law_223 : decode cL_law 223 = .ok (.aload_n 1, 1) := by decide +kernel
theorem dL_law_224 : decode cL_law 224 = .ok (.aload_n 0, 1) := by decide +kernel
theorem dL_law_225 : decode cL_law 225 = .ok (.iload_n 3, 1) := by decide +kernel
theorem dL_law_226 : decode cL_law 226 = .ok (.iconst 1, 1) := by decide +kernel
theorem dL_law_227 : decode cL_law 227 = .ok (.iadd, 1) := by decide +kernel
theorem dL_law_228 : decode cL_law 228 = .ok (.iaload, 1) := by decide +kernel
theorem dL_law_229 : decode cL_law 229 = .ok (.aload_n 0, 1) := by decide +kernel
theorem dL_law_230 : decode cL_law 230 = .ok (.iload_n 3, 1) := by decide +kernel
theorem dL_law_231 : decode cL_law 231 = .ok (.iconst 2, 1) := by decide +kernel
theorem dL_law_232 : decode cL_law 232 = .ok (.iadd, 1) := by decide +kernel
theorem dL_law_233 : decode cL_law 233 = .ok (.iaload, 1) := by decide +kernel
theorem dL_law_234 : decode cL_law 234 = .ok (.aload_n 0, 1) := by decide +kernel
theorem dL_law_235 : decode cL_law 235 = .ok (.iload_n 3, 1) := by decide +kernel
theorem dL_law_236 : decode cL_law 236 = .ok (.iconst 3, 1) := by decide +kernel
theorem dL_law_237 : decode cL_law 237 = .ok (.iadd, 1) := by decide +kernel
theorem dL_law_238 : decode cL_law 238 = .ok (.iaload, 1) := by decide +kernel
theorem dL_law_239 : decode cL_law 239 = .ok (.aload_n 0, 1) := by decide +kernel
theorem dL_law_240 : decode cL_law 240 = .ok (.iload_n 3, 1) := by decide +kernel
theorem dL_law_241 : decode cL_law 241 = .ok (.iconst 4, 1) := by decide +kernel
theorem dL_law_242 : decode cL_law 242 = .ok (.iadd, 1) := by decide +kernel
theorem dL_law_243 : decode cL_law 243 = .ok (.iaload, 1) := by decide +kernel
theorem dL_law_244 : decode cL_law 244 = .ok (.aload_n 0, 1) := by decide +kernel
theorem dL_law_245 : decode cL_law 245 = .ok (.iload_n 3, 1) := by decide +kernel
theorem dL_law_246 : decode cL_law 246 = .ok (.iconst 5, 1) := by decide +kernel
theorem dL_law_247 : decode cL_law 247 = .ok (.iadd, 1) := by decide +kernel
theorem dL_law_248 : decode cL_law 248 = .ok (.iaload, 1) := by decide +kernel
theorem dL_law_249 : decode cL_law 249 = .ok (.aload_n 0, 1) := by decide +kernel
theorem dL_law_250 : decode cL_law 250 = .ok (.iload_n 3, 1) := by decide +kernel
theorem dL_law_251 : decode cL_law 251 = .ok (.bipush 6, 2) := by decide +kernel
theorem dL_law_253 : decode cL_law 253 = .ok (.iadd, 1) := by decide +kernel
theorem dL_law_254 : decode cL_law 254 = .ok (.iaload, 1) := by decide +kernel
theorem dL_law_255 : decode cL_law 255 = .ok (.invokevirtual 28, 3) := by decide +kernel
theorem dL_law_258 : decode cL_law 258 = .ok (.aload_n 2, 1) := by decide +kernel
theorem dL_law_259 : decode cL_law 259 = .ok (.aload_n 0, 1) := by decide +kernel
theorem dL_law_260 : decode cL_law 260 = .ok (.iload_n 3, 1) := by decide +kernel
theorem dL_law_261 : decode cL_law 261 = .ok (.iconst 1, 1) := by decide +kernel
theorem dL_law_262 : decode cL_law 262 = .ok (.iadd, 1) := by decide +kernel
theorem dL_law_263 : decode cL_law 263 = .ok (.iaload, 1) := by decide +kernel
theorem dL_law_264 : decode cL_law 264 = .ok (.aload_n 0, 1) := by decide +kernel
theorem dL_law_265 : decode cL_law 265 = .ok (.iload_n 3, 1) := by decide +kernel
theorem dL_law_266 : decode cL_law 266 = .ok (.iconst 2, 1) := by decide +kernel
theorem dL_law_267 : decode cL_law 267 = .ok (.iadd, 1) := by decide +kernel
theorem dL_law_268 : decode cL_law 268 = .ok (.iaload, 1) := by decide +kernel
theorem dL_law_269 : decode cL_law 269 = .ok (.aload_n 0, 1) := by decide +kernel
theorem dL_law_270 : decode cL_law 270 = .ok (.iload_n 3, 1) := by decide +kernel
theorem dL_law_271 : decode cL_law 271 = .ok (.iconst 3, 1) := by decide +kernel
theorem dL_law_272 : decode cL_law 272 = .ok (.iadd, 1) := by decide +kernel
theorem dL_law_273 : decode cL_law 273 = .ok (.iaload, 1) := by decide +kernel
theorem dL_law_274 : decode cL_law 274 = .ok (.aload_n 0, 1) := by decide +kernel
theorem dL_law_275 : decode cL_law 275 = .ok (.iload_n 3, 1) := by decide +kernel
theorem dL_law_276 : decode cL_law 276 = .ok (.iconst 4, 1) := by decide +kernel
theorem dL_law_277 : decode cL_law 277 = .ok (.iadd, 1) := by decide +kernel
theorem dL_law_278 : decode cL_law 278 = .ok (.iaload, 1) := by decide +kernel
theorem dL_law_279 : decode cL_law 279 = .ok (.aload_n 0, 1) := by decide +kernel
theorem dL_law_280 : decode cL_law 280 = .ok (.iload_n 3, 1) := by decide +kernel
theorem dL_law_281 : decode cL_law 281 = .ok (.iconst 5, 1) := by decide +kernel
theorem dL_law_282 : decode cL_law 282 = .ok (.iadd, 1) := by decide +kernel
theorem dL_law_283 : decode cL_law 283 = .ok (.iaload, 1) := by decide +kernel
theorem dL_law_284 : decode cL_law 284 = .ok (.aload_n 0, 1) := by decide +kernel
theorem dL_law_285 : decode cL_law 285 = .ok (.iload_n 3, 1) := by decide +kernel
theorem dL_law_286 : decode cL_law 286 = .ok (.bipush 6, 2) := by decide +kernel
theorem dL_law_288 : decode cL_law 288 = .ok (.iadd, 1) := by decide +kernel
theorem dL_law_289 : decode cL_law 289 = .ok (.iaload, 1) := by decide +kernel
theorem dL_law_290 : decode cL_law 290 = .ok (.invokevirtual 32, 3) := by decide +kernel
theorem dL_law_293 : decode cL_law 293 = .ok (.if_icmp .eq 401, 3) := by decide +kernel
theorem dL_law_296 : decode cL_law 296 = .ok (.iconst 0, 1) := by decide +kernel
theorem dL_law_297 : decode cL_law 297 = .ok (.ireturn, 1) := by decide +kernel
theorem dL_law_298 : decode cL_law 298 = .ok (.aload_n 1, 1) := by decide +kernel
theorem dL_law_299 : decode cL_law 299 = .ok (.aload_n 0, 1) := by decide +kernel
theorem dL_law_300 : decode cL_law 300 = .ok (.iload_n 3, 1) := by decide +kernel
theorem dL_law_301 : decode cL_law 301 = .ok (.iconst 1, 1) := by decide +kernel
theorem dL_law_302 : decode cL_law 302 = .ok (.iadd, 1) := by decide +kernel
theorem dL_law_303 : decode cL_law 303 = .ok (.iaload, 1) := by decide +kernel
theorem dL_law_304 : decode cL_law 304 = .ok (.invokevirtual 33, 3) := by decide +kernel
theorem dL_law_307 : decode cL_law 307 = .ok (.aload_n 2, 1) := by decide +kernel
theorem dL_law_308 : decode cL_law 308 = .ok (.aload_n 0, 1) := by decide +kernel
theorem dL_law_309 : decode cL_law 309 = .ok (.iload_n 3, 1) := by decide +kernel
theorem dL_law_310 : decode cL_law 310 = .ok (.iconst 1, 1) := by decide +kernel
theorem dL_law_311 : decode cL_law 311 = .ok (.iadd, 1) := by decide +kernel
theorem dL_law_312 : decode cL_law 312 = .ok (.iaload, 1) := by decide +kernel
theorem dL_law_313 : decode cL_law 313 = .ok (.invokevirtual 36, 3) := by decide +kernel
theorem dL_law_316 : decode cL_law 316 = .ok (.if_icmp .eq 378, 3) := by decide +kernel
theorem dL_law_319 : decode cL_law 319 = .ok (.iconst 0, 1) := by decide +kernel
theorem dL_law_320 : decode cL_law 320 = .ok (.ireturn, 1) := by decide +kernel
theorem dL_law_321 : decode cL_law 321 = .ok (.aload_n 1, 1) := by decide +kernel
theorem dL_law_322 : decode cL_law 322 = .ok (.aload_n 0, 1) := by decide +kernel
theorem dL_law_323 : decode cL_law 323 = .ok (.iload_n 3, 1) := by decide +kernel
theorem dL_law_324 : decode cL_law 324 = .ok (.iconst 1, 1) := by decide +kernel
theorem dL_law_325 : decode cL_law 325 = .ok (.iadd, 1) := by decide +kernel
theorem dL_law_326 : decode cL_law 326 = .ok (.iaload, 1) := by decide +kernel
theorem dL_law_327 : decode cL_law 327 = .ok (.aload_n 0, 1) := by decide +kernel
theorem dL_law_328 : decode cL_law 328 = .ok (.iload_n 3, 1) := by decide +kernel
theorem dL_law_329 : decode cL_law 329 = .ok (.iconst 2, 1) := by decide +kernel
theorem dL_law_330 : decode cL_law 330 = .ok (.iadd, 1) := by decide +kernel
theorem dL_law_331 : decode cL_law 331 = .ok (.iaload, 1) := by decide +kernel
theorem dL_law_332 : decode cL_law 332 = .ok (.invokevirtual 37, 3) := by decide +kernel
theorem dL_law_335 : decode cL_law 335 = .ok (.aload_n 2, 1) := by decide +kernel
theorem dL_law_336 : decode cL_law 336 = .ok (.aload_n 0, 1) := by decide +kernel
theorem dL_law_337 : decode cL_law 337 = .ok (.iload_n 3, 1) := by decide +kernel
theorem dL_law_338 : decode cL_law 338 = .ok (.iconst 1, 1) := by decide +kernel
theorem dL_law_339 : decode cL_law 339 = .ok (.iadd, 1) := by decide +kernel
theorem dL_law_340 : decode cL_law 340 = .ok (.iaload, 1) := by decide +kernel
theorem dL_law_341 : decode cL_law 341 = .ok (.aload_n 0, 1) := by decide +kernel
theorem dL_law_342 : decode cL_law 342 = .ok (.iload_n 3, 1) := by decide +kernel
theorem dL_law_343 : decode cL_law 343 = .ok (.iconst 2, 1) := by decide +kernel
theorem dL_law_344 : decode cL_law 344 = .ok (.iadd, 1) := by decide +kernel
theorem dL_law_345 : decode cL_law 345 = .ok (.iaload, 1) := by decide +kernel
theorem dL_law_346 : decode cL_law 346 = .ok (.invokevirtual 40, 3) := by decide +kernel
theorem dL_law_349 : decode cL_law 349 = .ok (.if_icmp .eq 345, 3) := by decide +kernel
theorem dL_law_352 : decode cL_law 352 = .ok (.iconst 0, 1) := by decide +kernel
theorem dL_law_353 : decode cL_law 353 = .ok (.ireturn, 1) := by decide +kernel
theorem dL_law_354 : decode cL_law 354 = .ok (.aload_n 1, 1) := by decide +kernel
theorem dL_law_355 : decode cL_law 355 = .ok (.aload_n 0, 1) := by decide +kernel
theorem dL_law_356 : decode cL_law 356 = .ok (.iload_n 3, 1) := by decide +kernel
theorem dL_law_357 : decode cL_law 357 = .ok (.iconst 1, 1) := by decide +kernel
theorem dL_law_358 : decode cL_law 358 = .ok (.iadd, 1) := by decide +kernel
theorem dL_law_359 : decode cL_law 359 = .ok (.iaload, 1) := by decide +kernel
theorem dL_law_360 : decode cL_law 360 = .ok (.aload_n 0, 1) := by decide +kernel
theorem dL_law_361 : decode cL_law 361 = .ok (.iload_n 3, 1) := by decide +kernel
theorem dL_law_362 : decode cL_law 362 = .ok (.iconst 2, 1) := by decide +kernel
theorem dL_law_363 : decode cL_law 363 = .ok (.iadd, 1) := by decide +kernel
theorem dL_law_364 : decode cL_law 364 = .ok (.iaload, 1) := by decide +kernel
theorem dL_law_365 : decode cL_law 365 = .ok (.invokevirtual 41, 3) := by decide +kernel
theorem dL_law_368 : decode cL_law 368 = .ok (.aload_n 2, 1) := by decide +kernel
theorem dL_law_369 : decode cL_law 369 = .ok (.aload_n 0, 1) := by decide +kernel
theorem dL_law_370 : decode cL_law 370 = .ok (.iload_n 3, 1) := by decide +kernel
theorem dL_law_371 : decode cL_law 371 = .ok (.iconst 1, 1) := by decide +kernel
theorem dL_law_372 : decode cL_law 372 = .ok (.iadd, 1) := by decide +kernel
theorem dL_law_373 : decode cL_law 373 = .ok (.iaload, 1) := by decide +kernel
theorem dL_law_374 : decode cL_law 374 = .ok (.aload_n 0, 1) := by decide +kernel
theorem dL_law_375 : decode cL_law 375 = .ok (.iload_n 3, 1) := by decide +kernel
theorem dL_law_376 : decode cL_law 376 = .ok (.iconst 2, 1) := by decide +kernel
theorem dL_law_377 : decode cL_law 377 = .ok (.iadd, 1) := by decide +kernel
theorem dL_law_378 : decode cL_law 378 = .ok (.iaload, 1) := by decide +kernel
theorem dL_law_379 : decode cL_law 379 = .ok (.invokevirtual 44, 3) := by decide +kernel
theorem dL_law_382 : decode cL_law 382 = .ok (.if_icmp .eq 312, 3) := by decide +kernel
theorem dL_law_385 : decode cL_law 385 = .ok (.iconst 0, 1) := by decide +kernel
theorem dL_law_386 : decode cL_law 386 = .ok (.ireturn, 1) := by decide +kernel
theorem dL_law_387 : decode cL_law 387 = .ok (.aload_n 1, 1) := by decide +kernel
theorem dL_law_388 : decode cL_law 388 = .ok (.aload_n 0, 1) := by decide +kernel
theorem dL_law_389 : decode cL_law 389 = .ok (.iload_n 3, 1) := by decide +kernel
theorem dL_law_390 : decode cL_law 390 = .ok (.iconst 1, 1) := by decide +kernel
theorem dL_law_391 : decode cL_law 391 = .ok (.iadd, 1) := by decide +kernel
theorem dL_law_392 : decode cL_law 392 = .ok (.iaload, 1) := by decide +kernel
theorem dL_law_393 : decode cL_law 393 = .ok (.invokevirtual 45, 3) := by decide +kernel
theorem dL_law_396 : decode cL_law 396 = .ok (.aload_n 2, 1) := by decide +kernel
theorem dL_law_397 : decode cL_law 397 = .ok (.aload_n 0, 1) := by decide +kernel
theorem dL_law_398 : decode cL_law 398 = .ok (.iload_n 3, 1) := by decide +kernel
theorem dL_law_399 : decode cL_law 399 = .ok (.iconst 1, 1) := by decide +kernel
theorem dL_law_400 : decode cL_law 400 = .ok (.iadd, 1) := by decide +kernel
theorem dL_law_401 : decode cL_law 401 = .ok (.iaload, 1) := by decide +kernel
theorem dL_law_402 : decode cL_law 402 = .ok (.invokevirtual 48, 3) := by decide +kernel
theorem dL_law_405 : decode cL_law 405 = .ok (.if_icmp .eq 289, 3) := by decide +kernel
theorem dL_law_408 : decode cL_law 408 = .ok (.iconst 0, 1) := by decide +kernel
theorem dL_law_409 : decode cL_law 409 = .ok (.ireturn, 1) := by decide +kernel
theorem dL_law_410 : decode cL_law 410 = .ok (.aload_n 1, 1) := by decide +kernel
theorem dL_law_411 : decode cL_law 411 = .ok (.aload_n 0, 1) := by decide +kernel
theorem dL_law_412 : decode cL_law 412 = .ok (.iload_n 3, 1) := by decide +kernel
theorem dL_law_413 : decode cL_law 413 = .ok (.iconst 1, 1) := by decide +kernel
theorem dL_law_414 : decode cL_law 414 = .ok (.iadd, 1) := by decide +kernel
theorem dL_law_415 : decode cL_law 415 = .ok (.iaload, 1) := by decide +kernel
theorem dL_law_416 : decode cL_law 416 = .ok (.aload_n 0, 1) := by decide +kernel
theorem dL_law_417 : decode cL_law 417 = .ok (.iload_n 3, 1) := by decide +kernel
theorem dL_law_418 : decode cL_law 418 = .ok (.iconst 2, 1) := by decide +kernel
theorem dL_law_419 : decode cL_law 419 = .ok (.iadd, 1) := by decide +kernel
theorem dL_law_420 : decode cL_law 420 = .ok (.iaload, 1) := by decide +kernel
theorem dL_law_421 : decode cL_law 421 = .ok (.aload_n 0, 1) := by decide +kernel
theorem dL_law_422 : decode cL_law 422 = .ok (.iload_n 3, 1) := by decide +kernel
theorem dL_law_423 : decode cL_law 423 = .ok (.iconst 3, 1) := by decide +kernel
theorem dL_law_424 : decode cL_law 424 = .ok (.iadd, 1) := by decide +kernel
theorem dL_law_425 : decode cL_law 425 = .ok (.iaload, 1) := by decide +kernel
theorem dL_law_426 : decode cL_law 426 = .ok (.invokevirtual 49, 3) := by decide +kernel
theorem dL_law_429 : decode cL_law 429 = .ok (.aload_n 2, 1) := by decide +kernel
theorem dL_law_430 : decode cL_law 430 = .ok (.aload_n 0, 1) := by decide +kernel
theorem dL_law_431 : decode cL_law 431 = .ok (.iload_n 3, 1) := by decide +kernel
theorem dL_law_432 : decode cL_law 432 = .ok (.iconst 1, 1) := by decide +kernel
theorem dL_law_433 : decode cL_law 433 = .ok (.iadd, 1) := by decide +kernel
theorem dL_law_434 : decode cL_law 434 = .ok (.iaload, 1) := by decide +kernel
theorem dL_law_435 : decode cL_law 435 = .ok (.aload_n 0, 1) := by decide +kernel
theorem dL_law_436 : decode cL_law 436 = .ok (.iload_n 3, 1) := by decide +kernel
theorem dL_law_437 : decode cL_law 437 = .ok (.iconst 2, 1) := by decide +kernel
theorem dL_law_438 : decode cL_law 438 = .ok (.iadd, 1) := by decide +kernel
theorem dL_law_439 : decode cL_law 439 = .ok (.iaload, 1) := by decide +kernel
theorem dL_law_440 : decode cL_law 440 = .ok (.aload_n 0, 1) := by decide +kernel
theorem dL_law_441 : decode cL_law 441 = .ok (.iload_n 3, 1) := by decide +kernel
theorem dL_law_442 : decode cL_law 442 = .ok (.iconst 3, 1) := by decide +kernel
theorem dL_law_443 : decode cL_law 443 = .ok (.iadd, 1) := by decide +kernel
theorem dL_law_444 : decode cL_law 444 = .ok (.iaload, 1) := by decide +kernel
theorem dL_law_445 : decode cL_law 445 = .ok (.invokevirtual 52, 3) := by decide +kernel
theorem dL_law_448 : decode cL_law 448 = .ok (.if_icmp .eq 246, 3) := by decide +kernel
theorem dL_law_451 : decode cL_law 451 = .ok (.iconst 0, 1) := by decide +kernel
theorem dL_law_452 : decode cL_law 452 = .ok (.ireturn, 1) := by decide +kernel
theorem dL_law_453 : decode cL_law 453 = .ok (.aload_n 1, 1) := by decide +kernel
theorem dL_law_454 : decode cL_law 454 = .ok (.aload_n 0, 1) := by decide +kernel
theorem dL_law_455 : decode cL_law 455 = .ok (.iload_n 3, 1) := by decide +kernel
theorem dL_law_456 : decode cL_law 456 = .ok (.iconst 1, 1) := by decide +kernel
theorem dL_law_457 : decode cL_law 457 = .ok (.iadd, 1) := by decide +kernel
theorem dL_law_458 : decode cL_law 458 = .ok (.iaload, 1) := by decide +kernel
theorem dL_law_459 : decode cL_law 459 = .ok (.invokevirtual 53, 3) := by decide +kernel
theorem dL_law_462 : decode cL_law 462 = .ok (.aload_n 2, 1) := by decide +kernel
theorem dL_law_463 : decode cL_law 463 = .ok (.aload_n 0, 1) := by decide +kernel
theorem dL_law_464 : decode cL_law 464 = .ok (.iload_n 3, 1) := by decide +kernel
theorem dL_law_465 : decode cL_law 465 = .ok (.iconst 1, 1) := by decide +kernel
theorem dL_law_466 : decode cL_law 466 = .ok (.iadd, 1) := by decide +kernel
theorem dL_law_467 : decode cL_law 467 = .ok (.iaload, 1) := by decide +kernel
theorem dL_law_468 : decode cL_law 468 = .ok (.invokevirtual 57, 3) := by decide +kernel
theorem dL_law_471 : decode cL_law 471 = .ok (.lcmp, 1) := by decide +kernel
theorem dL_law_472 : decode cL_law 472 = .ok (.ifCond .eq 222, 3) := by decide +kernel
theorem dL_law_475 : decode cL_law 475 = .ok (.iconst 0, 1) := by decide +kernel
theorem dL_law_476 : decode cL_law 476 = .ok (.ireturn, 1) := by decide +kernel
theorem dL_law_477 : decode cL_law 477 = .ok (.aload_n 1, 1) := by decide +kernel
theorem dL_law_478 : decode cL_law 478 = .ok (.aload_n 0, 1) := by decide +kernel
theorem dL_law_479 : decode cL_law 479 = .ok (.iload_n 3, 1) := by decide +kernel
theorem dL_law_480 : decode cL_law 480 = .ok (.iconst 1, 1) := by decide +kernel
theorem dL_law_481 : decode cL_law 481 = .ok (.iadd, 1) := by decide +kernel
theorem dL_law_482 : decode cL_law 482 = .ok (.iaload, 1) := by decide +kernel
theorem dL_law_483 : decode cL_law 483 = .ok (.aload_n 0, 1) := by decide +kernel
theorem dL_law_484 : decode cL_law 484 = .ok (.iload_n 3, 1) := by decide +kernel
theorem dL_law_485 : decode cL_law 485 = .ok (.iconst 2, 1) := by decide +kernel
theorem dL_law_486 : decode cL_law 486 = .ok (.iadd, 1) := by decide +kernel
theorem dL_law_487 : decode cL_law 487 = .ok (.iaload, 1) := by decide +kernel
theorem dL_law_488 : decode cL_law 488 = .ok (.invokevirtual 58, 3) := by decide +kernel
theorem dL_law_491 : decode cL_law 491 = .ok (.aload_n 2, 1) := by decide +kernel
theorem dL_law_492 : decode cL_law 492 = .ok (.aload_n 0, 1) := by decide +kernel
theorem dL_law_493 : decode cL_law 493 = .ok (.iload_n 3, 1) := by decide +kernel
theorem dL_law_494 : decode cL_law 494 = .ok (.iconst 1, 1) := by decide +kernel
theorem dL_law_495 : decode cL_law 495 = .ok (.iadd, 1) := by decide +kernel
theorem dL_law_496 : decode cL_law 496 = .ok (.iaload, 1) := by decide +kernel
theorem dL_law_497 : decode cL_law 497 = .ok (.aload_n 0, 1) := by decide +kernel
theorem dL_law_498 : decode cL_law 498 = .ok (.iload_n 3, 1) := by decide +kernel
theorem dL_law_499 : decode cL_law 499 = .ok (.iconst 2, 1) := by decide +kernel
theorem dL_law_500 : decode cL_law 500 = .ok (.iadd, 1) := by decide +kernel
theorem dL_law_501 : decode cL_law 501 = .ok (.iaload, 1) := by decide +kernel
theorem dL_law_502 : decode cL_law 502 = .ok (.invokevirtual 61, 3) := by decide +kernel
theorem dL_law_505 : decode cL_law 505 = .ok (.if_icmp .eq 189, 3) := by decide +kernel
theorem dL_law_508 : decode cL_law 508 = .ok (.iconst 0, 1) := by decide +kernel
theorem dL_law_509 : decode cL_law 509 = .ok (.ireturn, 1) := by decide +kernel
theorem dL_law_510 : decode cL_law 510 = .ok (.aload_n 1, 1) := by decide +kernel
theorem dL_law_511 : decode cL_law 511 = .ok (.aload_n 0, 1) := by decide +kernel
theorem dL_law_512 : decode cL_law 512 = .ok (.iload_n 3, 1) := by decide +kernel
theorem dL_law_513 : decode cL_law 513 = .ok (.iconst 1, 1) := by decide +kernel
theorem dL_law_514 : decode cL_law 514 = .ok (.iadd, 1) := by decide +kernel
theorem dL_law_515 : decode cL_law 515 = .ok (.iaload, 1) := by decide +kernel
theorem dL_law_516 : decode cL_law 516 = .ok (.invokevirtual 62, 3) := by decide +kernel
theorem dL_law_519 : decode cL_law 519 = .ok (.aload_n 2, 1) := by decide +kernel
theorem dL_law_520 : decode cL_law 520 = .ok (.aload_n 0, 1) := by decide +kernel
theorem dL_law_521 : decode cL_law 521 = .ok (.iload_n 3, 1) := by decide +kernel
theorem dL_law_522 : decode cL_law 522 = .ok (.iconst 1, 1) := by decide +kernel
theorem dL_law_523 : decode cL_law 523 = .ok (.iadd, 1) := by decide +kernel
theorem dL_law_524 : decode cL_law 524 = .ok (.iaload, 1) := by decide +kernel
theorem dL_law_525 : decode cL_law 525 = .ok (.invokevirtual 65, 3) := by decide +kernel
theorem dL_law_528 : decode cL_law 528 = .ok (.if_icmp .eq 166, 3) := by decide +kernel
theorem dL_law_531 : decode cL_law 531 = .ok (.iconst 0, 1) := by decide +kernel
theorem dL_law_532 : decode cL_law 532 = .ok (.ireturn, 1) := by decide +kernel
theorem dL_law_533 : decode cL_law 533 = .ok (.aload_n 1, 1) := by decide +kernel
theorem dL_law_534 : decode cL_law 534 = .ok (.aload_n 0, 1) := by decide +kernel
theorem dL_law_535 : decode cL_law 535 = .ok (.iload_n 3, 1) := by decide +kernel
theorem dL_law_536 : decode cL_law 536 = .ok (.iconst 1, 1) := by decide +kernel
theorem dL_law_537 : decode cL_law 537 = .ok (.iadd, 1) := by decide +kernel
theorem dL_law_538 : decode cL_law 538 = .ok (.iaload, 1) := by decide +kernel
theorem dL_law_539 : decode cL_law 539 = .ok (.aload_n 0, 1) := by decide +kernel
theorem dL_law_540 : decode cL_law 540 = .ok (.iload_n 3, 1) := by decide +kernel
theorem dL_law_541 : decode cL_law 541 = .ok (.iconst 2, 1) := by decide +kernel
theorem dL_law_542 : decode cL_law 542 = .ok (.iadd, 1) := by decide +kernel
theorem dL_law_543 : decode cL_law 543 = .ok (.iaload, 1) := by decide +kernel
theorem dL_law_544 : decode cL_law 544 = .ok (.invokevirtual 66, 3) := by decide +kernel
theorem dL_law_547 : decode cL_law 547 = .ok (.aload_n 2, 1) := by decide +kernel
theorem dL_law_548 : decode cL_law 548 = .ok (.aload_n 0, 1) := by decide +kernel
theorem dL_law_549 : decode cL_law 549 = .ok (.iload_n 3, 1) := by decide +kernel
theorem dL_law_550 : decode cL_law 550 = .ok (.iconst 1, 1) := by decide +kernel
theorem dL_law_551 : decode cL_law 551 = .ok (.iadd, 1) := by decide +kernel
theorem dL_law_552 : decode cL_law 552 = .ok (.iaload, 1) := by decide +kernel
theorem dL_law_553 : decode cL_law 553 = .ok (.aload_n 0, 1) := by decide +kernel
theorem dL_law_554 : decode cL_law 554 = .ok (.iload_n 3, 1) := by decide +kernel
theorem dL_law_555 : decode cL_law 555 = .ok (.iconst 2, 1) := by decide +kernel
theorem dL_law_556 : decode cL_law 556 = .ok (.iadd, 1) := by decide +kernel
theorem dL_law_557 : decode cL_law 557 = .ok (.iaload, 1) := by decide +kernel
theorem dL_law_558 : decode cL_law 558 = .ok (.invokevirtual 69, 3) := by decide +kernel
theorem dL_law_561 : decode cL_law 561 = .ok (.if_icmp .eq 133, 3) := by decide +kernel
theorem dL_law_564 : decode cL_law 564 = .ok (.iconst 0, 1) := by decide +kernel
theorem dL_law_565 : decode cL_law 565 = .ok (.ireturn, 1) := by decide +kernel
theorem dL_law_566 : decode cL_law 566 = .ok (.aload_n 1, 1) := by decide +kernel
theorem dL_law_567 : decode cL_law 567 = .ok (.aload_n 0, 1) := by decide +kernel
theorem dL_law_568 : decode cL_law 568 = .ok (.iload_n 3, 1) := by decide +kernel
theorem dL_law_569 : decode cL_law 569 = .ok (.iconst 1, 1) := by decide +kernel
theorem dL_law_570 : decode cL_law 570 = .ok (.iadd, 1) := by decide +kernel
theorem dL_law_571 : decode cL_law 571 = .ok (.iaload, 1) := by decide +kernel
theorem dL_law_572 : decode cL_law 572 = .ok (.invokevirtual 70, 3) := by decide +kernel
theorem dL_law_575 : decode cL_law 575 = .ok (.aload_n 2, 1) := by decide +kernel
theorem dL_law_576 : decode cL_law 576 = .ok (.aload_n 0, 1) := by decide +kernel
theorem dL_law_577 : decode cL_law 577 = .ok (.iload_n 3, 1) := by decide +kernel
theorem dL_law_578 : decode cL_law 578 = .ok (.iconst 1, 1) := by decide +kernel
theorem dL_law_579 : decode cL_law 579 = .ok (.iadd, 1) := by decide +kernel
theorem dL_law_580 : decode cL_law 580 = .ok (.iaload, 1) := by decide +kernel
theorem dL_law_581 : decode cL_law 581 = .ok (.invokevirtual 73, 3) := by decide +kernel
theorem dL_law_584 : decode cL_law 584 = .ok (.if_icmp .eq 110, 3) := by decide +kernel
theorem dL_law_587 : decode cL_law 587 = .ok (.iconst 0, 1) := by decide +kernel
theorem dL_law_588 : decode cL_law 588 = .ok (.ireturn, 1) := by decide +kernel
theorem dL_law_589 : decode cL_law 589 = .ok (.aload_n 1, 1) := by decide +kernel
theorem dL_law_590 : decode cL_law 590 = .ok (.aload_n 0, 1) := by decide +kernel
theorem dL_law_591 : decode cL_law 591 = .ok (.iload_n 3, 1) := by decide +kernel
theorem dL_law_592 : decode cL_law 592 = .ok (.iconst 1, 1) := by decide +kernel
theorem dL_law_593 : decode cL_law 593 = .ok (.iadd, 1) := by decide +kernel
theorem dL_law_594 : decode cL_law 594 = .ok (.iaload, 1) := by decide +kernel
theorem dL_law_595 : decode cL_law 595 = .ok (.invokevirtual 74, 3) := by decide +kernel
theorem dL_law_598 : decode cL_law 598 = .ok (.aload_n 2, 1) := by decide +kernel
theorem dL_law_599 : decode cL_law 599 = .ok (.aload_n 0, 1) := by decide +kernel
theorem dL_law_600 : decode cL_law 600 = .ok (.iload_n 3, 1) := by decide +kernel
theorem dL_law_601 : decode cL_law 601 = .ok (.iconst 1, 1) := by decide +kernel
theorem dL_law_602 : decode cL_law 602 = .ok (.iadd, 1) := by decide +kernel
theorem dL_law_603 : decode cL_law 603 = .ok (.iaload, 1) := by decide +kernel
theorem dL_law_604 : decode cL_law 604 = .ok (.invokevirtual 77, 3) := by decide +kernel
theorem dL_law_607 : decode cL_law 607 = .ok (.if_icmp .eq 87, 3) := by decide +kernel
theorem dL_law_610 : decode cL_law 610 = .ok (.iconst 0, 1) := by decide +kernel
theorem dL_law_611 : decode cL_law 611 = .ok (.ireturn, 1) := by decide +kernel
theorem dL_law_612 : decode cL_law 612 = .ok (.aload_n 1, 1) := by decide +kernel
theorem dL_law_613 : decode cL_law 613 = .ok (.aload_n 0, 1) := by decide +kernel
theorem dL_law_614 : decode cL_law 614 = .ok (.iload_n 3, 1) := by decide +kernel
theorem dL_law_615 : decode cL_law 615 = .ok (.iconst 1, 1) := by decide +kernel
theorem dL_law_616 : decode cL_law 616 = .ok (.iadd, 1) := by decide +kernel
theorem dL_law_617 : decode cL_law 617 = .ok (.iaload, 1) := by decide +kernel
theorem dL_law_618 : decode cL_law 618 = .ok (.aload_n 0, 1) := by decide +kernel
theorem dL_law_619 : decode cL_law 619 = .ok (.iload_n 3, 1) := by decide +kernel
theorem dL_law_620 : decode cL_law 620 = .ok (.iconst 2, 1) := by decide +kernel
theorem dL_law_621 : decode cL_law 621 = .ok (.iadd, 1) := by decide +kernel
theorem dL_law_622 : decode cL_law 622 = .ok (.iaload, 1) := by decide +kernel
theorem dL_law_623 : decode cL_law 623 = .ok (.invokevirtual 78, 3) := by decide +kernel
theorem dL_law_626 : decode cL_law 626 = .ok (.aload_n 2, 1) := by decide +kernel
theorem dL_law_627 : decode cL_law 627 = .ok (.aload_n 0, 1) := by decide +kernel
theorem dL_law_628 : decode cL_law 628 = .ok (.iload_n 3, 1) := by decide +kernel
theorem dL_law_629 : decode cL_law 629 = .ok (.iconst 1, 1) := by decide +kernel
theorem dL_law_630 : decode cL_law 630 = .ok (.iadd, 1) := by decide +kernel
theorem dL_law_631 : decode cL_law 631 = .ok (.iaload, 1) := by decide +kernel
theorem dL_law_632 : decode cL_law 632 = .ok (.aload_n 0, 1) := by decide +kernel
theorem dL_law_633 : decode cL_law 633 = .ok (.iload_n 3, 1) := by decide +kernel
theorem dL_law_634 : decode cL_law 634 = .ok (.iconst 2, 1) := by decide +kernel
theorem dL_law_635 : decode cL_law 635 = .ok (.iadd, 1) := by decide +kernel
theorem dL_law_636 : decode cL_law 636 = .ok (.iaload, 1) := by decide +kernel
theorem dL_law_637 : decode cL_law 637 = .ok (.invokevirtual 81, 3) := by decide +kernel
theorem dL_law_640 : decode cL_law 640 = .ok (.if_icmp .eq 54, 3) := by decide +kernel
theorem dL_law_643 : decode cL_law 643 = .ok (.iconst 0, 1) := by decide +kernel
theorem dL_law_644 : decode cL_law 644 = .ok (.ireturn, 1) := by decide +kernel
theorem dL_law_645 : decode cL_law 645 = .ok (.aload_n 1, 1) := by decide +kernel
theorem dL_law_646 : decode cL_law 646 = .ok (.invokevirtual 82, 3) := by decide +kernel
theorem dL_law_649 : decode cL_law 649 = .ok (.aload_n 2, 1) := by decide +kernel
theorem dL_law_650 : decode cL_law 650 = .ok (.invokevirtual 86, 3) := by decide +kernel
theorem dL_law_653 : decode cL_law 653 = .ok (.if_icmp .eq 41, 3) := by decide +kernel
theorem dL_law_656 : decode cL_law 656 = .ok (.iconst 0, 1) := by decide +kernel
theorem dL_law_657 : decode cL_law 657 = .ok (.ireturn, 1) := by decide +kernel
theorem dL_law_658 : decode cL_law 658 = .ok (.aload_n 1, 1) := by decide +kernel
theorem dL_law_659 : decode cL_law 659 = .ok (.invokevirtual 87, 3) := by decide +kernel
theorem dL_law_662 : decode cL_law 662 = .ok (.aload_n 2, 1) := by decide +kernel
theorem dL_law_663 : decode cL_law 663 = .ok (.invokevirtual 90, 3) := by decide +kernel
theorem dL_law_666 : decode cL_law 666 = .ok (.if_icmp .eq 28, 3) := by decide +kernel
theorem dL_law_669 : decode cL_law 669 = .ok (.iconst 0, 1) := by decide +kernel
theorem dL_law_670 : decode cL_law 670 = .ok (.ireturn, 1) := by decide +kernel
theorem dL_law_671 : decode cL_law 671 = .ok (.aload_n 1, 1) := by decide +kernel
theorem dL_law_672 : decode cL_law 672 = .ok (.aload_n 0, 1) := by decide +kernel
theorem dL_law_673 : decode cL_law 673 = .ok (.iload_n 3, 1) := by decide +kernel
theorem dL_law_674 : decode cL_law 674 = .ok (.iconst 1, 1) := by decide +kernel
theorem dL_law_675 : decode cL_law 675 = .ok (.iadd, 1) := by decide +kernel
theorem dL_law_676 : decode cL_law 676 = .ok (.iaload, 1) := by decide +kernel
theorem dL_law_677 : decode cL_law 677 = .ok (.invokevirtual 91, 3) := by decide +kernel
theorem dL_law_680 : decode cL_law 680 = .ok (.aload_n 2, 1) := by decide +kernel
theorem dL_law_681 : decode cL_law 681 = .ok (.aload_n 0, 1) := by decide +kernel
theorem dL_law_682 : decode cL_law 682 = .ok (.iload_n 3, 1) := by decide +kernel
theorem dL_law_683 : decode cL_law 683 = .ok (.iconst 1, 1) := by decide +kernel
theorem dL_law_684 : decode cL_law 684 = .ok (.iadd, 1) := by decide +kernel
theorem dL_law_685 : decode cL_law 685 = .ok (.iaload, 1) := by decide +kernel
theorem dL_law_686 : decode cL_law 686 = .ok (.invokevirtual 94, 3) := by decide +kernel
theorem dL_law_689 : decode cL_law 689 = .ok (.if_icmp .eq 5, 3) := by decide +kernel
theorem dL_law_692 : decode cL_law 692 = .ok (.iconst 0, 1) := by decide +kernel
theorem dL_law_693 : decode cL_law 693 = .ok (.ireturn, 1) := by decide +kernel
theorem dL_law_694 : decode cL_law 694 = .ok (.iinc 3 7, 3) := by decide +kernel
theorem dL_law_697 : decode cL_law 697 = .ok (.goto (-679), 3) := by decide +kernel
theorem dL_law_700 : decode cL_law 700 = .ok (.iconst 1, 1) := by decide +kernel
theorem dL_law_701 : decode cL_law 701 = .ok (.ireturn, 1) := by decide +kernel
end
section
/-! THE MACHINE MADE SMALL. A memory is a partial map from addresses to objects and arrays, with the next free address; 'gJ' says: from this memory, at this place of this method, with these locals and this stack, the machine comes to a place where Q holds. One rule for each instruction; all that the kit wants of frames, rooms and words is inside. -/
/-- the words of the tables that a call hands on -/
def gW0 : List Cond := lw_tbl.filter goodWord
theorem gw_in {w : Cond} (h : w ∈ lw_tbl) (hg : goodWord w = true) : w ∈ gW0 := List.mem_filter.mpr ⟨h, hg⟩
theorem gw_sub {w : Cond} (h : w ∈ gW0) : w ∈ lw_tbl := (List.mem_filter.mp h).1
theorem gw_good {w : Cond} (h : w ∈ gW0) : goodWord w = true := (List.mem_filter.mp h).2
/-- the links to private members of nest mates -/
def gNest : List Cond := [(Jvm.Cond.methodLinkNest "AlertEngine" (11 : Nat) ({ cls := "AlertEngine$Tape", name := "<init>", desc := "()V" } : Jvm.MethodName) "AlertEngine"), (Jvm.Cond.methodLinkNest "AlertEngine" (18 : Nat) ({ cls := "AlertEngine$State", name := "<init>", desc := "()V" } : Jvm.MethodName) "AlertEngine"), (Jvm.Cond.fieldLinkNest "AlertEngine$Setup" (56 : Nat) "AlertEngine" "FIRST_SET" "[I" "AlertEngine"), (Jvm.Cond.methodLinkNest "AlertEngine$State" (20 : Nat) ({ cls := "AlertEngine$AlertStates", name := "<init>", desc := "()V" } : Jvm.MethodName) "AlertEngine"), (Jvm.Cond.methodLinkNest "AlertEngine$State" (27 : Nat) ({ cls := "AlertEngine$Groups", name := "<init>", desc := "()V" } : Jvm.MethodName) "AlertEngine"), (Jvm.Cond.methodLinkNest "AlertEngine$State" (34 : Nat) ({ cls := "AlertEngine$Log", name := "<init>", desc := "()V" } : Jvm.MethodName) "AlertEngine"), (Jvm.Cond.methodLinkNest "AlertEngine$Tape" (32 : Nat) ({ cls := "AlertEngine$Matchers", name := "<init>", desc := "()V" } : Jvm.MethodName) "AlertEngine"), (Jvm.Cond.fieldLinkNest "AlertEngine$Tape" (52 : Nat) "AlertEngine" "GREATEST_OF_LABEL" "[I" "AlertEngine"), (Jvm.Cond.fieldLinkNest "AlertEngine$Tape" (94 : Nat) "AlertEngine" "FIRST_SET" "[I" "AlertEngine"), (Jvm.Cond.methodLinkNest "AlertEngine$Rule" (1 : Nat) ({ cls := "AlertEngine$Entry", name := "<init>", desc := "()V" } : Jvm.MethodName) "AlertEngine"), (Jvm.Cond.methodLinkNest "AlertEngine$Silence" (1 : Nat) ({ cls := "AlertEngine$Entry", name := "<init>", desc := "()V" } : Jvm.MethodName) "AlertEngine"), (Jvm.Cond.methodLinkNest "AlertEngine$Inhibition" (1 : Nat) ({ cls := "AlertEngine$Entry", name := "<init>", desc := "()V" } : Jvm.MethodName) "AlertEngine"), (Jvm.Cond.methodLinkNest "AlertEngine$AlertStates" (34 : Nat) ({ cls := "AlertEngine", name := "has", desc := "(JI)Z" } : Jvm.MethodName) "AlertEngine"), (Jvm.Cond.fieldLinkNest "AlertEngine$Setup" (100 : Nat) "AlertEngine" "GREATEST_OF_LABEL" "[I" "AlertEngine"), (Jvm.Cond.methodLinkNest "AlertEngine$State" (142 : Nat) ({ cls := "AlertEngine", name := "has", desc := "(JI)Z" } : Jvm.MethodName) "AlertEngine")]
def gNw (U : State) : Prop := (∀ w ∈ gNest, va_Nw w U) ∧ va_AO RX6 U ∧ va_AO RX8 U ∧ va_AO RX3 U
theorem gNest_is : ∀ w ∈ gNest, (∃ a i b n d h, w = Cond.fieldLinkNest a i b n d h) ∨ (∃ a i x h, w = Cond.methodLinkNest a i x h) := by
  intro w hw
  simp only [gNest, List.mem_cons, List.not_mem_nil, or_false] at hw
  rcases hw with rfl | rfl | rfl | rfl | rfl | rfl | rfl | rfl | rfl | rfl | rfl | rfl | rfl | rfl | rfl <;> first | exact Or.inl ⟨_, _, _, _, _, _, rfl⟩ | exact Or.inr ⟨_, _, _, _, rfl⟩
theorem gNw_warm {s U : State} (hW : s.WarmedH U.vm) (h : gNw s) : gNw U := by
  refine ⟨fun w hw => ?_, h.2.1.moved hW.alike, h.2.2.1.moved hW.alike, h.2.2.2.moved hW.alike⟩
  have h1 := h.1 w hw
  rcases gNest_is w hw with ⟨_, _, _, _, _, _, rfl⟩ | ⟨_, _, _, _, rfl⟩
  · exact va_Nw.warmF hW h1
  · exact va_Nw.warmM hW h1
theorem gNw_same {s U : State} (hv : s.vm = U.vm) (h : gNw s) : gNw U := by
  have ha : s.vm.Alike U.vm := hv ▸ Vm.Alike.refl s.vm
  refine ⟨fun w hw => ?_, h.2.1.moved ha, h.2.2.1.moved ha, h.2.2.2.moved ha⟩
  have h1 := h.1 w hw
  rcases gNest_is w hw with ⟨_, _, _, _, _, _, rfl⟩ | ⟨_, _, _, _, rfl⟩ <;> exact va_Nw.same rfl hv h1
theorem gw_len : (k2_sels lw_privs).length = 53 := by decide +kernel
theorem gw_oi1 : Cond.instanceMethod objectInit ∈ gW0 := gw_in (List.mem_of_getElem? (i := 77) (by decide +kernel)) rfl
theorem gw_oi2 : Cond.code objectInit ⟨#[0xb1]⟩ 1 none ∈ gW0 := gw_in (List.mem_of_getElem? (i := 78) (by decide +kernel)) rfl
theorem gw_aI : Cond.arrayClass .int ∈ gW0 := gw_in (List.mem_of_getElem? (i := 101) (by decide +kernel)) rfl
theorem gw_aZ : Cond.arrayClass .boolean ∈ gW0 := gw_in (List.mem_of_getElem? (i := 163) (by decide +kernel)) rfl
theorem gw_aJ : Cond.arrayClass .long ∈ gW0 := gw_in (List.mem_of_getElem? (i := 164) (by decide +kernel)) rfl
theorem gw_ac1 : Cond.static arraycopyName ∈ gW0 := gw_in (List.mem_of_getElem? (i := 746) (by decide +kernel)) rfl
theorem gw_ac2 : Cond.native arraycopyName ∈ gW0 := gw_in (List.mem_of_getElem? (i := 747) (by decide +kernel)) rfl
theorem gw_ac3 : Cond.initialized "java/lang/System" ∈ gW0 := gw_in (List.mem_of_getElem? (i := 70) (by decide +kernel)) rfl
abbrev gE : Type := (Nat × vp_A) ⊕ (Nat × List Value)
abbrev gM : Type := (Nat → Option gE) × Nat
abbrev gG : Type := (Nat → ClassId) × (Nat → Nat → Nat) × (Nat → ClassId) × Nat × (Nat → Nat) × Nat × (Nat → Int32)
def gD (G : gG) : va_G := (G.1, G.2.1)
def gB (G : gG) : Nat := G.2.2.2.1
def gS (G : gG) : Nat → Nat := G.2.2.2.2.1
/-- the script: its length and its ints (its address: gS G 4) -/
def gSL (G : gG) : Nat := G.2.2.2.2.2.1
def gSX (G : gG) : Nat → Int32 := G.2.2.2.2.2.2
abbrev gTys (G : gG) : List (ClassId × FieldType) := [(G.2.2.1 0, .int), (G.2.2.1 1, .boolean), (G.2.2.1 2, .long), (G.2.2.1 3, .object RX6), (G.2.2.1 4, .object RX8), (G.2.2.1 5, .object RX3)]
def gCv (G : gG) (c : gE) : va_E := match c with
  | .inl x => .inl (G.2.2.1 x.1, x.2)
  | .inr o => .inr o
def gA (G : gG) : Nat → Prop := fun q => gB G ≤ q
abbrev gI (n : Nat) (f : Nat → Int32) : gE := .inl (0, n, .inl f)
abbrev gZ (n : Nat) (f : Nat → Int32) : gE := .inl (1, n, .inl f)
abbrev gL (n : Nat) (f : Nat → Int64) : gE := .inl (2, n, .inr (.inl f))
abbrev gR (t n : Nat) (f : Nat → Option Nat) : gE := .inl (t, n, .inr (.inr (.inr (.inr f))))
abbrev gO (ci : Nat) (fs : List Value) : gE := .inr (ci, fs)
def gW (G : gG) (M : gM) (H : Heap) : Prop := (∀ (q : Nat) (c : gE), M.1 q = some c → gB G ≤ q ∧ va_at (gD G) vwCl (q, gCv G c) H) ∧ gB G ≤ H.size ∧ H.size = M.2
def gUp (M : gM) (a : Nat) (c : gE) : gM := (fun q => if q = a then some c else M.1 q, M.2)
def gNew (M : gM) (c : gE) : gM := (fun q => if q = M.2 then some c else M.1 q, M.2 + 1)
theorem gW_lt {G : gG} {M : gM} {H : Heap} (h : gW G M H) {q : Nat} {c : gE} (hq : M.1 q = some c) : q < H.size := (h.1 q c hq).2.lt
theorem gW_up {G : gG} {M : gM} {H H1 : Heap} {a : Nat} {c0 c : gE} (h : gW G M H) (h0 : M.1 a = some c0) (hc : va_at (gD G) vwCl (a, gCv G c) H1) (z : H1.size = H.size) (oq : ∀ q : Nat, q ≠ a → H1[q]? = H[q]?) : gW G (gUp M a c) H1 := by
  refine ⟨fun q c1 hq => ?_, by rw [z]; exact h.2.1, by rw [z]; exact h.2.2⟩
  by_cases e : q = a
  · subst e
    simp only [gUp, if_true] at hq
    cases hq
    exact ⟨(h.1 q c0 h0).1, hc⟩
  · simp only [gUp, if_neg e] at hq
    exact ⟨(h.1 q c1 hq).1, (h.1 q c1 hq).2.kept (oq q e)⟩
theorem gW_new {G : gG} {M : gM} {H H1 : Heap} {c : gE} (h : gW G M H) (hc : va_at (gD G) vwCl (H.size, gCv G c) H1) (z : H1.size = H.size + 1) (oq : ∀ q : Nat, q < H.size → H1[q]? = H[q]?) : gW G (gNew M c) H1 := by
  refine ⟨fun q c1 hq => ?_, by rw [z]; exact Nat.le_succ_of_le h.2.1, by rw [z, h.2.2]; rfl⟩
  by_cases e : q = M.2
  · subst e
    simp only [gNew, if_true] at hq
    cases hq
    rw [← h.2.2]
    exact ⟨h.2.1, hc⟩
  · simp only [gNew, if_neg e] at hq
    exact ⟨(h.1 q c1 hq).1, (h.1 q c1 hq).2.kept (oq q (gW_lt h hq))⟩
theorem gW_one {G : gG} {M : gM} {H : Heap} (h : gW G M H) {a : Nat} {c : gE} (hc : M.1 a = some c) : va_P (gD G) vwCl [(a, gCv G c)] H := by
  intro k q hk
  have hz : k < 1 := (List.getElem?_eq_some_iff.mp hk).1
  rw [show k = 0 by omega] at hk
  cases hk
  exact (h.1 a c hc).2
/-- the static arrays: their names, lengths and values -/
def gSt (i : Nat) : String × Nat × (Nat → Int32) := match i with
  | 0 => ("FIRST_SET", 4, fun j => match j with | 0 => 0 | 1 => 4 | 2 => 12 | _ => 16)
  | 1 => ("GREATEST_OF_LABEL", 4, fun j => match j with | 0 => 3 | 1 => 7 | 2 => 3 | _ => 3)
  | 2 => ("LEAST", 5, fun j => match j with | 0 => 1 | 1 => 1 | 2 => 1 | 3 => 2 | _ => 0)
  | _ => ("GREATEST", 5, fun j => match j with | 0 => 60 | 1 => 999 | 2 => 999 | 3 => 20 | _ => 7)
def gStat (G : gG) (U : State) (H : Heap) : Prop := va_T .int (gS G 4) (gSL G) (fun j => .int (gSX G j)) (gA G) U H ∧ ∀ i : Nat, i < 4 → va_Z RX11 (gSt i).1 "[I" (.ref (gS G i)) (gA G) U H ∧ va_T .int (gS G i) (gSt i).2.1 (fun j => .int ((gSt i).2.2 j)) (gA G) U H
def gCtx (G : gG) (k : gMd) (p : Program) (s : State) (m : MethodId) (args : Array Value) (meth : Method) (c : Code) : Prop :=
  p.tables.exec = Jvm.exec ∧ c.code = k.2.1 ∧ c.maxLocals = k.2.2.1 ∧ s.vm.findClass k.1.cls = some m.cls ∧ (∀ w ∈ gW0, w.before args s = true) ∧ va_K (gD G) vwCl (gTys G) s ∧ gStat G s s.heap ∧ gB G ≤ s.heap.size ∧ meth.name = k.1.name ∧ gNw s
abbrev gP : Type := gM → Nat → List (Nat × Value) → List Value → Prop
def gJ (G : gG) (k : gMd) (d nc ns : Nat) (M : gM) (pc : Nat) (lv : List (Nat × Value)) (st : List Value) (Q : gP) : Prop :=
  ∀ (p : Program) (l : Launch) (e : Env) (R : Room) (s : State) (m : MethodId) (args : Array Value) (below : List Frame) (meth : Method) (c : Code) (H : Heap) (locs : List Loc) (cells slots : Nat) (Z : State → Prop) (ls : Array Slot),
    gCtx G k p s m args meth c → gW G M H → va_S (gA G) s.heap H locs → lv_has ls k.2.2.1 lv → d ≤ R.frames → 39 * d ≤ R.locals → cells + nc ≤ R.cells → slots + ns ≤ R.slots →
    (∀ (M' : gM) (pc' : Nat) (lv' : List (Nat × Value)) (st' : List Value) (H' : Heap) (locs' : List Loc) (cells' slots' : Nat) (ls' : Array Slot), Q M' pc' lv' st' → gW G M' H' → va_S (gA G) s.heap H' locs' → lv_has ls' k.2.2.1 lv' → cells' ≤ cells + nc → slots' ≤ slots + ns →
      W p l e R s m args below meth c H' locs' cells' slots' Z (F0 m pc' ls' st')) →
    W p l e R s m args below meth c H locs cells slots Z (F0 m pc ls st)
theorem gJ_done {G : gG} {k : gMd} {d nc ns : Nat} {M : gM} {pc : Nat} {lv : List (Nat × Value)} {st : List Value} {Q : gP} (h : Q M pc lv st) : gJ G k d nc ns M pc lv st Q := by
  intro p l e R s m args below meth c H locs cells slots Z ls C hw hs hl h1 h2 h3 h4 K
  exact K M pc lv st H locs cells slots ls h hw hs hl (Nat.le_add_right _ _) (Nat.le_add_right _ _)
theorem gJ_cut {G : gG} {k : gMd} {d a1 a2 b1 b2 : Nat} {M : gM} {pc : Nat} {lv : List (Nat × Value)} {st : List Value} {Q1 Q : gP} (h : gJ G k d a1 a2 M pc lv st Q1) (h2 : ∀ M' pc' lv' st', Q1 M' pc' lv' st' → gJ G k d b1 b2 M' pc' lv' st' Q) : gJ G k d (a1 + b1) (a2 + b2) M pc lv st Q := by
  intro p l e R s m args below meth c H locs cells slots Z ls C hw hs hl h3 h4 h5 h6 K
  refine h p l e R s m args below meth c H locs cells slots Z ls C hw hs hl h3 h4 (by omega) (by omega) ?_
  intro M' pc' lv' st' H' locs' cells' slots' ls' q1 q2 q3 q4 q5 q6
  refine h2 M' pc' lv' st' q1 p l e R s m args below meth c H' locs' cells' slots' Z ls' C q2 q3 q4 h3 h4 (by omega) (by omega) ?_
  intro M'' pc'' lv'' st'' H'' locs'' cells'' slots'' ls'' r1 r2 r3 r4 r5 r6
  exact K M'' pc'' lv'' st'' H'' locs'' cells'' slots'' ls'' r1 r2 r3 r4 (by omega) (by omega)
theorem gJ_mono {G : gG} {k : gMd} {d d' nc ns nc' ns' : Nat} {M : gM} {pc : Nat} {lv : List (Nat × Value)} {st : List Value} {Q : gP} (h : gJ G k d nc ns M pc lv st Q) (hd : d ≤ d') (h1 : nc ≤ nc') (h2 : ns ≤ ns') : gJ G k d' nc' ns' M pc lv st Q := by
  intro p l e R s m args below meth c H locs cells slots Z ls C hw hs hl h3 h4 h5 h6 K
  refine h p l e R s m args below meth c H locs cells slots Z ls C hw hs hl (by omega) (by omega) (by omega) (by omega) ?_
  intro M' pc' lv' st' H' locs' cells' slots' ls' q1 q2 q3 q4 q5 q6
  exact K M' pc' lv' st' H' locs' cells' slots' ls' q1 q2 q3 q4 (by omega) (by omega)
/-- fewer locals -/
theorem gJ_lv {G : gG} {k : gMd} {d nc ns : Nat} {M : gM} {pc : Nat} {lv lv' : List (Nat × Value)} {st : List Value} {Q : gP} (hl : ∀ q ∈ lv', q ∈ lv) (h : gJ G k d nc ns M pc lv' st Q) : gJ G k d nc ns M pc lv st Q := by
  intro p l e R s m args below meth c H locs cells slots Z ls C hw hs hl' h1 h2 h3 h4 K
  exact h p l e R s m args below meth c H locs cells slots Z ls C hw hs ⟨hl'.1, hl'.2.1, fun q hq => hl'.2.2 q (hl q hq)⟩ h1 h2 h3 h4 K
/-- locals: what place i holds -/
def gAt (lv : List (Nat × Value)) (i : Nat) : Option Value := match lv with
  | [] => none
  | q :: r => if q.1 = i then some q.2 else gAt r i
theorem gAt_mem {lv : List (Nat × Value)} {i : Nat} {v : Value} (h : gAt lv i = some v) : (i, v) ∈ lv := by
  induction lv with
  | nil => cases h
  | cons q r ih =>
    unfold gAt at h
    by_cases e : q.1 = i
    · rw [if_pos e] at h
      cases h
      subst e
      exact List.mem_cons_self
    · rw [if_neg e] at h
      exact List.mem_cons_of_mem _ (ih h)
def gF1 (i : Nat) (lv : List (Nat × Value)) : List (Nat × Value) := lv.filter (fun q => !(q.1 == i) && !(q.1 + 1 == i && q.2.category == 2))
def gF2 (i : Nat) (lv : List (Nat × Value)) : List (Nat × Value) := lv.filter (fun q => !(q.1 == i) && (!(q.1 == i + 1) && !(q.1 + 1 == i && q.2.category == 2)))
section GJ
variable {G : gG} {k : gMd} {d nc ns : Nat} {M : gM} {pc : Nat} {lv lv2 : List (Nat × Value)} {st : List Value} {Q : gP}
theorem gJ_iconst {n : Int} {v : Int32} (hd : decode k.2.1 pc = .ok (.iconst n, 1)) (hv : Int32.ofInt n = v) (kk : gJ G k d nc ns M (pc + 1) lv (.int v :: st) Q) : gJ G k d nc ns M pc lv (st) Q := by
  intro p l e R s m args below meth c H locs cells slots Z ls C hw hs hl h1 h2 h3 h4 K
  exact lv_iconst C.1 C.2.1 hd hv (kk p l e R s m args below meth c H locs cells slots Z ls C hw hs hl h1 h2 h3 h4 K)
theorem gJ_bipush {n : Int} {v : Int32} (hd : decode k.2.1 pc = .ok (.bipush n, 2)) (hv : (Int8.ofInt n).toInt32 = v) (kk : gJ G k d nc ns M (pc + 2) lv (.int v :: st) Q) : gJ G k d nc ns M pc lv (st) Q := by
  intro p l e R s m args below meth c H locs cells slots Z ls C hw hs hl h1 h2 h3 h4 K
  exact lv_bipush C.1 C.2.1 hd hv (kk p l e R s m args below meth c H locs cells slots Z ls C hw hs hl h1 h2 h3 h4 K)
theorem gJ_sipush {n : Int} {v : Int32} (hd : decode k.2.1 pc = .ok (.sipush n, 3)) (hv : (Int16.ofInt n).toInt32 = v) (kk : gJ G k d nc ns M (pc + 3) lv (.int v :: st) Q) : gJ G k d nc ns M pc lv (st) Q := by
  intro p l e R s m args below meth c H locs cells slots Z ls C hw hs hl h1 h2 h3 h4 K
  exact lv_sipush C.1 C.2.1 hd hv (kk p l e R s m args below meth c H locs cells slots Z ls C hw hs hl h1 h2 h3 h4 K)
theorem gJ_lconst {n : Fin 2} {v : Int64} (hd : decode k.2.1 pc = .ok (.lconst n, 1)) (hv : Int64.ofNat (n : Nat) = v) (kk : gJ G k d nc ns M (pc + 1) lv (.long v :: st) Q) : gJ G k d nc ns M pc lv (st) Q := by
  intro p l e R s m args below meth c H locs cells slots Z ls C hw hs hl h1 h2 h3 h4 K
  exact lv_lconst C.1 C.2.1 hd hv (kk p l e R s m args below meth c H locs cells slots Z ls C hw hs hl h1 h2 h3 h4 K)
theorem gJ_null (hd : decode k.2.1 pc = .ok (.aconst_null, 1)) (kk : gJ G k d nc ns M (pc + 1) lv (.null :: st) Q) : gJ G k d nc ns M pc lv (st) Q := by
  intro p l e R s m args below meth c H locs cells slots Z ls C hw hs hl h1 h2 h3 h4 K
  exact lv_null C.1 C.2.1 hd (kk p l e R s m args below meth c H locs cells slots Z ls C hw hs hl h1 h2 h3 h4 K)
theorem gJ_ldc {i : Nat} {v : Int32} (hd : decode k.2.1 pc = .ok (.ldc i, 2)) (hc : Cond.constant k.1.cls i v ∈ gW0) (kk : gJ G k d nc ns M (pc + 2) lv (.int v :: st) Q) : gJ G k d nc ns M pc lv (st) Q := by
  intro p l e R s m args below meth c H locs cells slots Z ls C hw hs hl h1 h2 h3 h4 K
  exact lv_ldc C.1 C.2.1 C.2.2.2.1 (C.2.2.2.2.1 _ hc) hd (kk p l e R s m args below meth c H locs cells slots Z ls C hw hs hl h1 h2 h3 h4 K)
theorem gJ_ldcw {i : Nat} {v : Int32} (hd : decode k.2.1 pc = .ok (.ldc_w i, 3)) (hc : Cond.constant k.1.cls i v ∈ gW0) (kk : gJ G k d nc ns M (pc + 3) lv (.int v :: st) Q) : gJ G k d nc ns M pc lv (st) Q := by
  intro p l e R s m args below meth c H locs cells slots Z ls C hw hs hl h1 h2 h3 h4 K
  exact lv_ldcw C.1 C.2.1 C.2.2.2.1 (C.2.2.2.2.1 _ hc) hd (kk p l e R s m args below meth c H locs cells slots Z ls C hw hs hl h1 h2 h3 h4 K)
theorem gJ_ldc2 {i : Nat} {v : Int64} (hd : decode k.2.1 pc = .ok (.ldc2_w i, 3)) (hc : Cond.constantLong k.1.cls i v ∈ gW0) (kk : gJ G k d nc ns M (pc + 3) lv (.long v :: st) Q) : gJ G k d nc ns M pc lv (st) Q := by
  intro p l e R s m args below meth c H locs cells slots Z ls C hw hs hl h1 h2 h3 h4 K
  exact lv_ldc2 C.1 C.2.1 C.2.2.2.1 (C.2.2.2.2.1 _ hc) hd (kk p l e R s m args below meth c H locs cells slots Z ls C hw hs hl h1 h2 h3 h4 K)
theorem gJ_iload_n {j : Fin 4} {i : Nat} {x : Int32} (hd : decode k.2.1 pc = .ok (.iload_n j, 1)) (hi : (j : Nat) = i) (hg : gAt lv i = some (.int x)) (kk : gJ G k d nc ns M (pc + 1) lv (.int x :: st) Q) : gJ G k d nc ns M pc lv (st) Q := by
  intro p l e R s m args below meth c H locs cells slots Z ls C hw hs hl h1 h2 h3 h4 K
  exact lv_iload_n C.1 C.2.1 hd hi (hl.2.2 _ (gAt_mem hg)) (kk p l e R s m args below meth c H locs cells slots Z ls C hw hs hl h1 h2 h3 h4 K)
theorem gJ_iload {i : Nat} {x : Int32} (hd : decode k.2.1 pc = .ok (.iload i, 2)) (hg : gAt lv i = some (.int x)) (kk : gJ G k d nc ns M (pc + 2) lv (.int x :: st) Q) : gJ G k d nc ns M pc lv (st) Q := by
  intro p l e R s m args below meth c H locs cells slots Z ls C hw hs hl h1 h2 h3 h4 K
  exact lv_iload C.1 C.2.1 hd (hl.2.2 _ (gAt_mem hg)) (kk p l e R s m args below meth c H locs cells slots Z ls C hw hs hl h1 h2 h3 h4 K)
theorem gJ_lload_n {j : Fin 4} {i : Nat} {x : Int64} (hd : decode k.2.1 pc = .ok (.lload_n j, 1)) (hi : (j : Nat) = i) (hg : gAt lv i = some (.long x)) (kk : gJ G k d nc ns M (pc + 1) lv (.long x :: st) Q) : gJ G k d nc ns M pc lv (st) Q := by
  intro p l e R s m args below meth c H locs cells slots Z ls C hw hs hl h1 h2 h3 h4 K
  exact lv_lload_n C.1 C.2.1 hd hi (hl.2.2 _ (gAt_mem hg)) (kk p l e R s m args below meth c H locs cells slots Z ls C hw hs hl h1 h2 h3 h4 K)
theorem gJ_lload {i : Nat} {x : Int64} (hd : decode k.2.1 pc = .ok (.lload i, 2)) (hg : gAt lv i = some (.long x)) (kk : gJ G k d nc ns M (pc + 2) lv (.long x :: st) Q) : gJ G k d nc ns M pc lv (st) Q := by
  intro p l e R s m args below meth c H locs cells slots Z ls C hw hs hl h1 h2 h3 h4 K
  exact lv_lload C.1 C.2.1 hd (hl.2.2 _ (gAt_mem hg)) (kk p l e R s m args below meth c H locs cells slots Z ls C hw hs hl h1 h2 h3 h4 K)
theorem gJ_aload_n {j : Fin 4} {i : Nat} {x : Nat} (hd : decode k.2.1 pc = .ok (.aload_n j, 1)) (hi : (j : Nat) = i) (hg : gAt lv i = some (.ref x)) (kk : gJ G k d nc ns M (pc + 1) lv (.ref x :: st) Q) : gJ G k d nc ns M pc lv (st) Q := by
  intro p l e R s m args below meth c H locs cells slots Z ls C hw hs hl h1 h2 h3 h4 K
  exact lv_aload_n C.1 C.2.1 hd hi (hl.2.2 _ (gAt_mem hg)) (kk p l e R s m args below meth c H locs cells slots Z ls C hw hs hl h1 h2 h3 h4 K)
theorem gJ_aload {i : Nat} {x : Nat} (hd : decode k.2.1 pc = .ok (.aload i, 2)) (hg : gAt lv i = some (.ref x)) (kk : gJ G k d nc ns M (pc + 2) lv (.ref x :: st) Q) : gJ G k d nc ns M pc lv (st) Q := by
  intro p l e R s m args below meth c H locs cells slots Z ls C hw hs hl h1 h2 h3 h4 K
  exact lv_aload C.1 C.2.1 hd (hl.2.2 _ (gAt_mem hg)) (kk p l e R s m args below meth c H locs cells slots Z ls C hw hs hl h1 h2 h3 h4 K)
theorem gJ_aload_nN {j : Fin 4} {i : Nat} (hd : decode k.2.1 pc = .ok (.aload_n j, 1)) (hi : (j : Nat) = i) (hg : gAt lv i = some .null) (kk : gJ G k d nc ns M (pc + 1) lv (.null :: st) Q) : gJ G k d nc ns M pc lv (st) Q := by
  intro p l e R s m args below meth c H locs cells slots Z ls C hw hs hl h1 h2 h3 h4 K
  exact lv_aload_nN C.1 C.2.1 hd hi (hl.2.2 _ (gAt_mem hg)) (kk p l e R s m args below meth c H locs cells slots Z ls C hw hs hl h1 h2 h3 h4 K)
theorem gJ_aloadN {i : Nat} (hd : decode k.2.1 pc = .ok (.aload i, 2)) (hg : gAt lv i = some .null) (kk : gJ G k d nc ns M (pc + 2) lv (.null :: st) Q) : gJ G k d nc ns M pc lv (st) Q := by
  intro p l e R s m args below meth c H locs cells slots Z ls C hw hs hl h1 h2 h3 h4 K
  exact lv_aloadN C.1 C.2.1 hd (hl.2.2 _ (gAt_mem hg)) (kk p l e R s m args below meth c H locs cells slots Z ls C hw hs hl h1 h2 h3 h4 K)
theorem gJ_istore_n {j : Fin 4} {i : Nat} {x : Int32} (hd : decode k.2.1 pc = .ok (.istore_n j, 1)) (hi : (j : Nat) = i) (hn : decide (i < k.2.2.1) = true) (h2 : (i, .int x) :: gF1 i lv = lv2) (kk : gJ G k d nc ns M (pc + 1) lv2 st Q) : gJ G k d nc ns M pc lv (.int x :: st) Q := by
  intro p l e R s m args below meth c H locs cells slots Z ls C hw hs hl h1 h2_ h3 h4 K
  exact lv_istore_n C.1 C.2.1 hd hi hl (of_decide_eq_true hn) h2 (fun ls hl => kk p l e R s m args below meth c H locs cells slots Z ls C hw hs hl h1 h2_ h3 h4 K)
theorem gJ_istore {i : Nat} {x : Int32} (hd : decode k.2.1 pc = .ok (.istore i, 2)) (hn : decide (i < k.2.2.1) = true) (h2 : (i, .int x) :: gF1 i lv = lv2) (kk : gJ G k d nc ns M (pc + 2) lv2 st Q) : gJ G k d nc ns M pc lv (.int x :: st) Q := by
  intro p l e R s m args below meth c H locs cells slots Z ls C hw hs hl h1 h2_ h3 h4 K
  exact lv_istore C.1 C.2.1 hd hl (of_decide_eq_true hn) h2 (fun ls hl => kk p l e R s m args below meth c H locs cells slots Z ls C hw hs hl h1 h2_ h3 h4 K)
theorem gJ_lstore_n {j : Fin 4} {i : Nat} {x : Int64} (hd : decode k.2.1 pc = .ok (.lstore_n j, 1)) (hi : (j : Nat) = i) (hn : decide (i + 1 < k.2.2.1) = true) (h2 : (i, .long x) :: gF2 i lv = lv2) (kk : gJ G k d nc ns M (pc + 1) lv2 st Q) : gJ G k d nc ns M pc lv (.long x :: st) Q := by
  intro p l e R s m args below meth c H locs cells slots Z ls C hw hs hl h1 h2_ h3 h4 K
  exact lv_lstore_n C.1 C.2.1 hd hi hl (of_decide_eq_true hn) h2 (fun ls hl => kk p l e R s m args below meth c H locs cells slots Z ls C hw hs hl h1 h2_ h3 h4 K)
theorem gJ_lstore {i : Nat} {x : Int64} (hd : decode k.2.1 pc = .ok (.lstore i, 2)) (hn : decide (i + 1 < k.2.2.1) = true) (h2 : (i, .long x) :: gF2 i lv = lv2) (kk : gJ G k d nc ns M (pc + 2) lv2 st Q) : gJ G k d nc ns M pc lv (.long x :: st) Q := by
  intro p l e R s m args below meth c H locs cells slots Z ls C hw hs hl h1 h2_ h3 h4 K
  exact lv_lstore C.1 C.2.1 hd hl (of_decide_eq_true hn) h2 (fun ls hl => kk p l e R s m args below meth c H locs cells slots Z ls C hw hs hl h1 h2_ h3 h4 K)
theorem gJ_astore_n {j : Fin 4} {i : Nat} {x : Nat} (hd : decode k.2.1 pc = .ok (.astore_n j, 1)) (hi : (j : Nat) = i) (hn : decide (i < k.2.2.1) = true) (h2 : (i, .ref x) :: gF1 i lv = lv2) (kk : gJ G k d nc ns M (pc + 1) lv2 st Q) : gJ G k d nc ns M pc lv (.ref x :: st) Q := by
  intro p l e R s m args below meth c H locs cells slots Z ls C hw hs hl h1 h2_ h3 h4 K
  exact lv_astore_n C.1 C.2.1 hd hi hl (of_decide_eq_true hn) h2 (fun ls hl => kk p l e R s m args below meth c H locs cells slots Z ls C hw hs hl h1 h2_ h3 h4 K)
theorem gJ_astore {i : Nat} {x : Nat} (hd : decode k.2.1 pc = .ok (.astore i, 2)) (hn : decide (i < k.2.2.1) = true) (h2 : (i, .ref x) :: gF1 i lv = lv2) (kk : gJ G k d nc ns M (pc + 2) lv2 st Q) : gJ G k d nc ns M pc lv (.ref x :: st) Q := by
  intro p l e R s m args below meth c H locs cells slots Z ls C hw hs hl h1 h2_ h3 h4 K
  exact lv_astore C.1 C.2.1 hd hl (of_decide_eq_true hn) h2 (fun ls hl => kk p l e R s m args below meth c H locs cells slots Z ls C hw hs hl h1 h2_ h3 h4 K)
theorem gJ_astore_nN {j : Fin 4} {i : Nat} (hd : decode k.2.1 pc = .ok (.astore_n j, 1)) (hi : (j : Nat) = i) (hn : decide (i < k.2.2.1) = true) (h2 : (i, Value.null) :: gF1 i lv = lv2) (kk : gJ G k d nc ns M (pc + 1) lv2 st Q) : gJ G k d nc ns M pc lv (Value.null :: st) Q := by
  intro p l e R s m args below meth c H locs cells slots Z ls C hw hs hl h1 h2_ h3 h4 K
  exact lv_astore_nN C.1 C.2.1 hd hi hl (of_decide_eq_true hn) h2 (fun ls hl => kk p l e R s m args below meth c H locs cells slots Z ls C hw hs hl h1 h2_ h3 h4 K)
theorem gJ_astoreN {i : Nat} (hd : decode k.2.1 pc = .ok (.astore i, 2)) (hn : decide (i < k.2.2.1) = true) (h2 : (i, Value.null) :: gF1 i lv = lv2) (kk : gJ G k d nc ns M (pc + 2) lv2 st Q) : gJ G k d nc ns M pc lv (Value.null :: st) Q := by
  intro p l e R s m args below meth c H locs cells slots Z ls C hw hs hl h1 h2_ h3 h4 K
  exact lv_astoreN C.1 C.2.1 hd hl (of_decide_eq_true hn) h2 (fun ls hl => kk p l e R s m args below meth c H locs cells slots Z ls C hw hs hl h1 h2_ h3 h4 K)
theorem gJ_iinc {i : Nat} {n : Int} {x v : Int32} (hd : decode k.2.1 pc = .ok (.iinc i n, 3)) (hg : gAt lv i = some (.int x)) (hv : x + Int32.ofInt n = v) (hn : decide (i < k.2.2.1) = true) (h2 : (i, .int v) :: gF1 i lv = lv2) (kk : gJ G k d nc ns M (pc + 3) lv2 st Q) : gJ G k d nc ns M pc lv (st) Q := by
  intro p l e R s m args below meth c H locs cells slots Z ls C hw hs hl h1 h2_ h3 h4 K
  obtain ⟨j, hj⟩ := List.getElem?_of_mem (gAt_mem hg)
  exact lv_iinc C.1 C.2.1 hd hl hj hv (of_decide_eq_true hn) h2 (fun ls hl => kk p l e R s m args below meth c H locs cells slots Z ls C hw hs hl h1 h2_ h3 h4 K)
theorem gJ_iadd {x y : Int32} (hd : decode k.2.1 pc = .ok (.iadd, 1)) (kk : gJ G k d nc ns M (pc + 1) lv (.int (x + y) :: st) Q) : gJ G k d nc ns M pc lv (.int y :: .int x :: st) Q := by
  intro p l e R s m args below meth c H locs cells slots Z ls C hw hs hl h1 h2 h3 h4 K
  exact lv_iadd C.1 C.2.1 hd (kk p l e R s m args below meth c H locs cells slots Z ls C hw hs hl h1 h2 h3 h4 K)
theorem gJ_isub {x y : Int32} (hd : decode k.2.1 pc = .ok (.isub, 1)) (kk : gJ G k d nc ns M (pc + 1) lv (.int (x - y) :: st) Q) : gJ G k d nc ns M pc lv (.int y :: .int x :: st) Q := by
  intro p l e R s m args below meth c H locs cells slots Z ls C hw hs hl h1 h2 h3 h4 K
  exact lv_isub C.1 C.2.1 hd (kk p l e R s m args below meth c H locs cells slots Z ls C hw hs hl h1 h2 h3 h4 K)
theorem gJ_imul {x y : Int32} (hd : decode k.2.1 pc = .ok (.imul, 1)) (kk : gJ G k d nc ns M (pc + 1) lv (.int (x * y) :: st) Q) : gJ G k d nc ns M pc lv (.int y :: .int x :: st) Q := by
  intro p l e R s m args below meth c H locs cells slots Z ls C hw hs hl h1 h2 h3 h4 K
  exact lv_imul C.1 C.2.1 hd (kk p l e R s m args below meth c H locs cells slots Z ls C hw hs hl h1 h2 h3 h4 K)
theorem gJ_iand {x y : Int32} (hd : decode k.2.1 pc = .ok (.iand, 1)) (kk : gJ G k d nc ns M (pc + 1) lv (.int (x &&& y) :: st) Q) : gJ G k d nc ns M pc lv (.int y :: .int x :: st) Q := by
  intro p l e R s m args below meth c H locs cells slots Z ls C hw hs hl h1 h2 h3 h4 K
  exact lv_iand C.1 C.2.1 hd (kk p l e R s m args below meth c H locs cells slots Z ls C hw hs hl h1 h2 h3 h4 K)
theorem gJ_ior {x y : Int32} (hd : decode k.2.1 pc = .ok (.ior, 1)) (kk : gJ G k d nc ns M (pc + 1) lv (.int (x ||| y) :: st) Q) : gJ G k d nc ns M pc lv (.int y :: .int x :: st) Q := by
  intro p l e R s m args below meth c H locs cells slots Z ls C hw hs hl h1 h2 h3 h4 K
  exact lv_ior C.1 C.2.1 hd (kk p l e R s m args below meth c H locs cells slots Z ls C hw hs hl h1 h2 h3 h4 K)
theorem gJ_ixor {x y : Int32} (hd : decode k.2.1 pc = .ok (.ixor, 1)) (kk : gJ G k d nc ns M (pc + 1) lv (.int (x ^^^ y) :: st) Q) : gJ G k d nc ns M pc lv (.int y :: .int x :: st) Q := by
  intro p l e R s m args below meth c H locs cells slots Z ls C hw hs hl h1 h2 h3 h4 K
  exact lv_ixor C.1 C.2.1 hd (kk p l e R s m args below meth c H locs cells slots Z ls C hw hs hl h1 h2 h3 h4 K)
theorem gJ_idiv {x y : Int32} (hd : decode k.2.1 pc = .ok (.idiv, 1)) (hy : ¬ y = 0) (kk : gJ G k d nc ns M (pc + 1) lv (.int (x / y) :: st) Q) : gJ G k d nc ns M pc lv (.int y :: .int x :: st) Q := by
  intro p l e R s m args below meth c H locs cells slots Z ls C hw hs hl h1 h2 h3 h4 K
  exact lv_idiv C.1 C.2.1 hd hy (kk p l e R s m args below meth c H locs cells slots Z ls C hw hs hl h1 h2 h3 h4 K)
theorem gJ_irem {x y : Int32} (hd : decode k.2.1 pc = .ok (.irem, 1)) (hy : ¬ y = 0) (kk : gJ G k d nc ns M (pc + 1) lv (.int (x - x / y * y) :: st) Q) : gJ G k d nc ns M pc lv (.int y :: .int x :: st) Q := by
  intro p l e R s m args below meth c H locs cells slots Z ls C hw hs hl h1 h2 h3 h4 K
  exact lv_irem C.1 C.2.1 hd hy (kk p l e R s m args below meth c H locs cells slots Z ls C hw hs hl h1 h2 h3 h4 K)
theorem gJ_ineg {x : Int32} (hd : decode k.2.1 pc = .ok (.ineg, 1)) (kk : gJ G k d nc ns M (pc + 1) lv (.int (-x) :: st) Q) : gJ G k d nc ns M pc lv (.int x :: st) Q := by
  intro p l e R s m args below meth c H locs cells slots Z ls C hw hs hl h1 h2 h3 h4 K
  exact lv_ineg C.1 C.2.1 hd (kk p l e R s m args below meth c H locs cells slots Z ls C hw hs hl h1 h2 h3 h4 K)
theorem gJ_ladd {x y : Int64} (hd : decode k.2.1 pc = .ok (.ladd, 1)) (kk : gJ G k d nc ns M (pc + 1) lv (.long (x + y) :: st) Q) : gJ G k d nc ns M pc lv (.long y :: .long x :: st) Q := by
  intro p l e R s m args below meth c H locs cells slots Z ls C hw hs hl h1 h2 h3 h4 K
  exact lv_ladd C.1 C.2.1 hd (kk p l e R s m args below meth c H locs cells slots Z ls C hw hs hl h1 h2 h3 h4 K)
theorem gJ_lsub {x y : Int64} (hd : decode k.2.1 pc = .ok (.lsub, 1)) (kk : gJ G k d nc ns M (pc + 1) lv (.long (x - y) :: st) Q) : gJ G k d nc ns M pc lv (.long y :: .long x :: st) Q := by
  intro p l e R s m args below meth c H locs cells slots Z ls C hw hs hl h1 h2 h3 h4 K
  exact lv_lsub C.1 C.2.1 hd (kk p l e R s m args below meth c H locs cells slots Z ls C hw hs hl h1 h2 h3 h4 K)
theorem gJ_land {x y : Int64} (hd : decode k.2.1 pc = .ok (.land, 1)) (kk : gJ G k d nc ns M (pc + 1) lv (.long (x &&& y) :: st) Q) : gJ G k d nc ns M pc lv (.long y :: .long x :: st) Q := by
  intro p l e R s m args below meth c H locs cells slots Z ls C hw hs hl h1 h2 h3 h4 K
  exact lv_land C.1 C.2.1 hd (kk p l e R s m args below meth c H locs cells slots Z ls C hw hs hl h1 h2 h3 h4 K)
theorem gJ_lor {x y : Int64} (hd : decode k.2.1 pc = .ok (.lor, 1)) (kk : gJ G k d nc ns M (pc + 1) lv (.long (x ||| y) :: st) Q) : gJ G k d nc ns M pc lv (.long y :: .long x :: st) Q := by
  intro p l e R s m args below meth c H locs cells slots Z ls C hw hs hl h1 h2 h3 h4 K
  exact lv_lor C.1 C.2.1 hd (kk p l e R s m args below meth c H locs cells slots Z ls C hw hs hl h1 h2 h3 h4 K)
theorem gJ_lxor {x y : Int64} (hd : decode k.2.1 pc = .ok (.lxor, 1)) (kk : gJ G k d nc ns M (pc + 1) lv (.long (x ^^^ y) :: st) Q) : gJ G k d nc ns M pc lv (.long y :: .long x :: st) Q := by
  intro p l e R s m args below meth c H locs cells slots Z ls C hw hs hl h1 h2 h3 h4 K
  exact lv_lxor C.1 C.2.1 hd (kk p l e R s m args below meth c H locs cells slots Z ls C hw hs hl h1 h2 h3 h4 K)
theorem gJ_ishl {x y : Int32} (hd : decode k.2.1 pc = .ok (.ishl, 1)) (kk : gJ G k d nc ns M (pc + 1) lv (.int (x <<< (y &&& 31)) :: st) Q) : gJ G k d nc ns M pc lv (.int y :: .int x :: st) Q := by
  intro p l e R s m args below meth c H locs cells slots Z ls C hw hs hl h1 h2 h3 h4 K
  exact lv_ishl C.1 C.2.1 hd (kk p l e R s m args below meth c H locs cells slots Z ls C hw hs hl h1 h2 h3 h4 K)
theorem gJ_ishr {x y : Int32} (hd : decode k.2.1 pc = .ok (.ishr, 1)) (kk : gJ G k d nc ns M (pc + 1) lv (.int (x >>> (y &&& 31)) :: st) Q) : gJ G k d nc ns M pc lv (.int y :: .int x :: st) Q := by
  intro p l e R s m args below meth c H locs cells slots Z ls C hw hs hl h1 h2 h3 h4 K
  exact lv_ishr C.1 C.2.1 hd (kk p l e R s m args below meth c H locs cells slots Z ls C hw hs hl h1 h2 h3 h4 K)
theorem gJ_iushr {x y : Int32} (hd : decode k.2.1 pc = .ok (.iushr, 1)) (kk : gJ G k d nc ns M (pc + 1) lv (.int (x.toUInt32 >>> (y.toUInt32 &&& Int32.toUInt32 31)).toInt32 :: st) Q) : gJ G k d nc ns M pc lv (.int y :: .int x :: st) Q := by
  intro p l e R s m args below meth c H locs cells slots Z ls C hw hs hl h1 h2 h3 h4 K
  exact lv_iushr C.1 C.2.1 hd rfl (kk p l e R s m args below meth c H locs cells slots Z ls C hw hs hl h1 h2 h3 h4 K)
theorem gJ_lushr {x : Int64} {y : Int32} (hd : decode k.2.1 pc = .ok (.lushr, 1)) (kk : gJ G k d nc ns M (pc + 1) lv (.long (x.toUInt64 >>> (y.toInt64.toUInt64 &&& Int64.toUInt64 63)).toInt64 :: st) Q) : gJ G k d nc ns M pc lv (.int y :: .long x :: st) Q := by
  intro p l e R s m args below meth c H locs cells slots Z ls C hw hs hl h1 h2 h3 h4 K
  exact lv_lushr C.1 C.2.1 hd rfl (kk p l e R s m args below meth c H locs cells slots Z ls C hw hs hl h1 h2 h3 h4 K)
theorem gJ_lshl {x : Int64} {y : Int32} (hd : decode k.2.1 pc = .ok (.lshl, 1)) (kk : gJ G k d nc ns M (pc + 1) lv (.long (x <<< (y.toInt64 &&& 63)) :: st) Q) : gJ G k d nc ns M pc lv (.int y :: .long x :: st) Q := by
  intro p l e R s m args below meth c H locs cells slots Z ls C hw hs hl h1 h2 h3 h4 K
  exact lv_lshl C.1 C.2.1 hd rfl (kk p l e R s m args below meth c H locs cells slots Z ls C hw hs hl h1 h2 h3 h4 K)
theorem gJ_lshr {x : Int64} {y : Int32} (hd : decode k.2.1 pc = .ok (.lshr, 1)) (kk : gJ G k d nc ns M (pc + 1) lv (.long (x >>> (y.toInt64 &&& 63)) :: st) Q) : gJ G k d nc ns M pc lv (.int y :: .long x :: st) Q := by
  intro p l e R s m args below meth c H locs cells slots Z ls C hw hs hl h1 h2 h3 h4 K
  exact lv_lshr C.1 C.2.1 hd rfl (kk p l e R s m args below meth c H locs cells slots Z ls C hw hs hl h1 h2 h3 h4 K)
theorem gJ_l2i {x : Int64} (hd : decode k.2.1 pc = .ok (.l2i, 1)) (kk : gJ G k d nc ns M (pc + 1) lv (.int x.toInt32 :: st) Q) : gJ G k d nc ns M pc lv (.long x :: st) Q := by
  intro p l e R s m args below meth c H locs cells slots Z ls C hw hs hl h1 h2 h3 h4 K
  exact lv_l2i C.1 C.2.1 hd rfl (kk p l e R s m args below meth c H locs cells slots Z ls C hw hs hl h1 h2 h3 h4 K)
theorem gJ_lcmp {x y : Int64} (hd : decode k.2.1 pc = .ok (.lcmp, 1)) (kk : gJ G k d nc ns M (pc + 1) lv (.int (lg_cmp x y) :: st) Q) : gJ G k d nc ns M pc lv (.long y :: .long x :: st) Q := by
  intro p l e R s m args below meth c H locs cells slots Z ls C hw hs hl h1 h2 h3 h4 K
  exact W.lcmp C.1 C.2.1 hd (kk p l e R s m args below meth c H locs cells slots Z ls C hw hs hl h1 h2 h3 h4 K)
theorem gJ_dup {a : Value} (hd : decode k.2.1 pc = .ok (.dup, 1)) (ha : a.category = 1) (kk : gJ G k d nc ns M (pc + 1) lv (a :: a :: st) Q) : gJ G k d nc ns M pc lv (a :: st) Q := by
  intro p l e R s m args below meth c H locs cells slots Z ls C hw hs hl h1 h2 h3 h4 K
  exact lv_dup C.1 C.2.1 hd ha (kk p l e R s m args below meth c H locs cells slots Z ls C hw hs hl h1 h2 h3 h4 K)
theorem gJ_pop {a : Value} (hd : decode k.2.1 pc = .ok (.pop, 1)) (ha : a.category = 1) (kk : gJ G k d nc ns M (pc + 1) lv st Q) : gJ G k d nc ns M pc lv (a :: st) Q := by
  intro p l e R s m args below meth c H locs cells slots Z ls C hw hs hl h1 h2 h3 h4 K
  exact lv_pop C.1 C.2.1 hd ha (kk p l e R s m args below meth c H locs cells slots Z ls C hw hs hl h1 h2 h3 h4 K)
theorem gJ_dup_x1 {a b : Value} (hd : decode k.2.1 pc = .ok (.dup_x1, 1)) (ha : a.category = 1) (hb : b.category = 1) (kk : gJ G k d nc ns M (pc + 1) lv (a :: b :: a :: st) Q) : gJ G k d nc ns M pc lv (a :: b :: st) Q := by
  intro p l e R s m args below meth c H locs cells slots Z ls C hw hs hl h1 h2 h3 h4 K
  exact lv_dup_x1 C.1 C.2.1 hd ha hb (kk p l e R s m args below meth c H locs cells slots Z ls C hw hs hl h1 h2 h3 h4 K)
theorem gJ_dup2 {a b : Value} (hd : decode k.2.1 pc = .ok (.dup2, 1)) (ha : a.category = 1) (hb : b.category = 1) (kk : gJ G k d nc ns M (pc + 1) lv (a :: b :: a :: b :: st) Q) : gJ G k d nc ns M pc lv (a :: b :: st) Q := by
  intro p l e R s m args below meth c H locs cells slots Z ls C hw hs hl h1 h2 h3 h4 K
  exact lv_dup2_11 C.1 C.2.1 hd ha hb (kk p l e R s m args below meth c H locs cells slots Z ls C hw hs hl h1 h2 h3 h4 K)
theorem gJ_if_eq {x : Int32} {off : Int} {tgt : Nat} (hd : decode k.2.1 pc = .ok (.ifCond .eq off, 3)) (ht : (pc : Int) + off = (tgt : Int)) (kt : x = 0 → gJ G k d nc ns M tgt lv st Q) (kf : ¬ x = 0 → gJ G k d nc ns M (pc + 3) lv st Q) : gJ G k d nc ns M pc lv (.int x :: st) Q := by
  intro p l e R s m args below meth c H locs cells slots Z ls C hw hs hl h1 h2 h3 h4 K
  exact lv_if_eq C.1 C.2.1 hd ht (fun hc => kt hc p l e R s m args below meth c H locs cells slots Z ls C hw hs hl h1 h2 h3 h4 K) (fun hc => kf hc p l e R s m args below meth c H locs cells slots Z ls C hw hs hl h1 h2 h3 h4 K)
theorem gJ_icmp_eq {x y : Int32} {off : Int} {tgt : Nat} (hd : decode k.2.1 pc = .ok (.if_icmp .eq off, 3)) (ht : (pc : Int) + off = (tgt : Int)) (kt : x = y → gJ G k d nc ns M tgt lv st Q) (kf : ¬ x = y → gJ G k d nc ns M (pc + 3) lv st Q) : gJ G k d nc ns M pc lv (.int y :: .int x :: st) Q := by
  intro p l e R s m args below meth c H locs cells slots Z ls C hw hs hl h1 h2 h3 h4 K
  exact lv_icmp_eq C.1 C.2.1 hd ht (fun hc => kt hc p l e R s m args below meth c H locs cells slots Z ls C hw hs hl h1 h2 h3 h4 K) (fun hc => kf hc p l e R s m args below meth c H locs cells slots Z ls C hw hs hl h1 h2 h3 h4 K)
theorem gJ_if_ne {x : Int32} {off : Int} {tgt : Nat} (hd : decode k.2.1 pc = .ok (.ifCond .ne off, 3)) (ht : (pc : Int) + off = (tgt : Int)) (kt : ¬ x = 0 → gJ G k d nc ns M tgt lv st Q) (kf : x = 0 → gJ G k d nc ns M (pc + 3) lv st Q) : gJ G k d nc ns M pc lv (.int x :: st) Q := by
  intro p l e R s m args below meth c H locs cells slots Z ls C hw hs hl h1 h2 h3 h4 K
  exact lv_if_ne C.1 C.2.1 hd ht (fun hc => kt hc p l e R s m args below meth c H locs cells slots Z ls C hw hs hl h1 h2 h3 h4 K) (fun hc => kf hc p l e R s m args below meth c H locs cells slots Z ls C hw hs hl h1 h2 h3 h4 K)
theorem gJ_icmp_ne {x y : Int32} {off : Int} {tgt : Nat} (hd : decode k.2.1 pc = .ok (.if_icmp .ne off, 3)) (ht : (pc : Int) + off = (tgt : Int)) (kt : ¬ x = y → gJ G k d nc ns M tgt lv st Q) (kf : x = y → gJ G k d nc ns M (pc + 3) lv st Q) : gJ G k d nc ns M pc lv (.int y :: .int x :: st) Q := by
  intro p l e R s m args below meth c H locs cells slots Z ls C hw hs hl h1 h2 h3 h4 K
  exact lv_icmp_ne C.1 C.2.1 hd ht (fun hc => kt hc p l e R s m args below meth c H locs cells slots Z ls C hw hs hl h1 h2 h3 h4 K) (fun hc => kf hc p l e R s m args below meth c H locs cells slots Z ls C hw hs hl h1 h2 h3 h4 K)
theorem gJ_if_lt {x : Int32} {off : Int} {tgt : Nat} (hd : decode k.2.1 pc = .ok (.ifCond .lt off, 3)) (ht : (pc : Int) + off = (tgt : Int)) (kt : x < 0 → gJ G k d nc ns M tgt lv st Q) (kf : ¬ x < 0 → gJ G k d nc ns M (pc + 3) lv st Q) : gJ G k d nc ns M pc lv (.int x :: st) Q := by
  intro p l e R s m args below meth c H locs cells slots Z ls C hw hs hl h1 h2 h3 h4 K
  exact lv_if_lt C.1 C.2.1 hd ht (fun hc => kt hc p l e R s m args below meth c H locs cells slots Z ls C hw hs hl h1 h2 h3 h4 K) (fun hc => kf hc p l e R s m args below meth c H locs cells slots Z ls C hw hs hl h1 h2 h3 h4 K)
theorem gJ_icmp_lt {x y : Int32} {off : Int} {tgt : Nat} (hd : decode k.2.1 pc = .ok (.if_icmp .lt off, 3)) (ht : (pc : Int) + off = (tgt : Int)) (kt : x < y → gJ G k d nc ns M tgt lv st Q) (kf : ¬ x < y → gJ G k d nc ns M (pc + 3) lv st Q) : gJ G k d nc ns M pc lv (.int y :: .int x :: st) Q := by
  intro p l e R s m args below meth c H locs cells slots Z ls C hw hs hl h1 h2 h3 h4 K
  exact lv_icmp_lt C.1 C.2.1 hd ht (fun hc => kt hc p l e R s m args below meth c H locs cells slots Z ls C hw hs hl h1 h2 h3 h4 K) (fun hc => kf hc p l e R s m args below meth c H locs cells slots Z ls C hw hs hl h1 h2 h3 h4 K)
theorem gJ_if_ge {x : Int32} {off : Int} {tgt : Nat} (hd : decode k.2.1 pc = .ok (.ifCond .ge off, 3)) (ht : (pc : Int) + off = (tgt : Int)) (kt : 0 ≤ x → gJ G k d nc ns M tgt lv st Q) (kf : ¬ 0 ≤ x → gJ G k d nc ns M (pc + 3) lv st Q) : gJ G k d nc ns M pc lv (.int x :: st) Q := by
  intro p l e R s m args below meth c H locs cells slots Z ls C hw hs hl h1 h2 h3 h4 K
  exact lv_if_ge C.1 C.2.1 hd ht (fun hc => kt hc p l e R s m args below meth c H locs cells slots Z ls C hw hs hl h1 h2 h3 h4 K) (fun hc => kf hc p l e R s m args below meth c H locs cells slots Z ls C hw hs hl h1 h2 h3 h4 K)
theorem gJ_icmp_ge {x y : Int32} {off : Int} {tgt : Nat} (hd : decode k.2.1 pc = .ok (.if_icmp .ge off, 3)) (ht : (pc : Int) + off = (tgt : Int)) (kt : y ≤ x → gJ G k d nc ns M tgt lv st Q) (kf : ¬ y ≤ x → gJ G k d nc ns M (pc + 3) lv st Q) : gJ G k d nc ns M pc lv (.int y :: .int x :: st) Q := by
  intro p l e R s m args below meth c H locs cells slots Z ls C hw hs hl h1 h2 h3 h4 K
  exact lv_icmp_ge C.1 C.2.1 hd ht (fun hc => kt hc p l e R s m args below meth c H locs cells slots Z ls C hw hs hl h1 h2 h3 h4 K) (fun hc => kf hc p l e R s m args below meth c H locs cells slots Z ls C hw hs hl h1 h2 h3 h4 K)
theorem gJ_if_gt {x : Int32} {off : Int} {tgt : Nat} (hd : decode k.2.1 pc = .ok (.ifCond .gt off, 3)) (ht : (pc : Int) + off = (tgt : Int)) (kt : 0 < x → gJ G k d nc ns M tgt lv st Q) (kf : ¬ 0 < x → gJ G k d nc ns M (pc + 3) lv st Q) : gJ G k d nc ns M pc lv (.int x :: st) Q := by
  intro p l e R s m args below meth c H locs cells slots Z ls C hw hs hl h1 h2 h3 h4 K
  exact lv_if_gt C.1 C.2.1 hd ht (fun hc => kt hc p l e R s m args below meth c H locs cells slots Z ls C hw hs hl h1 h2 h3 h4 K) (fun hc => kf hc p l e R s m args below meth c H locs cells slots Z ls C hw hs hl h1 h2 h3 h4 K)
theorem gJ_icmp_gt {x y : Int32} {off : Int} {tgt : Nat} (hd : decode k.2.1 pc = .ok (.if_icmp .gt off, 3)) (ht : (pc : Int) + off = (tgt : Int)) (kt : y < x → gJ G k d nc ns M tgt lv st Q) (kf : ¬ y < x → gJ G k d nc ns M (pc + 3) lv st Q) : gJ G k d nc ns M pc lv (.int y :: .int x :: st) Q := by
  intro p l e R s m args below meth c H locs cells slots Z ls C hw hs hl h1 h2 h3 h4 K
  exact lv_icmp_gt C.1 C.2.1 hd ht (fun hc => kt hc p l e R s m args below meth c H locs cells slots Z ls C hw hs hl h1 h2 h3 h4 K) (fun hc => kf hc p l e R s m args below meth c H locs cells slots Z ls C hw hs hl h1 h2 h3 h4 K)
theorem gJ_if_le {x : Int32} {off : Int} {tgt : Nat} (hd : decode k.2.1 pc = .ok (.ifCond .le off, 3)) (ht : (pc : Int) + off = (tgt : Int)) (kt : x ≤ 0 → gJ G k d nc ns M tgt lv st Q) (kf : ¬ x ≤ 0 → gJ G k d nc ns M (pc + 3) lv st Q) : gJ G k d nc ns M pc lv (.int x :: st) Q := by
  intro p l e R s m args below meth c H locs cells slots Z ls C hw hs hl h1 h2 h3 h4 K
  exact lv_if_le C.1 C.2.1 hd ht (fun hc => kt hc p l e R s m args below meth c H locs cells slots Z ls C hw hs hl h1 h2 h3 h4 K) (fun hc => kf hc p l e R s m args below meth c H locs cells slots Z ls C hw hs hl h1 h2 h3 h4 K)
theorem gJ_icmp_le {x y : Int32} {off : Int} {tgt : Nat} (hd : decode k.2.1 pc = .ok (.if_icmp .le off, 3)) (ht : (pc : Int) + off = (tgt : Int)) (kt : x ≤ y → gJ G k d nc ns M tgt lv st Q) (kf : ¬ x ≤ y → gJ G k d nc ns M (pc + 3) lv st Q) : gJ G k d nc ns M pc lv (.int y :: .int x :: st) Q := by
  intro p l e R s m args below meth c H locs cells slots Z ls C hw hs hl h1 h2 h3 h4 K
  exact lv_icmp_le C.1 C.2.1 hd ht (fun hc => kt hc p l e R s m args below meth c H locs cells slots Z ls C hw hs hl h1 h2 h3 h4 K) (fun hc => kf hc p l e R s m args below meth c H locs cells slots Z ls C hw hs hl h1 h2 h3 h4 K)
theorem gJ_goto {off : Int} {tgt : Nat} (hd : decode k.2.1 pc = .ok (.goto off, 3)) (ht : (pc : Int) + off = (tgt : Int)) (kk : gJ G k d nc ns M tgt lv st Q) : gJ G k d nc ns M pc lv (st) Q := by
  intro p l e R s m args below meth c H locs cells slots Z ls C hw hs hl h1 h2 h3 h4 K
  exact lv_goto C.1 C.2.1 hd ht (kk p l e R s m args below meth c H locs cells slots Z ls C hw hs hl h1 h2 h3 h4 K)
theorem gJ_ifnonnull {x : Nat} {off : Int} {tgt : Nat} (hd : decode k.2.1 pc = .ok (.ifnonnull off, 3)) (ht : (pc : Int) + off = (tgt : Int)) (kk : gJ G k d nc ns M tgt lv st Q) : gJ G k d nc ns M pc lv (.ref x :: st) Q := by
  intro p l e R s m args below meth c H locs cells slots Z ls C hw hs hl h1 h2 h3 h4 K
  exact lv_ifnonnull C.1 C.2.1 hd ht (kk p l e R s m args below meth c H locs cells slots Z ls C hw hs hl h1 h2 h3 h4 K)
theorem gJ_ifnull {x : Nat} {off : Int} (hd : decode k.2.1 pc = .ok (.ifnull off, 3)) (kk : gJ G k d nc ns M (pc + 3) lv st Q) : gJ G k d nc ns M pc lv (.ref x :: st) Q := by
  intro p l e R s m args below meth c H locs cells slots Z ls C hw hs hl h1 h2 h3 h4 K
  exact lv_ifnull C.1 C.2.1 hd (kk p l e R s m args below meth c H locs cells slots Z ls C hw hs hl h1 h2 h3 h4 K)
theorem gJ_ifnullN {off : Int} {tgt : Nat} (hd : decode k.2.1 pc = .ok (.ifnull off, 3)) (ht : (pc : Int) + off = (tgt : Int)) (kk : gJ G k d nc ns M tgt lv st Q) : gJ G k d nc ns M pc lv (.null :: st) Q := by
  intro p l e R s m args below meth c H locs cells slots Z ls C hw hs hl h1 h2 h3 h4 K
  exact lv_ifnullN C.1 C.2.1 hd ht (kk p l e R s m args below meth c H locs cells slots Z ls C hw hs hl h1 h2 h3 h4 K)
theorem gJ_ifnonnullN {off : Int} (hd : decode k.2.1 pc = .ok (.ifnonnull off, 3)) (kk : gJ G k d nc ns M (pc + 3) lv st Q) : gJ G k d nc ns M pc lv (.null :: st) Q := by
  intro p l e R s m args below meth c H locs cells slots Z ls C hw hs hl h1 h2 h3 h4 K
  exact lv_ifnonnullN C.1 C.2.1 hd (kk p l e R s m args below meth c H locs cells slots Z ls C hw hs hl h1 h2 h3 h4 K)
theorem gJ_tableOut {dflt lo hi : Int} {offs : Array Int} {len : Nat} {x : Int32} {tgt : Nat} (hd : decode k.2.1 pc = .ok (.tableswitch dflt lo hi offs, len)) (h : x.toInt < lo ∨ hi < x.toInt) (ht : (pc : Int) + dflt = (tgt : Int)) (kk : gJ G k d nc ns M tgt lv st Q) : gJ G k d nc ns M pc lv (.int x :: st) Q := by
  intro p l e R s m args below meth c H locs cells slots Z ls C hw hs hl h1 h2 h3 h4 K
  exact lv_tableOut C.1 C.2.1 hd h ht (kk p l e R s m args below meth c H locs cells slots Z ls C hw hs hl h1 h2 h3 h4 K)
theorem gJ_tableIn {dflt lo hi : Int} {offs : Array Int} {len : Nat} {x : Int32} {off : Int} {tgt : Nat} (hd : decode k.2.1 pc = .ok (.tableswitch dflt lo hi offs, len)) (ha : ¬ x.toInt < lo) (hb : ¬ hi < x.toInt) (ho : offs[(x.toInt - lo).toNat]? = some off) (ht : (pc : Int) + off = (tgt : Int)) (kk : gJ G k d nc ns M tgt lv st Q) : gJ G k d nc ns M pc lv (.int x :: st) Q := by
  intro p l e R s m args below meth c H locs cells slots Z ls C hw hs hl h1 h2 h3 h4 K
  exact lv_tableIn C.1 C.2.1 hd ha hb ho ht (kk p l e R s m args below meth c H locs cells slots Z ls C hw hs hl h1 h2 h3 h4 K)
theorem gJ_lookup {dflt : Int} {ps : Array (Int × Int)} {len : Nat} {x : Int32} {off : Int} {tgt : Nat} (hd : decode k.2.1 pc = .ok (.lookupswitch dflt ps, len)) (hp : (ps.toList.zip (ps.toList.drop 1)).all (fun (a, next) => a.1 < next.1) = true) (ho : Op.lookupswitch.offset ps.toList dflt x.toInt = off) (ht : (pc : Int) + off = (tgt : Int)) (kk : gJ G k d nc ns M tgt lv st Q) : gJ G k d nc ns M pc lv (.int x :: st) Q := by
  intro p l e R s m args below meth c H locs cells slots Z ls C hw hs hl h1 h2 h3 h4 K
  exact lv_lookup C.1 C.2.1 hd hp ho ht (kk p l e R s m args below meth c H locs cells slots Z ls C hw hs hl h1 h2 h3 h4 K)
theorem gJ_iald {a n : Nat} {f : Nat → Int32} {i : Int32} (hd : decode k.2.1 pc = .ok (.iaload, 1)) (hM : M.1 a = some (gI n f)) (hin : vp_in i n) (kk : gJ G k d nc ns M (pc + 1) lv (.int (f i.toNatClampNeg) :: st) Q) : gJ G k d nc ns M pc lv (.int i :: .ref a :: st) Q := by
  intro p l e R s m args below meth c H locs cells slots Z ls C hw hs hl h1 h2 h3 h4 K
  exact va_iald C.1 C.2.1 C.2.2.2.2.2.1 (gW_one hw hM) 0 0 rfl rfl hin hd (kk p l e R s m args below meth c H locs cells slots Z ls C hw hs hl h1 h2 h3 h4 K)
theorem gJ_zald {a n : Nat} {f : Nat → Int32} {i : Int32} (hd : decode k.2.1 pc = .ok (.baload, 1)) (hM : M.1 a = some (gZ n f)) (hin : vp_in i n) (kk : gJ G k d nc ns M (pc + 1) lv (.int (f i.toNatClampNeg) :: st) Q) : gJ G k d nc ns M pc lv (.int i :: .ref a :: st) Q := by
  intro p l e R s m args below meth c H locs cells slots Z ls C hw hs hl h1 h2 h3 h4 K
  exact va_zald C.1 C.2.1 C.2.2.2.2.2.1 (gW_one hw hM) 0 1 rfl rfl hin hd (kk p l e R s m args below meth c H locs cells slots Z ls C hw hs hl h1 h2 h3 h4 K)
theorem gJ_lald {a n : Nat} {f : Nat → Int64} {i : Int32} (hd : decode k.2.1 pc = .ok (.laload, 1)) (hM : M.1 a = some (gL n f)) (hin : vp_in i n) (kk : gJ G k d nc ns M (pc + 1) lv (.long (f i.toNatClampNeg) :: st) Q) : gJ G k d nc ns M pc lv (.int i :: .ref a :: st) Q := by
  intro p l e R s m args below meth c H locs cells slots Z ls C hw hs hl h1 h2 h3 h4 K
  exact va_lald C.1 C.2.1 C.2.2.2.2.2.1 (gW_one hw hM) 0 2 rfl rfl hin hd (kk p l e R s m args below meth c H locs cells slots Z ls C hw hs hl h1 h2 h3 h4 K)
theorem gJ_aald {t a n : Nat} {f : Nat → Option Nat} {i : Int32} {Cn : String} (hd : decode k.2.1 pc = .ok (.aaload, 1)) (hM : M.1 a = some (gR t n f)) (ht : (gTys G)[t]? = some (G.2.2.1 t, .object Cn)) (hin : vp_in i n) (kk : gJ G k d nc ns M (pc + 1) lv (va_rf (f i.toNatClampNeg) :: st) Q) : gJ G k d nc ns M pc lv (.int i :: .ref a :: st) Q := by
  intro p l e R s m args below meth c H locs cells slots Z ls C hw hs hl h1 h2 h3 h4 K
  exact va_aldq C.1 C.2.1 C.2.2.2.2.2.1 (gW_one hw hM) 0 t rfl ht hin hd (kk p l e R s m args below meth c H locs cells slots Z ls C hw hs hl h1 h2 h3 h4 K)
theorem gJ_alen {t a : Nat} {x : vp_A} {ty : FieldType} {v : Int32} (hd : decode k.2.1 pc = .ok (.arraylength, 1)) (hM : M.1 a = some (.inl (t, x))) (ht : (gTys G)[t]? = some (G.2.2.1 t, ty)) (hv : Int32.ofNat x.1 = v) (kk : gJ G k d nc ns M (pc + 1) lv (.int v :: st) Q) : gJ G k d nc ns M pc lv (.ref a :: st) Q := by
  intro p l e R s m args below meth c H locs cells slots Z ls C hw hs hl h1 h2 h3 h4 K
  exact va_alen C.1 C.2.1 C.2.2.2.2.2.1 (gW_one hw hM) 0 t rfl ht hv hd (kk p l e R s m args below meth c H locs cells slots Z ls C hw hs hl h1 h2 h3 h4 K)
theorem gJ_tald {q : Nat} {i : Int32} (hd : decode k.2.1 pc = .ok (.iaload, 1)) (hq : q < 4) (hin : vp_in i (gSt q).2.1) (kk : gJ G k d nc ns M (pc + 1) lv (.int ((gSt q).2.2 i.toNatClampNeg) :: st) Q) : gJ G k d nc ns M pc lv (.int i :: .ref (gS G q) :: st) Q := by
  intro p l e R s m args below meth c H locs cells slots Z ls C hw hs hl h1 h2 h3 h4 K
  exact va_ti C.1 C.2.1 (C.2.2.2.2.2.2.1.2 q hq).2 hs hin rfl hd (kk p l e R s m args below meth c H locs cells slots Z ls C hw hs hl h1 h2 h3 h4 K)
theorem gJ_sld {i : Int32} (hd : decode k.2.1 pc = .ok (.iaload, 1)) (hin : vp_in i (gSL G)) (kk : gJ G k d nc ns M (pc + 1) lv (.int (gSX G i.toNatClampNeg) :: st) Q) : gJ G k d nc ns M pc lv (.int i :: .ref (gS G 4) :: st) Q := by
  intro p l e R s m args below meth c H locs cells slots Z ls C hw hs hl h1 h2 h3 h4 K
  exact va_ti C.1 C.2.1 C.2.2.2.2.2.2.1.1 hs hin rfl hd (kk p l e R s m args below meth c H locs cells slots Z ls C hw hs hl h1 h2 h3 h4 K)
theorem gJ_slen (hd : decode k.2.1 pc = .ok (.arraylength, 1)) (kk : gJ G k d nc ns M (pc + 1) lv (.int (Int32.ofNat (gSL G)) :: st) Q) : gJ G k d nc ns M pc lv (.ref (gS G 4) :: st) Q := by
  intro p l e R s m args below meth c H locs cells slots Z ls C hw hs hl h1 h2 h3 h4 K
  exact va_tlen C.1 C.2.1 C.2.2.2.2.2.2.1.1 hs rfl hd (kk p l e R s m args below meth c H locs cells slots Z ls C hw hs hl h1 h2 h3 h4 K)
theorem gJ_iast {a n : Nat} {f : Nat → Int32} {i : Int32} {x : Int32} (hd : decode k.2.1 pc = .ok (.iastore, 1)) (hM : M.1 a = some (gI n f)) (hin : vp_in i n) (kk : gJ G k d nc ns (gUp M a (gI n (upd f i.toNatClampNeg x))) (pc + 1) lv st Q) : gJ G k d nc ns M pc lv (.int x :: .int i :: .ref a :: st) Q := by
  intro p l e R s m args below meth c H locs cells slots Z ls C hw hs hl h1 h2 h3 h4 K
  refine W.iast C.1 C.2.1 ((hw.1 a _ hM).2) ((C.2.2.2.2.2.1.2 0 _ rfl).1 n (fun j => .int (f j))) (fun q => by cases q) (by show ¬ (i < 0 ∨ (arrV _ _ _).slots.size ≤ _); rw [arrV_size]; exact hin) rfl rfl hd fun H1 e0 z oq => ?_
  refine kk p l e R s m args below meth c H1 _ cells slots Z ls C (gW_up hw hM ?_ z oq) (hs.put z oq (hw.1 a _ hM).1) hl h1 h2 h3 h4 K
  show H1[a]? = some (vp_cell _ _)
  rw [e0]
  show some ((vp_cell _ _).setSlot _ _) = _
  rw [vp_cell_i, vp_cell_i, arrV_store]
  congr 2
  funext q
  by_cases hq : q = i.toNatClampNeg
  · subst hq
    simp [updV, upd]
  · simp [updV, upd, hq]
theorem gJ_zast {a n : Nat} {f : Nat → Int32} {i : Int32} {x : Int32} (hd : decode k.2.1 pc = .ok (.bastore, 1)) (hM : M.1 a = some (gZ n f)) (hin : vp_in i n) (hx01 : x = 0 ∨ x = 1) (kk : gJ G k d nc ns (gUp M a (gZ n (upd f i.toNatClampNeg x))) (pc + 1) lv st Q) : gJ G k d nc ns M pc lv (.int x :: .int i :: .ref a :: st) Q := by
  intro p l e R s m args below meth c H locs cells slots Z ls C hw hs hl h1 h2 h3 h4 K
  refine W.zast C.1 C.2.1 ((hw.1 a _ hM).2) ((C.2.2.2.2.2.1.2 1 _ rfl).1 n (fun j => .int (f j))) (fun q => by cases q) (by show ¬ (i < 0 ∨ (arrV _ _ _).slots.size ≤ _); rw [arrV_size]; exact hin) rfl rfl hd fun H1 e0 z oq => ?_
  refine kk p l e R s m args below meth c H1 _ cells slots Z ls C (gW_up hw hM ?_ z oq) (hs.put z oq (hw.1 a _ hM).1) hl h1 h2 h3 h4 K
  show H1[a]? = some (vp_cell _ _)
  rw [e0]
  show some ((vp_cell _ _).setSlot _ _) = _
  rw [vp_cell_i, vp_cell_i, arrV_store]
  congr 2
  funext q
  by_cases hq : q = i.toNatClampNeg
  · subst hq
    simp [updV, upd, vp_nar]
    try (show narrow _ _ = _; rcases hx01 with rfl | rfl <;> rfl)
  · simp [updV, upd, hq]
theorem gJ_last {a n : Nat} {f : Nat → Int64} {i : Int32} {x : Int64} (hd : decode k.2.1 pc = .ok (.lastore, 1)) (hM : M.1 a = some (gL n f)) (hin : vp_in i n) (kk : gJ G k d nc ns (gUp M a (gL n (vp_updL f i.toNatClampNeg x))) (pc + 1) lv st Q) : gJ G k d nc ns M pc lv (.long x :: .int i :: .ref a :: st) Q := by
  intro p l e R s m args below meth c H locs cells slots Z ls C hw hs hl h1 h2 h3 h4 K
  refine W.last C.1 C.2.1 ((hw.1 a _ hM).2) ((C.2.2.2.2.2.1.2 2 _ rfl).1 n (fun j => .long (f j))) (fun q => by cases q) (by show ¬ (i < 0 ∨ (arrV _ _ _).slots.size ≤ _); rw [arrV_size]; exact hin) rfl rfl hd fun H1 e0 z oq => ?_
  refine kk p l e R s m args below meth c H1 _ cells slots Z ls C (gW_up hw hM ?_ z oq) (hs.put z oq (hw.1 a _ hM).1) hl h1 h2 h3 h4 K
  show H1[a]? = some (vp_cell _ _)
  rw [e0]
  show some ((vp_cell _ _).setSlot _ _) = _
  rw [vp_cell_l, vp_cell_l, arrV_store]
  congr 2
  funext q
  by_cases hq : q = i.toNatClampNeg
  · subst hq
    simp [updV, vp_updL]
  · simp [updV, vp_updL, hq]
theorem gJ_aastN {t a n : Nat} {f : Nat → Option Nat} {i : Int32} {Cn : String} (hd : decode k.2.1 pc = .ok (.aastore, 1)) (hM : M.1 a = some (gR t n f)) (ht : (gTys G)[t]? = some (G.2.2.1 t, .object Cn)) (hin : vp_in i n) (kk : gJ G k d nc ns (gUp M a (gR t n (va_up f i.toNatClampNeg none))) (pc + 1) lv st Q) : gJ G k d nc ns M pc lv (.null :: .int i :: .ref a :: st) Q := by
  intro p l e R s m args below meth c H locs cells slots Z ls C hw hs hl h1 h2 h3 h4 K
  refine va_WaastN (C := Cn) C.1 C.2.1 ((hw.1 a _ hM).2) ((C.2.2.2.2.2.1.2 t _ ht).1 n (fun j => va_rf (f j))) (fun h => by cases h) (by show ¬ (i < 0 ∨ (arrV _ _ _).slots.size ≤ _); rw [arrV_size]; exact hin) rfl rfl hd fun H1 e0 z oq => ?_
  refine kk p l e R s m args below meth c H1 _ cells slots Z ls C (gW_up hw hM ?_ z oq) (hs.put z oq (hw.1 a _ hM).1) hl h1 h2 h3 h4 K
  show H1[a]? = some (vp_cell _ _)
  rw [e0]
  show some ((vp_cell _ _).setSlot _ _) = _
  rw [vp_cell_q, vp_cell_q, arrV_store]
  congr 2
  funext q
  by_cases hq : q = i.toNatClampNeg
  · subst hq
    simp [updV, va_up, va_rf]
  · simp [updV, va_up, hq]
theorem gJ_aast {t a n v ci : Nat} {r : vw_C} {vs : List Value} {f : Nat → Option Nat} {i : Int32} (hd : decode k.2.1 pc = .ok (.aastore, 1)) (hM : M.1 a = some (gR t n f)) (ht : (gTys G)[t]? = some (G.2.2.1 t, .object r.1)) (hv : M.1 v = some (gO ci vs)) (hc : vwCl[ci]? = some r) (hin : vp_in i n) (kk : gJ G k d nc ns (gUp M a (gR t n (va_up f i.toNatClampNeg (some v)))) (pc + 1) lv st Q) : gJ G k d nc ns M pc lv (.ref v :: .int i :: .ref a :: st) Q := by
  intro p l e R s m args below meth c H locs cells slots Z ls C hw hs hl h1 h2 h3 h4 K
  have hlt : i.toNatClampNeg < n := Nat.not_le.mp fun q => hin (Or.inr q)
  have h0 : ¬ i < 0 := fun q => hin (Or.inl q)
  obtain ⟨r2, hr2, cellV, g1, g2, g3, -⟩ := (hw.1 v _ hv).2
  have hcls := (C.2.2.2.2.2.1.1 ci r hc).2
  obtain ⟨kA, comp, k1, k2, k3, -⟩ := (C.2.2.2.2.2.1.2 t _ ht).2
  have hcomp : comp = (gD G).1 ci := Option.some.inj (k3.symm.trans hcls.1)
  subst hcomp
  obtain ⟨kC, hkC, -⟩ := hcls.2
  refine W.aast C.1 C.2.1 ((hw.1 a _ hM).2) (fun q h => by cases h) (fun h => by cases h) k1 k2 rfl hkC ⟨h0, by show _ < (arrV _ _ _).slots.size; rw [arrV_size]; exact hlt⟩ g1 (fun q h => by rw [g3] at h; cases h) (by rw [g2]; exact hkC) (by rw [g2]; exact va_assign hcls) rfl rfl hd fun H1 e0 z oq => ?_
  refine kk p l e R s m args below meth c H1 _ cells slots Z ls C (gW_up hw hM ?_ z oq) (hs.put z oq (hw.1 a _ hM).1) hl h1 h2 h3 h4 K
  show H1[a]? = some (vp_cell _ _)
  rw [e0]
  show some ((vp_cell _ _).setSlot _ _) = _
  rw [vp_cell_q, vp_cell_q, arrV_store]
  congr 2
  funext q
  by_cases hq : q = i.toNatClampNeg
  · subst hq
    simp [updV, va_up, va_rf]
  · simp [updV, va_up, hq]
end GJ
section GF
variable {G : gG} {k : gMd} {d nc ns : Nat} {M : gM} {pc : Nat} {lv lv2 : List (Nat × Value)} {st : List Value} {Q : gP}
/-- a field that an instruction of a class names: kind and place, its type, whether it is final -/
def gFld (own : String) (idx ci j : Nat) (ty : FieldType) (fin : Bool) : Prop := ∃ (C : String) (T : u_T) (N : Nat) (ty0 : Nat → FieldType), vwCl[ci]? = some (C, T, N) ∧ (∀ w ∈ u_ws C T N, w ∈ gW0) ∧ (∀ q, q < N → parseFieldDescriptor (T q).2.2.1 = some (ty0 q)) ∧ (∀ a, a < N → ∀ b, b < N → a ≠ b → (T a).2.1 ≠ (T b).2.1) ∧ j < N ∧ Cond.fieldLink own idx C (T j).2.1 (T j).2.2.1 ∈ gW0 ∧ (T j).1 = C ∧ (T j).2.2.2 = fin ∧ ty0 j = ty
theorem gJ_get {i ci j a : Nat} {fs : List Value} {v : Value} {ty : FieldType} {fin : Bool} (hf : gFld k.1.cls i ci j ty fin) (hd : decode k.2.1 pc = .ok (.getfield i, 3)) (ho : M.1 a = some (gO ci fs)) (hv : fs[j]? = some v) (kk : gJ G k d nc ns M (pc + 3) lv (v :: st) Q) : gJ G k d nc ns M pc lv (.ref a :: st) Q := by
  intro p l e R s m args below meth c H locs cells slots Z ls C hw hs hl h1 h2 h3 h4 K
  obtain ⟨Cn, T, N, ty0, f1, f2, f3, f4, f5, f6, f7, f8, f9⟩ := hf
  exact va_get C.1 C.2.1 C.2.2.2.2.1 f2 C.2.2.2.1 C.2.2.2.2.2.1 (gW_one hw ho) 0 rfl f1 j f5 (C.2.2.2.2.1 _ f6) (fun x hx => by rw [f7] at hx; exact hx) hv hd (kk p l e R s m args below meth c H locs cells slots Z ls C hw hs hl h1 h2 h3 h4 K)
theorem gJ_put {i ci j a : Nat} {fs : List Value} {v : Value} {ty : FieldType} (hf : gFld k.1.cls i ci j ty false) (hd : decode k.2.1 pc = .ok (.putfield i, 3)) (ho : M.1 a = some (gO ci fs)) (hn : narrow ty v = v) (hfit : fits ty v = true) (hlen : j < fs.length) (kk : gJ G k d nc ns (gUp M a (gO ci (fs.set j v))) (pc + 3) lv st Q) : gJ G k d nc ns M pc lv (v :: .ref a :: st) Q := by
  intro p l e R s m args below meth c H locs cells slots Z ls C hw hs hl h1 h2 h3 h4 K
  obtain ⟨Cn, T, N, ty0, f1, f2, f3, f4, f5, f6, f7, f8, f9⟩ := hf
  have hts := C.2.2.2.2.1
  have hap := va_apart (own := k.1.cls) hts f2 ty0 f3 f4 C.2.2.2.2.2.1 f1
  obtain ⟨r, e1, cell, q1, q2, q3, q4⟩ := (hw.1 a _ ho).2
  have hr : r = (Cn, T, N) := Option.some.inj (e1.symm.trans f1)
  subst hr
  obtain ⟨hS, hfc, kC, hkC, hkind⟩ := C.2.2.2.2.2.1.1 ci _ f1
  obtain ⟨cf, kf, fi, f, hi, hsl⟩ := hS j f5
  have hlay := hts _ (f2 _ (u_in_lay f5))
  unfold u_lay at hlay
  rw [if_neg (by rw [f8]; decide)] at hlay
  have hst := (u_facts hfc hkC (u_lays hts f2 f5) hi).1
  have h6 := u_store hfc hkC hkind hlay hi (by rw [f3 j f5, f9]) hn hfit
  refine W.putK C.1 C.2.1 (f := f) ⟨C.2.2.2.1, hts _ f6, ⟨_, _, _, by rw [f7] at hi; exact hi⟩, hst⟩ (by rw [q2]; exact h6) q1 q3 (by rw [hsl]; exact k2_hasslot (q4 j f5)) rfl rfl hd fun H1 e1 z oq => ?_
  rw [hsl] at e1 ⊢
  refine kk p l e R s m args below meth c H1 _ cells slots Z ls C (gW_up hw ho ?_ z oq) (hs.put z oq (hw.1 a _ ho).1) hl h1 h2 h3 h4 K
  exact ⟨_, f1, t_OB.to (V := updV (vp_V fs) j v) ⟨_, e1, q2, q3, t_set q4 hap f5 v⟩ (fun q _ => vp_updV_set hlen v q)⟩
theorem gJ_putF {i ci j a : Nat} {fs : List Value} {v : Value} {ty : FieldType} (hf : gFld k.1.cls i ci j ty true) (hci : vwCl[ci]?.map (fun r => r.1) = some k.1.cls) (hini : k.1.name = "<init>") (hd : decode k.2.1 pc = .ok (.putfield i, 3)) (ho : M.1 a = some (gO ci fs)) (hn : narrow ty v = v) (hfit : fits ty v = true) (hlen : j < fs.length) (kk : gJ G k d nc ns (gUp M a (gO ci (fs.set j v))) (pc + 3) lv st Q) : gJ G k d nc ns M pc lv (v :: .ref a :: st) Q := by
  intro p l e R s m args below meth c H locs cells slots Z ls C hw hs hl h1 h2 h3 h4 K
  obtain ⟨Cn, T, N, ty0, f1, f2, f3, f4, f5, f6, f7, f8, f9⟩ := hf
  have hts := C.2.2.2.2.1
  have hap := va_apart (own := k.1.cls) hts f2 ty0 f3 f4 C.2.2.2.2.2.1 f1
  obtain ⟨r, e1, cell, q1, q2, q3, q4⟩ := (hw.1 a _ ho).2
  have hr : r = (Cn, T, N) := Option.some.inj (e1.symm.trans f1)
  subst hr
  have hCn : Cn = k.1.cls := by rw [f1] at hci; exact Option.some.inj hci
  obtain ⟨hS, hfc, kC, hkC, hkind⟩ := C.2.2.2.2.2.1.1 ci _ f1
  obtain ⟨cf, kf, fi, f, hi, hsl⟩ := hS j f5
  have hlay := hts _ (f2 _ (u_in_lay f5))
  unfold u_lay at hlay
  rw [if_pos f8] at hlay
  have hst := (u_facts hfc hkC (u_lays hts f2 f5) hi).1
  have hcf : m.cls = cf := by
    obtain ⟨_, _, c2, _, _, _, -, -, hf2, -, -, -, hown2, -⟩ := Cond.laysFinal_spec hlay
    have e1 : c2 = cf := by have := hi.symm.trans hf2; simp at this; exact this.1.symm
    rw [f7, hCn] at hown2
    rw [← e1]; exact Option.some.inj (C.2.2.2.1.symm.trans hown2)
  have h6 := u_fits hfc hkC hkind (Or.inr hlay) hi (by rw [f3 j f5, f9]) hn hfit
  refine W.putFinK C.1 C.2.1 C.2.2.2.1 (hts _ f6) (by rw [f7] at hi; exact hi) hst hcf (by rw [C.2.2.2.2.2.2.2.2.1]; exact hini) (by rw [q2]; exact h6) q1 q3 (by rw [hsl]; exact k2_hasslot (q4 j f5)) rfl rfl hd fun H1 e1 z oq => ?_
  rw [hsl] at e1 ⊢
  refine kk p l e R s m args below meth c H1 _ cells slots Z ls C (gW_up hw ho ?_ z oq) (hs.put z oq (hw.1 a _ ho).1) hl h1 h2 h3 h4 K
  exact ⟨_, f1, t_OB.to (V := updV (vp_V fs) j v) ⟨_, e1, q2, q3, t_set q4 hap f5 v⟩ (fun q _ => vp_updV_set hlen v q)⟩
/-- a class that an instruction makes an object of -/
def gCls (own : String) (idx ci N : Nat) (fs : List Value) : Prop := ∃ (C : String) (T : u_T) (ty0 : Nat → FieldType), vwCl[ci]? = some (C, T, N) ∧ (∀ w ∈ u_ws C T N, w ∈ gW0) ∧ (∀ q, q < N → parseFieldDescriptor (T q).2.2.1 = some (ty0 q)) ∧ Cond.classLink own idx C ∈ gW0 ∧ Cond.instantiable C N ∈ gW0 ∧ Cond.initialized C ∈ gW0 ∧ ∀ j, j < N → defaultValue (ty0 j) = vp_V fs j
theorem gJ_new {i ci N : Nat} {fs : List Value} (hf : gCls k.1.cls i ci N fs) (hd : decode k.2.1 pc = .ok (.new i, 3)) (kk : gJ G k d nc ns (gNew M (gO ci fs)) (pc + 3) lv (.ref M.2 :: st) Q) : gJ G k d (nc + 1) (ns + N) M pc lv st Q := by
  intro p l e R s m args below meth c H locs cells slots Z ls C hw hs hl h1 h2 h3 h4 K
  obtain ⟨Cn, T, ty0, f1, f2, f3, f4, f5, f6, f7⟩ := hf
  have hts := C.2.2.2.2.1
  have hKn := C.2.2.2.2.2.1.1 ci _ f1
  refine W.newcK C.1 C.2.1 C.2.2.2.1 (hts _ f4) (hts _ f5) (hts _ f6) rfl hd (by omega) (by omega) hKn.2.1 hw.2.2 fun H1 kC hkC e1 z1 o1 => ?_
  have hz := hw.2.2
  refine kk p l e R s m args below meth c H1 _ (cells + 1) (slots + N) Z ls C (gW_new hw ?_ (by rw [z1, hz]) (fun q hq => o1 q (by rw [← hz]; exact hq))) ⟨Nat.le_trans hs.1 (by omega), fun x g1 g2 => (o1 x (by have := hs.1; omega)).trans (hs.2.1 x g1 g2), hs.2.2⟩ hl h1 h2 (by omega) (by omega) ?_
  · rw [hz]
    exact ⟨_, f1, (u_born ty0 hts f2 hKn hkC e1 f3).to f7⟩
  · intro M' pc' lv' st' H' locs' cells' slots' ls' q1 q2 q3 q4 q5 q6
    exact K M' pc' lv' st' H' locs' cells' slots' ls' q1 q2 q3 q4 (by omega) (by omega)
theorem gJ_objInit {i a : Nat} (hf : Cond.methodLink k.1.cls i objectInit ∈ gW0) (hd : decode k.2.1 pc = .ok (.invokespecial i, 3)) (hst : (st.map fun v => v.category).sum ≤ 8) (hdp : 1 ≤ d) (kk : gJ G k d nc ns M (pc + 3) lv st Q) : gJ G k d nc ns M pc lv (.ref a :: st) Q := by
  intro p l e R s m args below meth c H locs cells slots Z ls C hw hs hl h1 h2 h3 h4 K
  have hts := C.2.2.2.2.1
  refine W.objInit C.1 C.2.1 C.2.2.2.1 (hts _ hf) (hts _ gw_oi1) (hts _ gw_oi2) rfl (by rw [C.2.2.1]; exact hl.1) rfl hd (by omega) ?_ (kk p l e R s m args below meth c H locs cells slots Z ls C hw hs hl h1 h2 h3 h4 K)
  show 2 * 0 + _ + 12 ≤ _
  omega
theorem gJ_gets {i q : Nat} (hq : q < 4) (hf : Cond.fieldLink k.1.cls i RX11 (gSt q).1 "[I" ∈ gW0) (hd : decode k.2.1 pc = .ok (.getstatic i, 3)) (kk : gJ G k d nc ns M (pc + 3) lv (.ref (gS G q) :: st) Q) : gJ G k d nc ns M pc lv st Q := by
  intro p l e R s m args below meth c H locs cells slots Z ls C hw hs hl h1 h2 h3 h4 K
  exact va_gets C.1 C.2.1 (C.2.2.2.2.2.2.1.2 q hq).1 hs C.2.2.2.1 (C.2.2.2.2.1 _ hf) (fun _ h => h) hd (kk p l e R s m args below meth c H locs cells slots Z ls C hw hs hl h1 h2 h3 h4 K)
theorem gJ_getsN {i q : Nat} (hq : q < 4) (hf : Cond.fieldLinkNest k.1.cls i RX11 (gSt q).1 "[I" RX11 ∈ gNest) (hd : decode k.2.1 pc = .ok (.getstatic i, 3)) (kk : gJ G k d nc ns M (pc + 3) lv (.ref (gS G q) :: st) Q) : gJ G k d nc ns M pc lv st Q := by
  intro p l e R s m args below meth c H locs cells slots Z ls C hw hs hl h1 h2 h3 h4 K
  exact va_getsN C.1 C.2.1 (C.2.2.2.2.2.2.1.2 q hq).1 hs C.2.2.2.1 (va_Nw.use rfl (C.2.2.2.2.2.2.2.2.2.1 _ hf)) (fun _ h => h) hd (kk p l e R s m args below meth c H locs cells slots Z ls C hw hs hl h1 h2 h3 h4 K)
/-- arrays made -/
theorem gJ_newa {at_ : ArrayType} {t N : Nat} {ty : FieldType} {a0 : vp_A} {n : Int32} (hty : newarray.typeOf at_ = ty) (ht : (gTys G)[t]? = some (G.2.2.1 t, ty)) (hcA : ∀ U : State, va_RA U (G.2.2.1 t) ty → U.vm.findClass ("[" ++ ty.toString) = some (G.2.2.1 t)) (harr : Cond.arrayClass ty ∈ gW0) (ha : ∀ cA : ClassId, vp_cell cA a0 = arrV cA N (fun _ => defaultValue ty)) (hn : ¬ n < 0) (hN : n.toNatClampNeg = N) (hby : N * componentBytes ty ≤ 536870912) (hd : decode k.2.1 pc = .ok (.newarray at_, 2)) (kk : gJ G k d nc ns (gNew M (.inl (t, a0))) (pc + 2) lv (.ref M.2 :: st) Q) : gJ G k d (nc + 1) (ns + N) M pc lv (.int n :: st) Q := by
  intro p l e R s m args below meth c H locs cells slots Z ls C hw hs hl h1 h2 h3 h4 K
  have hts := C.2.2.2.2.1
  subst hty
  have hz := hw.2.2
  refine va_newaK C.1 C.2.1 (hts _ harr) rfl hd rfl hn hN hby (by omega) (by omega) hz fun H1 cA e1 z1 o1 hAr hNm => ?_
  have hc := hcA s ((C.2.2.2.2.2.1.2 t _ ht).2)
  have hcc : cA = G.2.2.1 t := Option.some.inj (hNm.symm.trans hc)
  subst hcc
  refine kk p l e R s m args below meth c H1 _ (cells + 1) (slots + N) Z ls C (gW_new hw ?_ (by rw [z1, hz]) (fun q hq => o1 q (by rw [← hz]; exact hq))) ⟨Nat.le_trans hs.1 (by omega), fun x g1 g2 => (o1 x (by have := hs.1; omega)).trans (hs.2.1 x g1 g2), hs.2.2⟩ hl h1 h2 (by omega) (by omega) ?_
  · rw [hz]
    show H1[M.2]? = some (vp_cell _ _)
    rw [ha]
    exact e1
  · intro M' pc' lv' st' H' locs' cells' slots' ls' q1 q2 q3 q4 q5 q6
    exact K M' pc' lv' st' H' locs' cells' slots' ls' q1 q2 q3 q4 (by omega) (by omega)
theorem gJ_newI {N : Nat} {n : Int32} (hn : ¬ n < 0) (hN : n.toNatClampNeg = N) (hby : N * 4 ≤ 536870912) (hd : decode k.2.1 pc = .ok (.newarray .int, 2)) (kk : gJ G k d nc ns (gNew M (gI N (fun _ => 0))) (pc + 2) lv (.ref M.2 :: st) Q) : gJ G k d (nc + 1) (ns + N) M pc lv (.int n :: st) Q :=
  gJ_newa (ty := .int) (t := 0) rfl rfl (fun U h => h) gw_aI (fun cA => rfl) hn hN hby hd kk
theorem gJ_newZ {N : Nat} {n : Int32} (hn : ¬ n < 0) (hN : n.toNatClampNeg = N) (hby : N * 1 ≤ 536870912) (hd : decode k.2.1 pc = .ok (.newarray .boolean, 2)) (kk : gJ G k d nc ns (gNew M (gZ N (fun _ => 0))) (pc + 2) lv (.ref M.2 :: st) Q) : gJ G k d (nc + 1) (ns + N) M pc lv (.int n :: st) Q :=
  gJ_newa (ty := .boolean) (t := 1) rfl rfl (fun U h => h) gw_aZ (fun cA => rfl) hn hN hby hd kk
theorem gJ_newL {N : Nat} {n : Int32} (hn : ¬ n < 0) (hN : n.toNatClampNeg = N) (hby : N * 8 ≤ 536870912) (hd : decode k.2.1 pc = .ok (.newarray .long, 2)) (kk : gJ G k d nc ns (gNew M (gL N (fun _ => 0))) (pc + 2) lv (.ref M.2 :: st) Q) : gJ G k d (nc + 1) (ns + N) M pc lv (.int n :: st) Q :=
  gJ_newa (ty := .long) (t := 2) rfl rfl (fun U h => h) gw_aJ (fun cA => rfl) hn hN hby hd kk
theorem gJ_newR {i t N : Nat} {Cn : String} {n : Int32} (ht : (gTys G)[t]? = some (G.2.2.1 t, .object Cn)) (hcl : Cond.classLink k.1.cls i Cn ∈ gW0) (hov : ∀ U : State, gNw U → va_AO Cn U) (hn : ¬ n < 0) (hN : n.toNatClampNeg = N) (hby : N * 4 ≤ 536870912) (hd : decode k.2.1 pc = .ok (.anewarray i, 3)) (kk : gJ G k d nc ns (gNew M (gR t N (fun _ => none))) (pc + 3) lv (.ref M.2 :: st) Q) : gJ G k d (nc + 1) (ns + N) M pc lv (.int n :: st) Q := by
  intro p l e R s m args below meth c H locs cells slots Z ls C hw hs hl h1 h2 h3 h4 K
  have hts := C.2.2.2.2.1
  have hz := hw.2.2
  subst hN
  refine W.anew C.1 C.2.1 C.2.2.2.1 (hts _ hcl) (va_AO.use (hov s C.2.2.2.2.2.2.2.2.2)) rfl hd rfl hn hby (by omega) (by omega) fun cA kA comp f1 f2 f3 f4 => ?_
  obtain ⟨kB, cB, -, -, -, f5⟩ := (C.2.2.2.2.2.1.2 t _ ht).2
  have hcc : cA = G.2.2.1 t := Option.some.inj (f1.symm.trans f5)
  subst hcc
  generalize hH1 : H.push ({ cls := G.2.2.1 t, slots := Array.replicate n.toNatClampNeg .null, vm := .none } : Cell) = H1
  have z1 : H1.size = H.size + 1 := by rw [← hH1, Array.size_push]
  have e1 : H1[H.size]? = some (arrV (G.2.2.1 t) n.toNatClampNeg (fun _ => .null)) := by rw [← hH1, Array.getElem?_push_size, ← arrV_new]
  have o1 : ∀ q : Nat, q < H.size → H1[q]? = H[q]? := fun q hq => by rw [← hH1, Array.getElem?_push, if_neg (Nat.ne_of_lt hq)]
  rw [hz]
  refine kk p l e R s m args below meth c H1 _ (cells + 1) (slots + n.toNatClampNeg) Z ls C (gW_new hw ?_ z1 o1) ⟨Nat.le_trans hs.1 (by omega), fun x g1 g2 => (o1 x (by have := hs.1; omega)).trans (hs.2.1 x g1 g2), hs.2.2⟩ hl h1 h2 (by omega) (by omega) ?_
  · show H1[H.size]? = some (vp_cell _ _)
    rw [vp_cell_q]
    exact e1
  · intro M' pc' lv' st' H' locs' cells' slots' ls' q1 q2 q3 q4 q5 q6
    exact K M' pc' lv' st' H' locs' cells' slots' ls' q1 q2 q3 q4 (by omega) (by omega)
end GF
end
section
/-! CONTRACTS over the small machine, and the calls. -/
def gRt (k : gMd) (pc : Nat) (st : List Value) (v : Option Value) : Prop :=
  (∃ (x : Int32) (ty : FieldType), st = [.int x] ∧ v = some (.int x) ∧ decode k.2.1 pc = .ok (.ireturn, 1) ∧ k.2.2.2 = some ty ∧ narrow ty (.int x) = .int x) ∨
  (∃ x : Int64, st = [.long x] ∧ v = some (.long x) ∧ decode k.2.1 pc = .ok (.lreturn, 1) ∧ k.2.2.2 = some .long) ∨
  (st = [] ∧ v = none ∧ decode k.2.1 pc = .ok (.return_, 1) ∧ k.2.2.2 = none) ∨
  (∃ (w : Value) (rt : FieldType), st = [w] ∧ v = some w ∧ decode k.2.1 pc = .ok (.areturn, 1) ∧ k.2.2.2 = some rt ∧ ((∃ n, rt = .object n) ∨ ∃ t, rt = .array t) ∧ (w = .null ∨ ∃ a, w = .ref a))
abbrev gPq : Type := gM → Option Value → Prop
abbrev gQ (k : gMd) (Qr : gPq) : gP := fun M' pc' _ st' => ∃ v, gRt k pc' st' v ∧ Qr M' v
def gPre (G : gG) (M : gM) : State → Prop := fun U => gW G M U.heap ∧ va_K (gD G) vwCl (gTys G) U ∧ gStat G U U.heap ∧ gNw U
def gPost (G : gG) (Qr : gPq) : Array Value → State → Outcome → State → Prop := fun _ st o t => (∃ (v : Option Value) (M' : gM), o = .returned v ∧ Qr M' v ∧ gW G M' t.heap) ∧ va_F (gA G) st t
abbrev gWs (k : gMd) : List Cond := .code k.1 k.2.1 k.2.2.1 k.2.2.2 :: gW0
def gCon (G : gG) (k : gMd) (d nc ns : Nat) (M : gM) (As : List Value) (Qr : gPq) : Prop := ∀ l : Launch, Met l k.1 (gWs k) ({ frames := d, cells := nc, slots := ns, locals := 39 * d } : Room) (va_Pc As (gPre G M)) (gPost G Qr) nc ns (gA G)
theorem gStat_moved {G : gG} {u U : State} {H : Heap} (hvm : u.vm.Alike U.vm) (h : gStat G u H) : gStat G U H := ⟨h.1.moved hvm, fun i hi => ⟨(h.2 i hi).1.moved hvm, (h.2 i hi).2.moved hvm⟩⟩
theorem gStat_kept {G : gG} {U : State} {H H1 : Heap} (h : gStat G U H) (hq : ∀ a : Nat, a < H.size → ¬ gA G a → H1[a]? = H[a]?) : gStat G U H1 := ⟨h.1.kept hq, fun i hi => ⟨(h.2 i hi).1.kept hq, (h.2 i hi).2.kept hq⟩⟩
theorem gPre_blind (G : gG) (M : gM) (As : List Value) : FrameBlind (va_Pc As (gPre G M)) := by
  intro a U g mk q
  obtain ⟨q0, q1, q2, q3, q4⟩ := q
  exact ⟨q0, q1, va_K.moved (u := U) (U := U.calling g mk a) (Vm.Alike.refl U.vm) q2, gStat_moved (u := U) (U := U.calling g mk a) (Vm.Alike.refl U.vm) q3, gNw_same (s := U) (U := U.calling g mk a) rfl q4⟩
set_option maxHeartbeats 1000000 in
theorem gCon_of {G : gG} {k : gMd} {d nc ns : Nat} {M : gM} {As : List Value} {Qr : gPq} (hp : plainName k.1.cls = true) (hA : (lg_sl As).length ≤ k.2.2.1) (h : gJ G k d nc ns M 0 (lv_args 0 As) [] (gQ k Qr)) : gCon G k d nc ns M As Qr := by
  intro l
  refine Met.ofW (cc := k.2.1) (maxL := k.2.2.1) (ret := k.2.2.2) hp rfl ?_
  intro p e s m args below meth c s₁ B hml hv
  obtain ⟨rfl, hW, hK, hSt, hNw⟩ := hv
  have hx := B.exec
  have hb := B.bytes
  have hr := B.returns
  have hts0 := atoms_spec (ws := gWs k) B.pre
  have hown : s.vm.findClass k.1.cls = some m.cls := findClass_of_methodNamed B.named
  have hlocks := B.notSynchronized
  have hin : meth.name = k.1.name := (name_of_methodNamed B.named B.method).1
  have hl := lv_entry As (n := k.2.2.1) hA
  rw [lg_entry_eq]
  generalize (lg_sl As ++ List.replicate (k.2.2.1 - (lg_sl As).length) Slot.unset).toArray = ls at hl ⊢
  refine h p l e _ s m _ below meth c s.heap [] 0 0 _ ls ⟨hx, hb, hml, hown, fun w hw => hts0 w (List.mem_cons_of_mem _ hw), hK, hSt, hW.2.1, hin, hNw⟩ hW va_S.rf hl (Nat.le_refl _) (Nat.le_refl _) (Nat.le_of_eq (Nat.zero_add _)) (Nat.le_of_eq (Nat.zero_add _)) ?_
  intro M' pc' lv' st' H' locs' cells' slots' ls' hq q2 q3 q4 q5 q6
  obtain ⟨v, hv, hQ⟩ := hq
  refine W.widen (k := nc) (n := ns) (by omega) (by omega) ?_
  rcases hv with ⟨x, ty, rfl, rfl, hd, hr2, hn⟩ | ⟨x, rfl, rfl, hd, hr2⟩ | ⟨rfl, rfl, hd, hr2⟩ | ⟨w, rt, rfl, rfl, hd, hr2, hrt, hw⟩
  · exact W.zret hx hb (hr.trans hr2) hn (fun t ht hWt => ⟨⟨_, M', rfl, hQ, by rw [ht]; exact q2⟩, q3.F ht⟩) q3.2.2 hd hlocks
  · exact W.lret hx hb (hr.trans hr2) (fun t ht hWt => ⟨⟨_, M', rfl, hQ, by rw [ht]; exact q2⟩, q3.F ht⟩) q3.2.2 hd hlocks
  · exact W.vret hx hb (hr.trans hr2) (fun t ht hWt => ⟨⟨_, M', rfl, hQ, by rw [ht]; exact q2⟩, q3.F ht⟩) q3.2.2 hd hlocks
  · exact W.aret hx hb (hr.trans hr2) hrt hw (fun t ht hWt => ⟨⟨_, M', rfl, hQ, by rw [ht]; exact q2⟩, q3.F ht⟩) q3.2.2 hd hlocks
theorem gCon_mono {G : gG} {k : gMd} {d nc ns : Nat} {M : gM} {As : List Value} {Qr Qr2 : gPq} (h : gCon G k d nc ns M As Qr) (hq : ∀ M' v, Qr M' v → Qr2 M' v) : gCon G k d nc ns M As Qr2 := by
  intro l
  intro p e ha hc hk s m args below hf happ hP ht
  obtain ⟨n, o, h1, h2, h3, ⟨⟨v, M', e1, e2, e3⟩, h4⟩, h5⟩ := h l p e ha hc hk s m args below hf happ hP ht
  exact ⟨n, o, h1, h2, h3, ⟨⟨v, M', e1, hq M' v e2, e3⟩, h4⟩, h5⟩
section GK
variable {G : gG} {k : gMd} {d nc ns : Nat} {M : gM} {pc : Nat} {lv lv2 : List (Nat × Value)} {st : List Value} {Q : gP}
theorem gJ_iret {x : Int32} {Qr : gPq} (hd : decode k.2.1 pc = .ok (.ireturn, 1)) (hr : k.2.2.2 = some .int) (h : Qr M (some (.int x))) : gJ G k d nc ns M pc lv [.int x] (gQ k Qr) :=
  gJ_done ⟨_, Or.inl ⟨x, .int, rfl, rfl, hd, hr, rfl⟩, h⟩
theorem gJ_zret {x : Int32} {Qr : gPq} (hd : decode k.2.1 pc = .ok (.ireturn, 1)) (hr : k.2.2.2 = some .boolean) (hx : x = 0 ∨ x = 1) (h : Qr M (some (.int x))) : gJ G k d nc ns M pc lv [.int x] (gQ k Qr) :=
  gJ_done ⟨_, Or.inl ⟨x, .boolean, rfl, rfl, hd, hr, by rcases hx with rfl | rfl <;> rfl⟩, h⟩
theorem gJ_lret {x : Int64} {Qr : gPq} (hd : decode k.2.1 pc = .ok (.lreturn, 1)) (hr : k.2.2.2 = some .long) (h : Qr M (some (.long x))) : gJ G k d nc ns M pc lv [.long x] (gQ k Qr) :=
  gJ_done ⟨_, Or.inr (Or.inl ⟨x, rfl, rfl, hd, hr⟩), h⟩
theorem gJ_vret {Qr : gPq} (hd : decode k.2.1 pc = .ok (.return_, 1)) (hr : k.2.2.2 = none) (h : Qr M none) : gJ G k d nc ns M pc lv [] (gQ k Qr) :=
  gJ_done ⟨_, Or.inr (Or.inr (Or.inl ⟨rfl, rfl, hd, hr⟩)), h⟩
theorem gJ_aret {a : Nat} {rt : FieldType} {Qr : gPq} (hd : decode k.2.1 pc = .ok (.areturn, 1)) (hr : k.2.2.2 = some rt) (hrt : (∃ n, rt = .object n) ∨ ∃ t, rt = .array t) (h : Qr M (some (.ref a))) : gJ G k d nc ns M pc lv [.ref a] (gQ k Qr) :=
  gJ_done ⟨_, Or.inr (Or.inr (Or.inr ⟨_, rt, rfl, rfl, hd, hr, hrt, Or.inr ⟨a, rfl⟩⟩)), h⟩
theorem gJ_aretN {rt : FieldType} {Qr : gPq} (hd : decode k.2.1 pc = .ok (.areturn, 1)) (hr : k.2.2.2 = some rt) (hrt : (∃ n, rt = .object n) ∨ ∃ t, rt = .array t) (h : Qr M (some .null)) : gJ G k d nc ns M pc lv [.null] (gQ k Qr) :=
  gJ_done ⟨_, Or.inr (Or.inr (Or.inr ⟨_, rt, rfl, rfl, hd, hr, hrt, Or.inl rfl⟩)), h⟩
/-- the words of a call: the method's own, and its link -/
def gLkB (y : gMd) (n : Nat) : Prop := Cond.code y.1 y.2.1 y.2.2.1 y.2.2.2 ∈ gW0 ∧ Cond.initialized y.1.cls ∈ gW0 ∧ (y.1.cls ≠ "java/lang/invoke/MethodHandle" ∧ y.1.cls ≠ "java/lang/invoke/VarHandle" ∧ (parseMethodDescriptor y.1.desc).map (fun d => d.parameters.length) = some n) ∧ y.2.2.1 ≤ 20
theorem gLk_good {y : gMd} {n : Nat} (h : gLkB y n) : GoodIn gW0 (gWs y) := by
  intro w hw
  have hm : w ∈ gW0 := (List.mem_cons.mp hw).elim (fun e => e ▸ h.1) id
  exact ⟨hm, good_of_word (gw_good hm)⟩
section GRUN
variable {p : Program} {l : Launch} {e : Env} {R : Room} {s : State} {m : MethodId} {args : Array Value} {below : List Frame} {meth : Method} {c : Code} {H : Heap} {locs : List Loc} {cells slots : Nat} {Z : State → Prop} {ls : Array Slot}
theorem gPre_call {As : List Value} (C : gCtx G k p s m args meth c) (hw : gW G M H) (hs : va_S (gA G) s.heap H locs) : ∀ U : State, U.heap = H → s.WarmedH U.vm → va_Pc As (gPre G M) As.toArray U := by
  intro U hU hW
  refine ⟨rfl, by rw [hU]; exact hw, va_K.moved hW.alike C.2.2.2.2.2.1, ?_, gNw_warm hW C.2.2.2.2.2.2.2.2.2⟩
  rw [hU]
  exact gStat_moved hW.alike (gStat_kept C.2.2.2.2.2.2.1 hs.2.1)
theorem gRun_on {a : Array Value} {rest st0 : List Value} {mc ms : Nat} {Qr : gPq} (hr : va_Run p l e R s m args below meth c H locs cells slots mc ms (F0 m pc ls st0) rest (gPost G Qr a) (gA G))
    (C : gCtx G k p s m args meth c) (hs : va_S (gA G) s.heap H locs) (hl : lv_has ls k.2.2.1 lv) (h1 : d ≤ R.frames) (h2 : 39 * d ≤ R.locals) (h3 : cells + (nc + mc) ≤ R.cells) (h4 : slots + (ns + ms) ≤ R.slots)
    (K : ∀ (M' : gM) (pc' : Nat) (lv' : List (Nat × Value)) (st' : List Value) (H' : Heap) (locs' : List Loc) (cells' slots' : Nat) (ls' : Array Slot), Q M' pc' lv' st' → gW G M' H' → va_S (gA G) s.heap H' locs' → lv_has ls' k.2.2.1 lv' → cells' ≤ cells + (nc + mc) → slots' ≤ slots + (ns + ms) →
      W p l e R s m args below meth c H' locs' cells' slots' Z (F0 m pc' ls' st'))
    (kk : ∀ (M' : gM) (v : Option Value), Qr M' v → gJ G k d nc ns M' (pc + 3) lv (v.toList ++ rest) Q) : W p l e R s m args below meth c H locs cells slots Z (F0 m pc ls st0) := by
  intro T hT X
  obtain ⟨v, st₀, t, T', L, h0, X', hL, e1, e2, ⟨⟨v2, M', hv, hq, hw2⟩, hF⟩, st⟩ := hr T hT X
  cases hv
  obtain ⟨z1, z2⟩ := hF
  rw [h0] at z1 z2
  obtain ⟨t2, a1, b1⟩ := kk M' v hq p l e R s m args below meth c T'.heap (locs ++ L) (cells + mc) (slots + ms) Z ls C (by rw [e1]; exact hw2)
    ⟨Nat.le_trans hs.1 (by rw [e1]; exact z1), fun q g1 g2 => by rw [e1, z2 q (Nat.lt_of_lt_of_le g1 hs.1) g2]; exact hs.2.1 q g1 g2, fun q hq => by
      rcases List.mem_append.mp hq with h | h
      · exact hs.2.2 q h
      · exact hL q h⟩ hl h1 h2 (by omega) (by omega)
    (fun M'' pc'' lv'' st'' H'' locs'' cells'' slots'' ls'' r1 r2 r3 r4 r5 r6 => K M'' pc'' lv'' st'' H'' locs'' cells'' slots'' ls'' r1 r2 r3 r4 (by omega) (by omega)) T' rfl X'
  exact ⟨t2, st t2 a1, b1⟩
end GRUN
theorem gRecv {U : State} {H : Heap} {b ci : Nat} {fs : List Value} {Cn : String} (hK : va_K (gD G) vwCl (gTys G) U) (hw : gW G M H) (ho : M.1 b = some (gO ci fs)) (hci : vwCl[ci]?.map (fun r => r.1) = some Cn) : ∃ cell : Cell, H[b]? = some cell ∧ cell.vm.isStatics = false ∧ U.vm.findClass Cn = some cell.cls := by
  cases hq : vwCl[ci]? with
  | none => rw [hq] at hci; cases hci
  | some q =>
    rw [hq] at hci
    have e : q.1 = Cn := Option.some.inj hci
    rw [← e]
    exact va_recv hK (gW_one hw ho) (q0 := 0) hq rfl
theorem gJ_callV {i n d2 mc ms : Nat} {y : gMd} {As rest stk : List Value} {b ci : Nat} {fs : List Value} {Qr : gPq} (hB : gLkB y n) (hL : Cond.methodLink k.1.cls i y.1 ∈ gW0) (hI : Cond.instanceMethod y.1 ∈ gW0) (hS : Cond.selects y.1.cls y.1 y.1 ∈ gW0) (hd : decode k.2.1 pc = .ok (.invokevirtual i, 3)) (hC : gCon G y d2 mc ms M (.ref b :: As) Qr) (ho : M.1 b = some (gO ci fs)) (hci : vwCl[ci]?.map (fun r => r.1) = some y.1.cls) (hst : stk = As.reverse ++ .ref b :: rest) (hcat : (rest.map fun v => v.category).sum ≤ 8) (hn : As.length = n) (hd2 : d2 + 1 ≤ d) (kk : ∀ (M2 : gM) (v : Option Value), Qr M2 v → gJ G k d nc ns M2 (pc + 3) lv (v.toList ++ rest) Q) : gJ G k d (nc + mc) (ns + ms) M pc lv stk Q := by
  intro p l e R s m args below meth c H locs cells slots Z ls C hw hs hl h1 h2 h3 h4 K
  subst hst
  have hts := C.2.2.2.2.1
  have hR : d2 + 1 ≤ R.frames ∧ 8 + (y.2.2.1 + 11) + 39 * d2 ≤ R.locals := by have := hB.2.2.2; (try dsimp only at this); omega
  have cb := (And.intro (callB_of (rm := ({ frames := d2, cells := mc, slots := ms, locals := 39 * d2 } : Room)) (own := k.1.cls) (index := i) n hts (gLk_good hB) rfl rfl rfl (hts _ hB.2.1) (hts _ hL) hB.2.2.1 hR) (And.intro (hts _ hI) (hts _ hS)))
  refine gRun_on (va_runV (As := As) (rest := rest) ⟨C.1, C.2.1, C.2.2.1, C.2.2.2.1, hts⟩ (hC l) cb ⟨gPre_blind G M _, gRecv C.2.2.2.2.2.1 hw ho hci, gPre_call C hw hs⟩ rfl hn hl.1 rfl (lv_room hcat) hd ⟨by omega, by omega⟩) C hs hl h1 h2 h3 h4 K kk
theorem gJ_callS {i n d2 mc ms : Nat} {y : gMd} {As rest stk : List Value} {Qr : gPq} (hB : gLkB y n) (hL : Cond.methodLink k.1.cls i y.1 ∈ gW0) (hI : Cond.static y.1 ∈ gW0) (hd : decode k.2.1 pc = .ok (.invokestatic i, 3)) (hC : gCon G y d2 mc ms M As Qr) (hst : stk = As.reverse ++ rest) (hcat : (rest.map fun v => v.category).sum ≤ 8) (hn : As.length = n) (hd2 : d2 + 1 ≤ d) (kk : ∀ (M2 : gM) (v : Option Value), Qr M2 v → gJ G k d nc ns M2 (pc + 3) lv (v.toList ++ rest) Q) : gJ G k d (nc + mc) (ns + ms) M pc lv stk Q := by
  intro p l e R s m args below meth c H locs cells slots Z ls C hw hs hl h1 h2 h3 h4 K
  subst hst
  have hts := C.2.2.2.2.1
  have hR : d2 + 1 ≤ R.frames ∧ 8 + (y.2.2.1 + 11) + 39 * d2 ≤ R.locals := by have := hB.2.2.2; (try dsimp only at this); omega
  have cb := (And.intro (callB_of (rm := ({ frames := d2, cells := mc, slots := ms, locals := 39 * d2 } : Room)) (own := k.1.cls) (index := i) n hts (gLk_good hB) rfl rfl rfl (hts _ hB.2.1) (hts _ hL) hB.2.2.1 hR) (hts _ hI))
  refine gRun_on (va_runS (As := As) (rest := rest) ⟨C.1, C.2.1, C.2.2.1, C.2.2.2.1, hts⟩ (hC l) cb ⟨gPre_blind G M _, gPre_call C hw hs⟩ rfl hn hl.1 rfl (lv_room hcat) hd ⟨by omega, by omega⟩) C hs hl h1 h2 h3 h4 K kk
theorem gJ_callSN {i n d2 mc ms : Nat} {y : gMd} {As rest stk : List Value} {Qr : gPq} (hB : gLkB y n) (hL : Cond.methodLinkNest k.1.cls i y.1 RX11 ∈ gNest) (hI : Cond.static y.1 ∈ gW0) (hd : decode k.2.1 pc = .ok (.invokestatic i, 3)) (hC : gCon G y d2 mc ms M As Qr) (hst : stk = As.reverse ++ rest) (hcat : (rest.map fun v => v.category).sum ≤ 8) (hn : As.length = n) (hd2 : d2 + 1 ≤ d) (kk : ∀ (M2 : gM) (v : Option Value), Qr M2 v → gJ G k d nc ns M2 (pc + 3) lv (v.toList ++ rest) Q) : gJ G k d (nc + mc) (ns + ms) M pc lv stk Q := by
  intro p l e R s m args below meth c H locs cells slots Z ls C hw hs hl h1 h2 h3 h4 K
  subst hst
  have hts := C.2.2.2.2.1
  have hR : d2 + 1 ≤ R.frames ∧ 8 + (y.2.2.1 + 11) + 39 * d2 ≤ R.locals := by have := hB.2.2.2; (try dsimp only at this); omega
  have cb := (And.intro (va_cnB (rm := ({ frames := d2, cells := mc, slots := ms, locals := 39 * d2 } : Room)) (own := k.1.cls) (index := i) (host := RX11) n hts (gLk_good hB) rfl rfl rfl (C.2.2.2.2.2.2.2.2.2.1 _ hL) (hts _ hB.2.1) hB.2.2.1 hR) (And.intro (hts _ hI) trivial))
  refine gRun_on (va_runSN (As := As) (rest := rest) ⟨C.1, C.2.1, C.2.2.1, C.2.2.2.1, hts⟩ (hC l) cb ⟨gPre_blind G M _, gPre_call C hw hs⟩ rfl hn hl.1 rfl (lv_room hcat) hd ⟨by omega, by omega⟩) C hs hl h1 h2 h3 h4 K kk
theorem gJ_callI {i n d2 mc ms : Nat} {y : gMd} {As rest stk : List Value} {b : Nat} {Qr : gPq} (hB : gLkB y n) (hL : Cond.methodLink k.1.cls i y.1 ∈ gW0) (hI : Cond.instanceMethod y.1 ∈ gW0) (hnm : y.1.name = "<init>") (hrt : y.2.2.2 = none) (hd : decode k.2.1 pc = .ok (.invokespecial i, 3)) (hC : gCon G y d2 mc ms M (.ref b :: As) Qr) (hst : stk = As.reverse ++ .ref b :: rest) (hcat : (rest.map fun v => v.category).sum ≤ 8) (hn : As.length = n) (hd2 : d2 + 1 ≤ d) (kk : ∀ (M2 : gM) (v : Option Value), Qr M2 v → gJ G k d nc ns M2 (pc + 3) lv (v.toList ++ rest) Q) : gJ G k d (nc + mc) (ns + ms) M pc lv stk Q := by
  intro p l e R s m args below meth c H locs cells slots Z ls C hw hs hl h1 h2 h3 h4 K
  subst hst
  have hts := C.2.2.2.2.1
  obtain ⟨y1, y2, y3, y4⟩ := y
  have hrt : y4 = none := hrt
  subst hrt
  have hR : d2 + 1 ≤ R.frames ∧ 8 + (y3 + 11) + 39 * d2 ≤ R.locals := by have := hB.2.2.2; (try dsimp only at this); omega
  have cb := (And.intro (callB_of (rm := ({ frames := d2, cells := mc, slots := ms, locals := 39 * d2 } : Room)) (own := k.1.cls) (index := i) n hts (gLk_good hB) rfl rfl rfl (hts _ hB.2.1) (hts _ hL) hB.2.2.1 hR) (And.intro hnm (hts _ hI)))
  refine gRun_on (va_runI (As := As) (rest := rest) ⟨C.1, C.2.1, C.2.2.1, C.2.2.2.1, hts⟩ (hC l) cb ⟨gPre_blind G M _, gPre_call C hw hs⟩ rfl hn hl.1 rfl (lv_room hcat) hd ⟨by omega, by omega⟩) C hs hl h1 h2 h3 h4 K kk
theorem gJ_callIN {i n d2 mc ms : Nat} {y : gMd} {As rest stk : List Value} {b : Nat} {Qr : gPq} (hB : gLkB y n) (hL : Cond.methodLinkNest k.1.cls i y.1 RX11 ∈ gNest) (hI : Cond.instanceMethod y.1 ∈ gW0) (hnm : y.1.name = "<init>") (hrt : y.2.2.2 = none) (hd : decode k.2.1 pc = .ok (.invokespecial i, 3)) (hC : gCon G y d2 mc ms M (.ref b :: As) Qr) (hst : stk = As.reverse ++ .ref b :: rest) (hcat : (rest.map fun v => v.category).sum ≤ 8) (hn : As.length = n) (hd2 : d2 + 1 ≤ d) (kk : ∀ (M2 : gM) (v : Option Value), Qr M2 v → gJ G k d nc ns M2 (pc + 3) lv (v.toList ++ rest) Q) : gJ G k d (nc + mc) (ns + ms) M pc lv stk Q := by
  intro p l e R s m args below meth c H locs cells slots Z ls C hw hs hl h1 h2 h3 h4 K
  subst hst
  have hts := C.2.2.2.2.1
  obtain ⟨y1, y2, y3, y4⟩ := y
  have hrt : y4 = none := hrt
  subst hrt
  have hR : d2 + 1 ≤ R.frames ∧ 8 + (y3 + 11) + 39 * d2 ≤ R.locals := by have := hB.2.2.2; (try dsimp only at this); omega
  have cb := (And.intro (va_cnB (rm := ({ frames := d2, cells := mc, slots := ms, locals := 39 * d2 } : Room)) (own := k.1.cls) (index := i) (host := RX11) n hts (gLk_good hB) rfl rfl rfl (C.2.2.2.2.2.2.2.2.2.1 _ hL) (hts _ hB.2.1) hB.2.2.1 hR) (And.intro hnm (hts _ hI)))
  refine gRun_on (va_runIN (As := As) (rest := rest) ⟨C.1, C.2.1, C.2.2.1, C.2.2.2.1, hts⟩ (hC l) cb ⟨gPre_blind G M _, gPre_call C hw hs⟩ rfl hn hl.1 rfl (lv_room hcat) hd ⟨by omega, by omega⟩) C hs hl h1 h2 h3 h4 K kk
theorem gJ_copyi {a0 a n0 n1 : Nat} {f g : Nat → Int32} {sp dp n : Int32} {i : Nat} (hL : Cond.methodLink k.1.cls i arraycopyName ∈ gW0) (hd : decode k.2.1 pc = .ok (.invokestatic i, 3)) (ha0 : M.1 a0 = some (gI n0 f)) (ha1 : M.1 a = some (gI n1 g)) (k1 : ¬ sp < 0) (k2 : ¬ dp < 0) (k3 : ¬ n < 0) (k4 : sp.toNatClampNeg + n.toNatClampNeg ≤ n0) (k5 : dp.toNatClampNeg + n.toNatClampNeg ≤ n1) (hcat : (st.map fun v => v.category).sum + (nativeFrameWords "java/lang/System" "arraycopy" 5 + 11) ≤ 39) (hdp : 1 ≤ d) (kk : gJ G k d nc ns (gUp M a (gI n1 (va_cpy f g sp.toNatClampNeg dp.toNatClampNeg n.toNatClampNeg))) (pc + 3) lv st Q) : gJ G k d nc ns M pc lv (.int n :: .int dp :: .ref a :: .int sp :: .ref a0 :: st) Q := by
  intro p l e R s m args below meth c H locs cells slots Z ls C hw hs hl h1 h2 h3 h4 K
  have hts := C.2.2.2.2.1
  have nn : ∀ z : Int32, ¬ z < 0 → z.toInt = (z.toNatClampNeg : Int) := by
    intro z hz
    have hz0 : (0 : Int) ≤ z.toInt := by
      have := Int32.not_lt.mp hz
      simpa using Int32.le_iff_toInt_le.mp this
    show z.toInt = ((z.toInt.toNat : Nat) : Int)
    omega
  intro T hT X
  have hc0 : H[a0]? = some (vp_cell (G.2.2.1 0) (n0, .inl f)) := (hw.1 a0 _ ha0).2
  have hc1 : H[a]? = some (vp_cell (G.2.2.1 0) (n1, .inl g)) := (hw.1 a _ ha1).2
  obtain ⟨-, kc0, hk0, cm0, hkk0⟩ := (C.2.2.2.2.2.1.2 0 _ rfl).1 n0 (fun j => .int (f j))
  obtain ⟨-, kc1, hk1, cm1, hkk1⟩ := (C.2.2.2.2.2.1.2 0 _ rfl).1 n1 (fun j => .int (g j))
  obtain ⟨vm', X', step⟩ := X.arraycopy C.1 C.2.2.2.1 (hts _ hL) (hts _ gw_ac2) (hts _ gw_ac1) (hts _ gw_ac3) (src := a0) (dst := a) (cs := vp_cell (G.2.2.1 0) (n0, .inl f)) (cd := vp_cell (G.2.2.1 0) (n1, .inl g)) (srcPos := sp) (destPos := dp) (n := n) (by rw [hT]; exact hc0) (by rw [hT]; exact hc1)
    (fun _ h => by cases h) (fun _ h => by cases h) (fun h => by cases h) (fun h => by cases h) hk0 hk1 hkk0 hkk1 (by simp [refKind]) k1 k2 k3
    (by rw [nn sp k1, nn n k3]; show ¬ _ > ((arrV (G.2.2.1 0) n0 (fun j => .int (f j))).slots.size : Int); rw [arrV_size]; omega)
    (by rw [nn dp k2, nn n k3]; show ¬ _ > ((arrV (G.2.2.1 0) n1 (fun j => .int (g j))).slots.size : Int); rw [arrV_size]; omega)
    (fun vm₁ _ i hi => by
      have e : (vp_cell (G.2.2.1 0) (n0, .inl f)).slots.getD (sp.toNatClampNeg + i) .null = .int (f (sp.toNatClampNeg + i)) := by
        show (arrV (G.2.2.1 0) n0 (fun j => .int (f j))).slots.getD _ _ = _
        rw [Array.getD_eq_getD_getElem?, arrV_read _ _ (by omega)]
        rfl
      rw [e]
      exact ⟨rfl, trivial⟩)
    (g := F0 m pc ls (.int n :: .int dp :: .ref a :: .int sp :: .ref a0 :: st)) rfl (by rw [C.2.2.1]; exact hl.1) (rest := st) rfl (by rw [C.2.1]; exact hd) (by omega) (by show 2 * 0 + _ + _ ≤ _; omega)
  have e1 : copied (vp_cell (G.2.2.1 0) (n0, .inl f)) (vp_cell (G.2.2.1 0) (n1, .inl g)) sp dp n = vp_cell (G.2.2.1 0) (n1, .inl (va_cpy f g sp.toNatClampNeg dp.toNatClampNeg n.toNatClampNeg)) := va_copied (fun z => .int z) (G.2.2.1 0) (G.2.2.1 0) f g k4
  rw [e1] at X' step
  have hlt : a < H.size := (Array.getElem?_eq_some_iff.mp hc1).1
  have hheap : ((T.setVm vm').setCell a (vp_cell (G.2.2.1 0) (n1, .inl (va_cpy f g sp.toNatClampNeg dp.toNatClampNeg n.toNatClampNeg)))).heap = H.setIfInBounds a (vp_cell (G.2.2.1 0) (n1, .inl (va_cpy f g sp.toNatClampNeg dp.toNatClampNeg n.toNatClampNeg))) := by rw [← hT]; rfl
  have oq : ∀ q : Nat, q ≠ a → (H.setIfInBounds a (vp_cell (G.2.2.1 0) (n1, .inl (va_cpy f g sp.toNatClampNeg dp.toNatClampNeg n.toNatClampNeg))))[q]? = H[q]? := fun q hq => by simp [Array.getElem?_setIfInBounds, Ne.symm hq]
  obtain ⟨t, a1, b1⟩ := kk p l e R s m args below meth c _ _ cells slots Z ls C (gW_up hw ha1 (show (H.setIfInBounds a _)[a]? = some _ by simp [Array.getElem?_setIfInBounds, hlt]) (by simp) oq) ⟨by simp; exact hs.1, fun q g1 g2 => by
      rw [oq q (fun e => g2 (by rw [e]; exact (hw.1 a _ ha1).1))]
      exact hs.2.1 q g1 g2, fun q hq => by
      rcases List.mem_append.mp hq with h | h
      · exact hs.2.2 q h
      · obtain ⟨z, -, hz⟩ := List.mem_map.mp h
        rw [← hz]
        exact (hw.1 a _ ha1).1⟩ hl h1 h2 h3 h4 K _ hheap X'
  exact ⟨t, step t a1, b1⟩
theorem gJ_copyl {a0 a n0 n1 : Nat} {f g : Nat → Int64} {sp dp n : Int32} {i : Nat} (hL : Cond.methodLink k.1.cls i arraycopyName ∈ gW0) (hd : decode k.2.1 pc = .ok (.invokestatic i, 3)) (ha0 : M.1 a0 = some (gL n0 f)) (ha1 : M.1 a = some (gL n1 g)) (k1 : ¬ sp < 0) (k2 : ¬ dp < 0) (k3 : ¬ n < 0) (k4 : sp.toNatClampNeg + n.toNatClampNeg ≤ n0) (k5 : dp.toNatClampNeg + n.toNatClampNeg ≤ n1) (hcat : (st.map fun v => v.category).sum + (nativeFrameWords "java/lang/System" "arraycopy" 5 + 11) ≤ 39) (hdp : 1 ≤ d) (kk : gJ G k d nc ns (gUp M a (gL n1 (va_cpy f g sp.toNatClampNeg dp.toNatClampNeg n.toNatClampNeg))) (pc + 3) lv st Q) : gJ G k d nc ns M pc lv (.int n :: .int dp :: .ref a :: .int sp :: .ref a0 :: st) Q := by
  intro p l e R s m args below meth c H locs cells slots Z ls C hw hs hl h1 h2 h3 h4 K
  have hts := C.2.2.2.2.1
  have nn : ∀ z : Int32, ¬ z < 0 → z.toInt = (z.toNatClampNeg : Int) := by
    intro z hz
    have hz0 : (0 : Int) ≤ z.toInt := by
      have := Int32.not_lt.mp hz
      simpa using Int32.le_iff_toInt_le.mp this
    show z.toInt = ((z.toInt.toNat : Nat) : Int)
    omega
  intro T hT X
  have hc0 : H[a0]? = some (vp_cell (G.2.2.1 2) (n0, .inr (.inl f))) := (hw.1 a0 _ ha0).2
  have hc1 : H[a]? = some (vp_cell (G.2.2.1 2) (n1, .inr (.inl g))) := (hw.1 a _ ha1).2
  obtain ⟨-, kc0, hk0, cm0, hkk0⟩ := (C.2.2.2.2.2.1.2 2 _ rfl).1 n0 (fun j => .long (f j))
  obtain ⟨-, kc1, hk1, cm1, hkk1⟩ := (C.2.2.2.2.2.1.2 2 _ rfl).1 n1 (fun j => .long (g j))
  obtain ⟨vm', X', step⟩ := X.arraycopy C.1 C.2.2.2.1 (hts _ hL) (hts _ gw_ac2) (hts _ gw_ac1) (hts _ gw_ac3) (src := a0) (dst := a) (cs := vp_cell (G.2.2.1 2) (n0, .inr (.inl f))) (cd := vp_cell (G.2.2.1 2) (n1, .inr (.inl g))) (srcPos := sp) (destPos := dp) (n := n) (by rw [hT]; exact hc0) (by rw [hT]; exact hc1)
    (fun _ h => by cases h) (fun _ h => by cases h) (fun h => by cases h) (fun h => by cases h) hk0 hk1 hkk0 hkk1 (by simp [refKind]) k1 k2 k3
    (by rw [nn sp k1, nn n k3]; show ¬ _ > ((arrV (G.2.2.1 2) n0 (fun j => .long (f j))).slots.size : Int); rw [arrV_size]; omega)
    (by rw [nn dp k2, nn n k3]; show ¬ _ > ((arrV (G.2.2.1 2) n1 (fun j => .long (g j))).slots.size : Int); rw [arrV_size]; omega)
    (fun vm₁ _ i hi => by
      have e : (vp_cell (G.2.2.1 2) (n0, .inr (.inl f))).slots.getD (sp.toNatClampNeg + i) .null = .long (f (sp.toNatClampNeg + i)) := by
        show (arrV (G.2.2.1 2) n0 (fun j => .long (f j))).slots.getD _ _ = _
        rw [Array.getD_eq_getD_getElem?, arrV_read _ _ (by omega)]
        rfl
      rw [e]
      exact ⟨rfl, trivial⟩)
    (g := F0 m pc ls (.int n :: .int dp :: .ref a :: .int sp :: .ref a0 :: st)) rfl (by rw [C.2.2.1]; exact hl.1) (rest := st) rfl (by rw [C.2.1]; exact hd) (by omega) (by show 2 * 0 + _ + _ ≤ _; omega)
  have e1 : copied (vp_cell (G.2.2.1 2) (n0, .inr (.inl f))) (vp_cell (G.2.2.1 2) (n1, .inr (.inl g))) sp dp n = vp_cell (G.2.2.1 2) (n1, .inr (.inl (va_cpy f g sp.toNatClampNeg dp.toNatClampNeg n.toNatClampNeg))) := va_copied (fun z => .long z) (G.2.2.1 2) (G.2.2.1 2) f g k4
  rw [e1] at X' step
  have hlt : a < H.size := (Array.getElem?_eq_some_iff.mp hc1).1
  have hheap : ((T.setVm vm').setCell a (vp_cell (G.2.2.1 2) (n1, .inr (.inl (va_cpy f g sp.toNatClampNeg dp.toNatClampNeg n.toNatClampNeg))))).heap = H.setIfInBounds a (vp_cell (G.2.2.1 2) (n1, .inr (.inl (va_cpy f g sp.toNatClampNeg dp.toNatClampNeg n.toNatClampNeg)))) := by rw [← hT]; rfl
  have oq : ∀ q : Nat, q ≠ a → (H.setIfInBounds a (vp_cell (G.2.2.1 2) (n1, .inr (.inl (va_cpy f g sp.toNatClampNeg dp.toNatClampNeg n.toNatClampNeg)))))[q]? = H[q]? := fun q hq => by simp [Array.getElem?_setIfInBounds, Ne.symm hq]
  obtain ⟨t, a1, b1⟩ := kk p l e R s m args below meth c _ _ cells slots Z ls C (gW_up hw ha1 (show (H.setIfInBounds a _)[a]? = some _ by simp [Array.getElem?_setIfInBounds, hlt]) (by simp) oq) ⟨by simp; exact hs.1, fun q g1 g2 => by
      rw [oq q (fun e => g2 (by rw [e]; exact (hw.1 a _ ha1).1))]
      exact hs.2.1 q g1 g2, fun q hq => by
      rcases List.mem_append.mp hq with h | h
      · exact hs.2.2 q h
      · obtain ⟨z, -, hz⟩ := List.mem_map.mp h
        rw [← hz]
        exact (hw.1 a _ ha1).1⟩ hl h1 h2 h3 h4 K _ hheap X'
  exact ⟨t, step t a1, b1⟩
end GK
end
section
theorem w_X0 : ∀ w ∈ u_ws RX0 TX0 5, w ∈ gW0 := by
  intro w h
  exact gw_in ((by decide +kernel : ∀ w ∈ u_ws RX0 TX0 5, w ∈ lw_tbl) w h) ((by decide +kernel : ∀ w ∈ u_ws RX0 TX0 5, goodWord w = true) w h)
theorem w_X2 : ∀ w ∈ u_ws RX2 TX2 4, w ∈ gW0 := by
  intro w h
  exact gw_in ((by decide +kernel : ∀ w ∈ u_ws RX2 TX2 4, w ∈ lw_tbl) w h) ((by decide +kernel : ∀ w ∈ u_ws RX2 TX2 4, goodWord w = true) w h)
theorem w_X3 : ∀ w ∈ u_ws RX3 TX3 3, w ∈ gW0 := by
  intro w h
  exact gw_in ((by decide +kernel : ∀ w ∈ u_ws RX3 TX3 3, w ∈ lw_tbl) w h) ((by decide +kernel : ∀ w ∈ u_ws RX3 TX3 3, goodWord w = true) w h)
theorem w_X4 : ∀ w ∈ u_ws RX4 TX4 2, w ∈ gW0 := by
  intro w h
  exact gw_in ((by decide +kernel : ∀ w ∈ u_ws RX4 TX4 2, w ∈ lw_tbl) w h) ((by decide +kernel : ∀ w ∈ u_ws RX4 TX4 2, goodWord w = true) w h)
theorem w_X5 : ∀ w ∈ u_ws RX5 TX5 3, w ∈ gW0 := by
  intro w h
  exact gw_in ((by decide +kernel : ∀ w ∈ u_ws RX5 TX5 3, w ∈ lw_tbl) w h) ((by decide +kernel : ∀ w ∈ u_ws RX5 TX5 3, goodWord w = true) w h)
theorem w_X6 : ∀ w ∈ u_ws RX6 TX6 5, w ∈ gW0 := by
  intro w h
  exact gw_in ((by decide +kernel : ∀ w ∈ u_ws RX6 TX6 5, w ∈ lw_tbl) w h) ((by decide +kernel : ∀ w ∈ u_ws RX6 TX6 5, goodWord w = true) w h)
theorem w_X7 : ∀ w ∈ u_ws RX7 TX7 8, w ∈ gW0 := by
  intro w h
  exact gw_in ((by decide +kernel : ∀ w ∈ u_ws RX7 TX7 8, w ∈ lw_tbl) w h) ((by decide +kernel : ∀ w ∈ u_ws RX7 TX7 8, goodWord w = true) w h)
theorem w_X8 : ∀ w ∈ u_ws RX8 TX8 3, w ∈ gW0 := by
  intro w h
  exact gw_in ((by decide +kernel : ∀ w ∈ u_ws RX8 TX8 3, w ∈ lw_tbl) w h) ((by decide +kernel : ∀ w ∈ u_ws RX8 TX8 3, goodWord w = true) w h)
theorem w_X9 : ∀ w ∈ u_ws RX9 TX9 5, w ∈ gW0 := by
  intro w h
  exact gw_in ((by decide +kernel : ∀ w ∈ u_ws RX9 TX9 5, w ∈ lw_tbl) w h) ((by decide +kernel : ∀ w ∈ u_ws RX9 TX9 5, goodWord w = true) w h)
theorem w_X10 : ∀ w ∈ u_ws RX10 TX10 4, w ∈ gW0 := by
  intro w h
  exact gw_in ((by decide +kernel : ∀ w ∈ u_ws RX10 TX10 4, w ∈ lw_tbl) w h) ((by decide +kernel : ∀ w ∈ u_ws RX10 TX10 4, goodWord w = true) w h)
theorem w_X11 : ∀ w ∈ u_ws RX11 TX11 5, w ∈ gW0 := by
  intro w h
  exact gw_in ((by decide +kernel : ∀ w ∈ u_ws RX11 TX11 5, w ∈ lw_tbl) w h) ((by decide +kernel : ∀ w ∈ u_ws RX11 TX11 5, goodWord w = true) w h)
theorem w_X12 : ∀ w ∈ u_ws RX12 TX12 12, w ∈ gW0 := by
  intro w h
  exact gw_in ((by decide +kernel : ∀ w ∈ u_ws RX12 TX12 12, w ∈ lw_tbl) w h) ((by decide +kernel : ∀ w ∈ u_ws RX12 TX12 12, goodWord w = true) w h)
theorem kL_7 : Cond.classLink RL 7 RX11 ∈ gW0 := gw_in (List.mem_of_getElem? (i := 71) (by decide +kernel)) rfl
theorem nL_7 : gCls RL 7 10 5 [.null, .null, .null, .null, .int 0] := ⟨RX11, TX11, tyX11, rfl, w_X11, tyX11_ok, kL_7, gw_in (List.mem_of_getElem? (i := 72) (by decide +kernel)) rfl, gw_in (List.mem_of_getElem? (i := 54) (by decide +kernel)) rfl, fun j hj => by rcases (show j = 0 ∨ j = 1 ∨ j = 2 ∨ j = 3 ∨ j = 4 by omega) with rfl | rfl | rfl | rfl | rfl <;> rfl⟩
theorem lL_9 : Cond.methodLink RL 9 yX11_init ∈ gW0 := gw_in (List.mem_of_getElem? (i := 73) (by decide +kernel)) rfl
theorem i_X11_init : Cond.instanceMethod yX11_init ∈ gW0 := gw_in (List.mem_of_getElem? (i := 74) (by decide +kernel)) rfl
theorem oX11_3 : Cond.methodLink RX11 3 objectInit ∈ gW0 := gw_in (List.mem_of_getElem? (i := 76) (by decide +kernel)) rfl
theorem kX11_9 : Cond.classLink RX11 9 RX10 ∈ gW0 := gw_in (List.mem_of_getElem? (i := 79) (by decide +kernel)) rfl
theorem nX11_9 : gCls RX11 9 9 4 [.null, .int 0, .int 0, .int 0] := ⟨RX10, TX10, tyX10, rfl, w_X10, tyX10_ok, kX11_9, gw_in (List.mem_of_getElem? (i := 80) (by decide +kernel)) rfl, gw_in (List.mem_of_getElem? (i := 55) (by decide +kernel)) rfl, fun j hj => by rcases (show j = 0 ∨ j = 1 ∨ j = 2 ∨ j = 3 by omega) with rfl | rfl | rfl | rfl <;> rfl⟩
theorem lX11_11 : Cond.methodLinkNest RX11 11 yX10_init RX11 ∈ gNest := by decide +kernel
theorem i_X10_init : Cond.instanceMethod yX10_init ∈ gW0 := gw_in (List.mem_of_getElem? (i := 82) (by decide +kernel)) rfl
theorem oX10_3 : Cond.methodLink RX10 3 objectInit ∈ gW0 := gw_in (List.mem_of_getElem? (i := 84) (by decide +kernel)) rfl
theorem fX10_11 : gFld RX10 11 9 0 (.array .int) true := ⟨RX10, TX10, 4, tyX10, rfl, w_X10, tyX10_ok, nmX10, by decide, gw_in (List.mem_of_getElem? (i := 85) (by decide +kernel)) rfl, rfl, rfl, rfl⟩
theorem fX10_15 : gFld RX10 15 9 1 .int false := ⟨RX10, TX10, 4, tyX10, rfl, w_X10, tyX10_ok, nmX10, by decide, gw_in (List.mem_of_getElem? (i := 86) (by decide +kernel)) rfl, rfl, rfl, rfl⟩
theorem fX11_68 : gFld RX11 68 9 1 .int false := ⟨RX10, TX10, 4, tyX10, rfl, w_X10, tyX10_ok, nmX10, by decide, gw_in (List.mem_of_getElem? (i := 87) (by decide +kernel)) rfl, rfl, rfl, rfl⟩
theorem fX10_19 : gFld RX10 19 9 2 .int false := ⟨RX10, TX10, 4, tyX10, rfl, w_X10, tyX10_ok, nmX10, by decide, gw_in (List.mem_of_getElem? (i := 88) (by decide +kernel)) rfl, rfl, rfl, rfl⟩
theorem fX11_114 : gFld RX11 114 9 2 .int false := ⟨RX10, TX10, 4, tyX10, rfl, w_X10, tyX10_ok, nmX10, by decide, gw_in (List.mem_of_getElem? (i := 89) (by decide +kernel)) rfl, rfl, rfl, rfl⟩
theorem fX10_22 : gFld RX10 22 9 3 .boolean false := ⟨RX10, TX10, 4, tyX10, rfl, w_X10, tyX10_ok, nmX10, by decide, gw_in (List.mem_of_getElem? (i := 90) (by decide +kernel)) rfl, rfl, rfl, rfl⟩
theorem fX11_110 : gFld RX11 110 9 3 .boolean false := ⟨RX10, TX10, 4, tyX10, rfl, w_X10, tyX10_ok, nmX10, by decide, gw_in (List.mem_of_getElem? (i := 91) (by decide +kernel)) rfl, rfl, rfl, rfl⟩
theorem kX11_16 : Cond.classLink RX11 16 RX9 ∈ gW0 := gw_in (List.mem_of_getElem? (i := 102) (by decide +kernel)) rfl
theorem nX11_16 : gCls RX11 16 8 5 [.int 0, .null, .null, .null, .null] := ⟨RX9, TX9, tyX9, rfl, w_X9, tyX9_ok, kX11_16, gw_in (List.mem_of_getElem? (i := 103) (by decide +kernel)) rfl, gw_in (List.mem_of_getElem? (i := 56) (by decide +kernel)) rfl, fun j hj => by rcases (show j = 0 ∨ j = 1 ∨ j = 2 ∨ j = 3 ∨ j = 4 by omega) with rfl | rfl | rfl | rfl | rfl <;> rfl⟩
theorem lX11_18 : Cond.methodLinkNest RX11 18 yX9_init RX11 ∈ gNest := by decide +kernel
theorem i_X9_init : Cond.instanceMethod yX9_init ∈ gW0 := gw_in (List.mem_of_getElem? (i := 105) (by decide +kernel)) rfl
theorem oX9_3 : Cond.methodLink RX9 3 objectInit ∈ gW0 := gw_in (List.mem_of_getElem? (i := 107) (by decide +kernel)) rfl
theorem kX9_9 : Cond.classLink RX9 9 RX7 ∈ gW0 := gw_in (List.mem_of_getElem? (i := 108) (by decide +kernel)) rfl
theorem nX9_9 : gCls RX9 9 6 8 [.null, .null, .null, .null, .null, .null, .null, .null] := ⟨RX7, TX7, tyX7, rfl, w_X7, tyX7_ok, kX9_9, gw_in (List.mem_of_getElem? (i := 109) (by decide +kernel)) rfl, gw_in (List.mem_of_getElem? (i := 57) (by decide +kernel)) rfl, fun j hj => by rcases (show j = 0 ∨ j = 1 ∨ j = 2 ∨ j = 3 ∨ j = 4 ∨ j = 5 ∨ j = 6 ∨ j = 7 by omega) with rfl | rfl | rfl | rfl | rfl | rfl | rfl | rfl <;> rfl⟩
theorem lX9_11 : Cond.methodLink RX9 11 yX7_init ∈ gW0 := gw_in (List.mem_of_getElem? (i := 110) (by decide +kernel)) rfl
theorem i_X7_init : Cond.instanceMethod yX7_init ∈ gW0 := gw_in (List.mem_of_getElem? (i := 111) (by decide +kernel)) rfl
theorem oX7_3 : Cond.methodLink RX7 3 objectInit ∈ gW0 := gw_in (List.mem_of_getElem? (i := 113) (by decide +kernel)) rfl
theorem kX7_22 : Cond.classLink RX7 22 RX6 ∈ gW0 := gw_in (List.mem_of_getElem? (i := 114) (by decide +kernel)) rfl
theorem nX7_22 : gCls RX7 22 5 5 [.null, .int 0, .int 0, .int 0, .int 0] := ⟨RX6, TX6, tyX6, rfl, w_X6, tyX6_ok, kX7_22, gw_in (List.mem_of_getElem? (i := 392) (by decide +kernel)) rfl, gw_in (List.mem_of_getElem? (i := 64) (by decide +kernel)) rfl, fun j hj => by rcases (show j = 0 ∨ j = 1 ∨ j = 2 ∨ j = 3 ∨ j = 4 by omega) with rfl | rfl | rfl | rfl | rfl <;> rfl⟩
theorem kX7_28 : Cond.classLink RX7 28 RX8 ∈ gW0 := gw_in (List.mem_of_getElem? (i := 116) (by decide +kernel)) rfl
theorem nX7_28 : gCls RX7 28 7 3 [.null, .int 0, .int 0] := ⟨RX8, TX8, tyX8, rfl, w_X8, tyX8_ok, kX7_28, gw_in (List.mem_of_getElem? (i := 428) (by decide +kernel)) rfl, gw_in (List.mem_of_getElem? (i := 65) (by decide +kernel)) rfl, fun j hj => by rcases (show j = 0 ∨ j = 1 ∨ j = 2 by omega) with rfl | rfl | rfl <;> rfl⟩
theorem kX7_34 : Cond.classLink RX7 34 RX3 ∈ gW0 := gw_in (List.mem_of_getElem? (i := 118) (by decide +kernel)) rfl
theorem nX7_34 : gCls RX7 34 2 3 [.null, .null, .int 0] := ⟨RX3, TX3, tyX3, rfl, w_X3, tyX3_ok, kX7_34, gw_in (List.mem_of_getElem? (i := 449) (by decide +kernel)) rfl, gw_in (List.mem_of_getElem? (i := 66) (by decide +kernel)) rfl, fun j hj => by rcases (show j = 0 ∨ j = 1 ∨ j = 2 by omega) with rfl | rfl | rfl <;> rfl⟩
theorem lX7_47 : Cond.methodLink RX7 47 yX7_sortLabels ∈ gW0 := gw_in (List.mem_of_getElem? (i := 120) (by decide +kernel)) rfl
theorem i_X7_sortLabels : Cond.instanceMethod yX7_sortLabels ∈ gW0 := gw_in (List.mem_of_getElem? (i := 122) (by decide +kernel)) rfl
theorem gX7_56 : Cond.fieldLinkNest RX7 56 RX11 (gSt 0).1 "[I" RX11 ∈ gNest := by decide +kernel
theorem cX7_59 : Cond.constantLong RX7 59 (281543712968705) ∈ gW0 := gw_in (List.mem_of_getElem? (i := 126) (by decide +kernel)) rfl
theorem cX7_65 : Cond.constantLong RX7 65 (4095) ∈ gW0 := gw_in (List.mem_of_getElem? (i := 127) (by decide +kernel)) rfl
theorem fX7_9 : gFld RX7 9 6 0 (.array .int) true := ⟨RX7, TX7, 8, tyX7, rfl, w_X7, tyX7_ok, nmX7, by decide, gw_in (List.mem_of_getElem? (i := 128) (by decide +kernel)) rfl, rfl, rfl, rfl⟩
theorem fX7_15 : gFld RX7 15 6 1 (.array .int) true := ⟨RX7, TX7, 8, tyX7, rfl, w_X7, tyX7_ok, nmX7, by decide, gw_in (List.mem_of_getElem? (i := 129) (by decide +kernel)) rfl, rfl, rfl, rfl⟩
theorem fX11_55 : gFld RX11 55 6 1 (.array .int) true := ⟨RX7, TX7, 8, tyX7, rfl, w_X7, tyX7_ok, nmX7, by decide, gw_in (List.mem_of_getElem? (i := 130) (by decide +kernel)) rfl, rfl, rfl, rfl⟩
theorem fX7_18 : gFld RX7 18 6 2 (.array .boolean) true := ⟨RX7, TX7, 8, tyX7, rfl, w_X7, tyX7_ok, nmX7, by decide, gw_in (List.mem_of_getElem? (i := 131) (by decide +kernel)) rfl, rfl, rfl, rfl⟩
theorem fX11_47 : gFld RX11 47 6 2 (.array .boolean) true := ⟨RX7, TX7, 8, tyX7, rfl, w_X7, tyX7_ok, nmX7, by decide, gw_in (List.mem_of_getElem? (i := 132) (by decide +kernel)) rfl, rfl, rfl, rfl⟩
theorem fX7_24 : gFld RX7 24 6 3 (.array (.object "AlertEngine$Rule")) true := ⟨RX7, TX7, 8, tyX7, rfl, w_X7, tyX7_ok, nmX7, by decide, gw_in (List.mem_of_getElem? (i := 133) (by decide +kernel)) rfl, rfl, rfl, rfl⟩
theorem fX11_165 : gFld RX11 165 6 3 (.array (.object "AlertEngine$Rule")) true := ⟨RX7, TX7, 8, tyX7, rfl, w_X7, tyX7_ok, nmX7, by decide, gw_in (List.mem_of_getElem? (i := 134) (by decide +kernel)) rfl, rfl, rfl, rfl⟩
theorem fX7_30 : gFld RX7 30 6 4 (.array (.object "AlertEngine$Silence")) true := ⟨RX7, TX7, 8, tyX7, rfl, w_X7, tyX7_ok, nmX7, by decide, gw_in (List.mem_of_getElem? (i := 135) (by decide +kernel)) rfl, rfl, rfl, rfl⟩
theorem fX11_94 : gFld RX11 94 6 4 (.array (.object "AlertEngine$Silence")) true := ⟨RX7, TX7, 8, tyX7, rfl, w_X7, tyX7_ok, nmX7, by decide, gw_in (List.mem_of_getElem? (i := 136) (by decide +kernel)) rfl, rfl, rfl, rfl⟩
theorem fX9_120 : gFld RX9 120 6 4 (.array (.object "AlertEngine$Silence")) true := ⟨RX7, TX7, 8, tyX7, rfl, w_X7, tyX7_ok, nmX7, by decide, gw_in (List.mem_of_getElem? (i := 137) (by decide +kernel)) rfl, rfl, rfl, rfl⟩
theorem fX7_36 : gFld RX7 36 6 5 (.array (.object "AlertEngine$Inhibition")) true := ⟨RX7, TX7, 8, tyX7, rfl, w_X7, tyX7_ok, nmX7, by decide, gw_in (List.mem_of_getElem? (i := 138) (by decide +kernel)) rfl, rfl, rfl, rfl⟩
theorem fX11_102 : gFld RX11 102 6 5 (.array (.object "AlertEngine$Inhibition")) true := ⟨RX7, TX7, 8, tyX7, rfl, w_X7, tyX7_ok, nmX7, by decide, gw_in (List.mem_of_getElem? (i := 139) (by decide +kernel)) rfl, rfl, rfl, rfl⟩
theorem fX9_146 : gFld RX9 146 6 5 (.array (.object "AlertEngine$Inhibition")) true := ⟨RX7, TX7, 8, tyX7, rfl, w_X7, tyX7_ok, nmX7, by decide, gw_in (List.mem_of_getElem? (i := 140) (by decide +kernel)) rfl, rfl, rfl, rfl⟩
theorem fX7_40 : gFld RX7 40 6 6 (.array .int) true := ⟨RX7, TX7, 8, tyX7, rfl, w_X7, tyX7_ok, nmX7, by decide, gw_in (List.mem_of_getElem? (i := 141) (by decide +kernel)) rfl, rfl, rfl, rfl⟩
theorem fX2_46 : gFld RX2 46 6 6 (.array .int) true := ⟨RX7, TX7, 8, tyX7, rfl, w_X7, tyX7_ok, nmX7, by decide, gw_in (List.mem_of_getElem? (i := 142) (by decide +kernel)) rfl, rfl, rfl, rfl⟩
theorem fX11_142 : gFld RX11 142 6 6 (.array .int) true := ⟨RX7, TX7, 8, tyX7, rfl, w_X7, tyX7_ok, nmX7, by decide, gw_in (List.mem_of_getElem? (i := 143) (by decide +kernel)) rfl, rfl, rfl, rfl⟩
theorem fX9_173 : gFld RX9 173 6 6 (.array .int) true := ⟨RX7, TX7, 8, tyX7, rfl, w_X7, tyX7_ok, nmX7, by decide, gw_in (List.mem_of_getElem? (i := 144) (by decide +kernel)) rfl, rfl, rfl, rfl⟩
theorem fX7_43 : gFld RX7 43 6 7 (.array .long) true := ⟨RX7, TX7, 8, tyX7, rfl, w_X7, tyX7_ok, nmX7, by decide, gw_in (List.mem_of_getElem? (i := 145) (by decide +kernel)) rfl, rfl, rfl, rfl⟩
theorem kX9_18 : Cond.classLink RX9 18 RX0 ∈ gW0 := gw_in (List.mem_of_getElem? (i := 165) (by decide +kernel)) rfl
theorem nX9_18 : gCls RX9 18 0 5 [.long 0, .long 0, .null, .null, .null] := ⟨RX0, TX0, tyX0, rfl, w_X0, tyX0_ok, kX9_18, gw_in (List.mem_of_getElem? (i := 166) (by decide +kernel)) rfl, gw_in (List.mem_of_getElem? (i := 58) (by decide +kernel)) rfl, fun j hj => by rcases (show j = 0 ∨ j = 1 ∨ j = 2 ∨ j = 3 ∨ j = 4 by omega) with rfl | rfl | rfl | rfl | rfl <;> rfl⟩
theorem lX9_20 : Cond.methodLinkNest RX9 20 yX0_init RX11 ∈ gNest := by decide +kernel
theorem i_X0_init : Cond.instanceMethod yX0_init ∈ gW0 := gw_in (List.mem_of_getElem? (i := 168) (by decide +kernel)) rfl
theorem oX0_3 : Cond.methodLink RX0 3 objectInit ∈ gW0 := gw_in (List.mem_of_getElem? (i := 170) (by decide +kernel)) rfl
theorem fX0_21 : gFld RX0 21 0 0 .long false := ⟨RX0, TX0, 5, tyX0, rfl, w_X0, tyX0_ok, nmX0, by decide, gw_in (List.mem_of_getElem? (i := 171) (by decide +kernel)) rfl, rfl, rfl, rfl⟩
theorem fX11_217 : gFld RX11 217 0 0 .long false := ⟨RX0, TX0, 5, tyX0, rfl, w_X0, tyX0_ok, nmX0, by decide, gw_in (List.mem_of_getElem? (i := 172) (by decide +kernel)) rfl, rfl, rfl, rfl⟩
theorem fX0_25 : gFld RX0 25 0 1 .long false := ⟨RX0, TX0, 5, tyX0, rfl, w_X0, tyX0_ok, nmX0, by decide, gw_in (List.mem_of_getElem? (i := 173) (by decide +kernel)) rfl, rfl, rfl, rfl⟩
theorem fX9_104 : gFld RX9 104 0 1 .long false := ⟨RX0, TX0, 5, tyX0, rfl, w_X0, tyX0_ok, nmX0, by decide, gw_in (List.mem_of_getElem? (i := 174) (by decide +kernel)) rfl, rfl, rfl, rfl⟩
theorem fX11_221 : gFld RX11 221 0 1 .long false := ⟨RX0, TX0, 5, tyX0, rfl, w_X0, tyX0_ok, nmX0, by decide, gw_in (List.mem_of_getElem? (i := 175) (by decide +kernel)) rfl, rfl, rfl, rfl⟩
theorem fX0_9 : gFld RX0 9 0 2 (.array .int) true := ⟨RX0, TX0, 5, tyX0, rfl, w_X0, tyX0_ok, nmX0, by decide, gw_in (List.mem_of_getElem? (i := 176) (by decide +kernel)) rfl, rfl, rfl, rfl⟩
theorem fX0_15 : gFld RX0 15 0 3 (.array .int) true := ⟨RX0, TX0, 5, tyX0, rfl, w_X0, tyX0_ok, nmX0, by decide, gw_in (List.mem_of_getElem? (i := 177) (by decide +kernel)) rfl, rfl, rfl, rfl⟩
theorem fX0_18 : gFld RX0 18 0 4 (.array .int) true := ⟨RX0, TX0, 5, tyX0, rfl, w_X0, tyX0_ok, nmX0, by decide, gw_in (List.mem_of_getElem? (i := 178) (by decide +kernel)) rfl, rfl, rfl, rfl⟩
theorem kX9_25 : Cond.classLink RX9 25 RX2 ∈ gW0 := gw_in (List.mem_of_getElem? (i := 190) (by decide +kernel)) rfl
theorem nX9_25 : gCls RX9 25 1 4 [.null, .null, .null, .null] := ⟨RX2, TX2, tyX2, rfl, w_X2, tyX2_ok, kX9_25, gw_in (List.mem_of_getElem? (i := 191) (by decide +kernel)) rfl, gw_in (List.mem_of_getElem? (i := 59) (by decide +kernel)) rfl, fun j hj => by rcases (show j = 0 ∨ j = 1 ∨ j = 2 ∨ j = 3 by omega) with rfl | rfl | rfl | rfl <;> rfl⟩
theorem lX9_27 : Cond.methodLinkNest RX9 27 yX2_init RX11 ∈ gNest := by decide +kernel
theorem i_X2_init : Cond.instanceMethod yX2_init ∈ gW0 := gw_in (List.mem_of_getElem? (i := 193) (by decide +kernel)) rfl
theorem oX2_3 : Cond.methodLink RX2 3 objectInit ∈ gW0 := gw_in (List.mem_of_getElem? (i := 195) (by decide +kernel)) rfl
theorem fX2_9 : gFld RX2 9 1 0 (.array .boolean) true := ⟨RX2, TX2, 4, tyX2, rfl, w_X2, tyX2_ok, nmX2, by decide, gw_in (List.mem_of_getElem? (i := 196) (by decide +kernel)) rfl, rfl, rfl, rfl⟩
theorem fX11_233 : gFld RX11 233 1 0 (.array .boolean) true := ⟨RX2, TX2, 4, tyX2, rfl, w_X2, tyX2_ok, nmX2, by decide, gw_in (List.mem_of_getElem? (i := 197) (by decide +kernel)) rfl, rfl, rfl, rfl⟩
theorem fX2_15 : gFld RX2 15 1 1 (.array .int) true := ⟨RX2, TX2, 4, tyX2, rfl, w_X2, tyX2_ok, nmX2, by decide, gw_in (List.mem_of_getElem? (i := 198) (by decide +kernel)) rfl, rfl, rfl, rfl⟩
theorem fX11_236 : gFld RX11 236 1 1 (.array .int) true := ⟨RX2, TX2, 4, tyX2, rfl, w_X2, tyX2_ok, nmX2, by decide, gw_in (List.mem_of_getElem? (i := 199) (by decide +kernel)) rfl, rfl, rfl, rfl⟩
theorem fX2_19 : gFld RX2 19 1 2 (.array .long) true := ⟨RX2, TX2, 4, tyX2, rfl, w_X2, tyX2_ok, nmX2, by decide, gw_in (List.mem_of_getElem? (i := 200) (by decide +kernel)) rfl, rfl, rfl, rfl⟩
theorem fX2_23 : gFld RX2 23 1 3 (.array .long) true := ⟨RX2, TX2, 4, tyX2, rfl, w_X2, tyX2_ok, nmX2, by decide, gw_in (List.mem_of_getElem? (i := 201) (by decide +kernel)) rfl, rfl, rfl, rfl⟩
theorem fX9_83 : gFld RX9 83 1 3 (.array .long) true := ⟨RX2, TX2, 4, tyX2, rfl, w_X2, tyX2_ok, nmX2, by decide, gw_in (List.mem_of_getElem? (i := 202) (by decide +kernel)) rfl, rfl, rfl, rfl⟩
theorem fX11_239 : gFld RX11 239 1 3 (.array .long) true := ⟨RX2, TX2, 4, tyX2, rfl, w_X2, tyX2_ok, nmX2, by decide, gw_in (List.mem_of_getElem? (i := 203) (by decide +kernel)) rfl, rfl, rfl, rfl⟩
theorem kX9_32 : Cond.classLink RX9 32 RX4 ∈ gW0 := gw_in (List.mem_of_getElem? (i := 213) (by decide +kernel)) rfl
theorem nX9_32 : gCls RX9 32 3 2 [.null, .int 0] := ⟨RX4, TX4, tyX4, rfl, w_X4, tyX4_ok, kX9_32, gw_in (List.mem_of_getElem? (i := 214) (by decide +kernel)) rfl, gw_in (List.mem_of_getElem? (i := 60) (by decide +kernel)) rfl, fun j hj => by rcases (show j = 0 ∨ j = 1 by omega) with rfl | rfl <;> rfl⟩
theorem lX9_34 : Cond.methodLinkNest RX9 34 yX4_init RX11 ∈ gNest := by decide +kernel
theorem i_X4_init : Cond.instanceMethod yX4_init ∈ gW0 := gw_in (List.mem_of_getElem? (i := 216) (by decide +kernel)) rfl
theorem oX4_1 : Cond.methodLink RX4 1 objectInit ∈ gW0 := gw_in (List.mem_of_getElem? (i := 218) (by decide +kernel)) rfl
theorem fX4_9 : gFld RX4 9 3 0 (.array .int) true := ⟨RX4, TX4, 2, tyX4, rfl, w_X4, tyX4_ok, nmX4, by decide, gw_in (List.mem_of_getElem? (i := 219) (by decide +kernel)) rfl, rfl, rfl, rfl⟩
theorem fX4_13 : gFld RX4 13 3 1 .int false := ⟨RX4, TX4, 2, tyX4, rfl, w_X4, tyX4_ok, nmX4, by decide, gw_in (List.mem_of_getElem? (i := 220) (by decide +kernel)) rfl, rfl, rfl, rfl⟩
theorem fX11_286 : gFld RX11 286 3 1 .int false := ⟨RX4, TX4, 2, tyX4, rfl, w_X4, tyX4_ok, nmX4, by decide, gw_in (List.mem_of_getElem? (i := 221) (by decide +kernel)) rfl, rfl, rfl, rfl⟩
theorem fX9_39 : gFld RX9 39 8 0 .int false := ⟨RX9, TX9, 5, tyX9, rfl, w_X9, tyX9_ok, nmX9, by decide, gw_in (List.mem_of_getElem? (i := 227) (by decide +kernel)) rfl, rfl, rfl, rfl⟩
theorem fX11_157 : gFld RX11 157 8 0 .int false := ⟨RX9, TX9, 5, tyX9, rfl, w_X9, tyX9_ok, nmX9, by decide, gw_in (List.mem_of_getElem? (i := 228) (by decide +kernel)) rfl, rfl, rfl, rfl⟩
theorem fX9_12 : gFld RX9 12 8 1 (.object "AlertEngine$Setup") true := ⟨RX9, TX9, 5, tyX9, rfl, w_X9, tyX9_ok, nmX9, by decide, gw_in (List.mem_of_getElem? (i := 229) (by decide +kernel)) rfl, rfl, rfl, rfl⟩
theorem fX11_37 : gFld RX11 37 8 1 (.object "AlertEngine$Setup") true := ⟨RX9, TX9, 5, tyX9, rfl, w_X9, tyX9_ok, nmX9, by decide, gw_in (List.mem_of_getElem? (i := 230) (by decide +kernel)) rfl, rfl, rfl, rfl⟩
theorem fX9_21 : gFld RX9 21 8 2 (.object "AlertEngine$AlertStates") true := ⟨RX9, TX9, 5, tyX9, rfl, w_X9, tyX9_ok, nmX9, by decide, gw_in (List.mem_of_getElem? (i := 231) (by decide +kernel)) rfl, rfl, rfl, rfl⟩
theorem fX11_124 : gFld RX11 124 8 2 (.object "AlertEngine$AlertStates") true := ⟨RX9, TX9, 5, tyX9, rfl, w_X9, tyX9_ok, nmX9, by decide, gw_in (List.mem_of_getElem? (i := 232) (by decide +kernel)) rfl, rfl, rfl, rfl⟩
theorem fX9_28 : gFld RX9 28 8 3 (.object "AlertEngine$Groups") true := ⟨RX9, TX9, 5, tyX9, rfl, w_X9, tyX9_ok, nmX9, by decide, gw_in (List.mem_of_getElem? (i := 233) (by decide +kernel)) rfl, rfl, rfl, rfl⟩
theorem fX11_145 : gFld RX11 145 8 3 (.object "AlertEngine$Groups") true := ⟨RX9, TX9, 5, tyX9, rfl, w_X9, tyX9_ok, nmX9, by decide, gw_in (List.mem_of_getElem? (i := 234) (by decide +kernel)) rfl, rfl, rfl, rfl⟩
theorem fX9_35 : gFld RX9 35 8 4 (.object "AlertEngine$Log") true := ⟨RX9, TX9, 5, tyX9, rfl, w_X9, tyX9_ok, nmX9, by decide, gw_in (List.mem_of_getElem? (i := 235) (by decide +kernel)) rfl, rfl, rfl, rfl⟩
theorem fX11_261 : gFld RX11 261 8 4 (.object "AlertEngine$Log") true := ⟨RX9, TX9, 5, tyX9, rfl, w_X9, tyX9_ok, nmX9, by decide, gw_in (List.mem_of_getElem? (i := 236) (by decide +kernel)) rfl, rfl, rfl, rfl⟩
theorem fX11_12 : gFld RX11 12 10 0 (.object "AlertEngine$Tape") true := ⟨RX11, TX11, 5, tyX11, rfl, w_X11, tyX11_ok, nmX11, by decide, gw_in (List.mem_of_getElem? (i := 248) (by decide +kernel)) rfl, rfl, rfl, rfl⟩
theorem fX11_19 : gFld RX11 19 10 1 (.object "AlertEngine$State") true := ⟨RX11, TX11, 5, tyX11, rfl, w_X11, tyX11_ok, nmX11, by decide, gw_in (List.mem_of_getElem? (i := 249) (by decide +kernel)) rfl, rfl, rfl, rfl⟩
theorem fX11_23 : gFld RX11 23 10 2 (.object "AlertEngine$State") true := ⟨RX11, TX11, 5, tyX11, rfl, w_X11, tyX11_ok, nmX11, by decide, gw_in (List.mem_of_getElem? (i := 250) (by decide +kernel)) rfl, rfl, rfl, rfl⟩
theorem fX11_26 : gFld RX11 26 10 3 (.object "AlertEngine$State") true := ⟨RX11, TX11, 5, tyX11, rfl, w_X11, tyX11_ok, nmX11, by decide, gw_in (List.mem_of_getElem? (i := 251) (by decide +kernel)) rfl, rfl, rfl, rfl⟩
theorem fX11_280 : gFld RX11 280 10 4 .boolean false := ⟨RX11, TX11, 5, tyX11, rfl, w_X11, tyX11_ok, nmX11, by decide, gw_in (List.mem_of_getElem? (i := 252) (by decide +kernel)) rfl, rfl, rfl, rfl⟩
theorem lL_13 : Cond.methodLink RL 13 yX11_label ∈ gW0 := gw_in (List.mem_of_getElem? (i := 264) (by decide +kernel)) rfl
theorem i_X11_label : Cond.instanceMethod yX11_label ∈ gW0 := gw_in (List.mem_of_getElem? (i := 265) (by decide +kernel)) rfl
theorem s_X11_label : Cond.selects yX11_label.cls yX11_label yX11_label ∈ gW0 := gw_in (List.mem_of_getElem? (i := 266) (by decide +kernel)) rfl
theorem lX11_29 : Cond.methodLink RX11 29 yX11_isSeries ∈ gW0 := gw_in (List.mem_of_getElem? (i := 268) (by decide +kernel)) rfl
theorem i_X11_isSeries : Cond.static yX11_isSeries ∈ gW0 := gw_in (List.mem_of_getElem? (i := 269) (by decide +kernel)) rfl
theorem gX11_33 : Cond.fieldLink RX11 33 RX11 (gSt 1).1 "[I" ∈ gW0 := gw_in (List.mem_of_getElem? (i := 271) (by decide +kernel)) rfl
theorem lX11_41 : Cond.methodLink RX11 41 yX7_relabel ∈ gW0 := gw_in (List.mem_of_getElem? (i := 273) (by decide +kernel)) rfl
theorem i_X7_relabel : Cond.instanceMethod yX7_relabel ∈ gW0 := gw_in (List.mem_of_getElem? (i := 274) (by decide +kernel)) rfl
theorem s_X7_relabel : Cond.selects yX7_relabel.cls yX7_relabel yX7_relabel ∈ gW0 := gw_in (List.mem_of_getElem? (i := 275) (by decide +kernel)) rfl
theorem lL_18 : Cond.methodLink RL 18 yX11_sample ∈ gW0 := gw_in (List.mem_of_getElem? (i := 277) (by decide +kernel)) rfl
theorem i_X11_sample : Cond.instanceMethod yX11_sample ∈ gW0 := gw_in (List.mem_of_getElem? (i := 278) (by decide +kernel)) rfl
theorem s_X11_sample : Cond.selects yX11_sample.cls yX11_sample yX11_sample ∈ gW0 := gw_in (List.mem_of_getElem? (i := 279) (by decide +kernel)) rfl
theorem lX11_51 : Cond.methodLink RX11 51 yX11_bit ∈ gW0 := gw_in (List.mem_of_getElem? (i := 281) (by decide +kernel)) rfl
theorem i_X11_bit : Cond.static yX11_bit ∈ gW0 := gw_in (List.mem_of_getElem? (i := 282) (by decide +kernel)) rfl
theorem lL_23 : Cond.methodLink RL 23 yX11_drop ∈ gW0 := gw_in (List.mem_of_getElem? (i := 284) (by decide +kernel)) rfl
theorem i_X11_drop : Cond.instanceMethod yX11_drop ∈ gW0 := gw_in (List.mem_of_getElem? (i := 285) (by decide +kernel)) rfl
theorem s_X11_drop : Cond.selects yX11_drop.cls yX11_drop yX11_drop ∈ gW0 := gw_in (List.mem_of_getElem? (i := 286) (by decide +kernel)) rfl
theorem lL_28 : Cond.methodLink RL 28 yX11_feed ∈ gW0 := gw_in (List.mem_of_getElem? (i := 288) (by decide +kernel)) rfl
theorem i_X11_feed : Cond.instanceMethod yX11_feed ∈ gW0 := gw_in (List.mem_of_getElem? (i := 289) (by decide +kernel)) rfl
theorem s_X11_feed : Cond.selects yX11_feed.cls yX11_feed yX11_feed ∈ gW0 := gw_in (List.mem_of_getElem? (i := 290) (by decide +kernel)) rfl
theorem lX11_58 : Cond.methodLink RX11 58 yX11_isByte ∈ gW0 := gw_in (List.mem_of_getElem? (i := 292) (by decide +kernel)) rfl
theorem i_X11_isByte : Cond.static yX11_isByte ∈ gW0 := gw_in (List.mem_of_getElem? (i := 293) (by decide +kernel)) rfl
theorem lX11_61 : Cond.methodLink RX11 61 yX10_hasRoomFor ∈ gW0 := gw_in (List.mem_of_getElem? (i := 295) (by decide +kernel)) rfl
theorem i_X10_hasRoomFor : Cond.instanceMethod yX10_hasRoomFor ∈ gW0 := gw_in (List.mem_of_getElem? (i := 296) (by decide +kernel)) rfl
theorem s_X10_hasRoomFor : Cond.selects yX10_hasRoomFor.cls yX10_hasRoomFor yX10_hasRoomFor ∈ gW0 := gw_in (List.mem_of_getElem? (i := 297) (by decide +kernel)) rfl
theorem lX11_64 : Cond.methodLink RX11 64 yX10_append ∈ gW0 := gw_in (List.mem_of_getElem? (i := 299) (by decide +kernel)) rfl
theorem i_X10_append : Cond.instanceMethod yX10_append ∈ gW0 := gw_in (List.mem_of_getElem? (i := 300) (by decide +kernel)) rfl
theorem s_X10_append : Cond.selects yX10_append.cls yX10_append yX10_append ∈ gW0 := gw_in (List.mem_of_getElem? (i := 301) (by decide +kernel)) rfl
theorem lL_33 : Cond.methodLink RL 33 yX11_add ∈ gW0 := gw_in (List.mem_of_getElem? (i := 303) (by decide +kernel)) rfl
theorem i_X11_add : Cond.instanceMethod yX11_add ∈ gW0 := gw_in (List.mem_of_getElem? (i := 304) (by decide +kernel)) rfl
theorem s_X11_add : Cond.selects yX11_add.cls yX11_add yX11_add ∈ gW0 := gw_in (List.mem_of_getElem? (i := 305) (by decide +kernel)) rfl
theorem lX11_72 : Cond.methodLink RX11 72 yX11_isKind ∈ gW0 := gw_in (List.mem_of_getElem? (i := 307) (by decide +kernel)) rfl
theorem i_X11_isKind : Cond.static yX11_isKind ∈ gW0 := gw_in (List.mem_of_getElem? (i := 308) (by decide +kernel)) rfl
theorem lX11_75 : Cond.methodLink RX11 75 yX7_slots ∈ gW0 := gw_in (List.mem_of_getElem? (i := 310) (by decide +kernel)) rfl
theorem i_X7_slots : Cond.instanceMethod yX7_slots ∈ gW0 := gw_in (List.mem_of_getElem? (i := 311) (by decide +kernel)) rfl
theorem s_X7_slots : Cond.selects yX7_slots.cls yX7_slots yX7_slots ∈ gW0 := gw_in (List.mem_of_getElem? (i := 312) (by decide +kernel)) rfl
theorem lX11_79 : Cond.methodLink RX11 79 yX11_lowestFree ∈ gW0 := gw_in (List.mem_of_getElem? (i := 314) (by decide +kernel)) rfl
theorem i_X11_lowestFree : Cond.static yX11_lowestFree ∈ gW0 := gw_in (List.mem_of_getElem? (i := 315) (by decide +kernel)) rfl
theorem lX11_83 : Cond.methodLink RX11 83 yX10_rewind ∈ gW0 := gw_in (List.mem_of_getElem? (i := 317) (by decide +kernel)) rfl
theorem i_X10_rewind : Cond.instanceMethod yX10_rewind ∈ gW0 := gw_in (List.mem_of_getElem? (i := 318) (by decide +kernel)) rfl
theorem s_X10_rewind : Cond.selects yX10_rewind.cls yX10_rewind yX10_rewind ∈ gW0 := gw_in (List.mem_of_getElem? (i := 319) (by decide +kernel)) rfl
theorem lX11_86 : Cond.methodLink RX11 86 yX10_readRule ∈ gW0 := gw_in (List.mem_of_getElem? (i := 321) (by decide +kernel)) rfl
theorem i_X10_readRule : Cond.instanceMethod yX10_readRule ∈ gW0 := gw_in (List.mem_of_getElem? (i := 322) (by decide +kernel)) rfl
theorem s_X10_readRule : Cond.selects yX10_readRule.cls yX10_readRule yX10_readRule ∈ gW0 := gw_in (List.mem_of_getElem? (i := 323) (by decide +kernel)) rfl
theorem lX10_26 : Cond.methodLink RX10 26 yX10_startsRuleSign ∈ gW0 := gw_in (List.mem_of_getElem? (i := 325) (by decide +kernel)) rfl
theorem i_X10_startsRuleSign : Cond.instanceMethod yX10_startsRuleSign ∈ gW0 := gw_in (List.mem_of_getElem? (i := 327) (by decide +kernel)) rfl
theorem lX10_37 : Cond.methodLink RX10 37 yX10_peek ∈ gW0 := gw_in (List.mem_of_getElem? (i := 329) (by decide +kernel)) rfl
theorem i_X10_peek : Cond.instanceMethod yX10_peek ∈ gW0 := gw_in (List.mem_of_getElem? (i := 331) (by decide +kernel)) rfl
theorem kX10_30 : Cond.classLink RX10 30 RX5 ∈ gW0 := gw_in (List.mem_of_getElem? (i := 333) (by decide +kernel)) rfl
theorem nX10_30 : gCls RX10 30 4 3 [.null, .null, .int 0] := ⟨RX5, TX5, tyX5, rfl, w_X5, tyX5_ok, kX10_30, gw_in (List.mem_of_getElem? (i := 334) (by decide +kernel)) rfl, gw_in (List.mem_of_getElem? (i := 62) (by decide +kernel)) rfl, fun j hj => by rcases (show j = 0 ∨ j = 1 ∨ j = 2 by omega) with rfl | rfl | rfl <;> rfl⟩
theorem lX10_32 : Cond.methodLinkNest RX10 32 yX5_init RX11 ∈ gNest := by decide +kernel
theorem i_X5_init : Cond.instanceMethod yX5_init ∈ gW0 := gw_in (List.mem_of_getElem? (i := 336) (by decide +kernel)) rfl
theorem oX5_1 : Cond.methodLink RX5 1 objectInit ∈ gW0 := gw_in (List.mem_of_getElem? (i := 338) (by decide +kernel)) rfl
theorem fX5_9 : gFld RX5 9 4 0 (.array .int) true := ⟨RX5, TX5, 3, tyX5, rfl, w_X5, tyX5_ok, nmX5, by decide, gw_in (List.mem_of_getElem? (i := 339) (by decide +kernel)) rfl, rfl, rfl, rfl⟩
theorem fX7_74 : gFld RX7 74 4 0 (.array .int) true := ⟨RX5, TX5, 3, tyX5, rfl, w_X5, tyX5_ok, nmX5, by decide, gw_in (List.mem_of_getElem? (i := 340) (by decide +kernel)) rfl, rfl, rfl, rfl⟩
theorem fX10_91 : gFld RX10 91 4 0 (.array .int) true := ⟨RX5, TX5, 3, tyX5, rfl, w_X5, tyX5_ok, nmX5, by decide, gw_in (List.mem_of_getElem? (i := 341) (by decide +kernel)) rfl, rfl, rfl, rfl⟩
theorem fX5_13 : gFld RX5 13 4 1 (.array .boolean) true := ⟨RX5, TX5, 3, tyX5, rfl, w_X5, tyX5_ok, nmX5, by decide, gw_in (List.mem_of_getElem? (i := 342) (by decide +kernel)) rfl, rfl, rfl, rfl⟩
theorem fX7_76 : gFld RX7 76 4 1 (.array .boolean) true := ⟨RX5, TX5, 3, tyX5, rfl, w_X5, tyX5_ok, nmX5, by decide, gw_in (List.mem_of_getElem? (i := 343) (by decide +kernel)) rfl, rfl, rfl, rfl⟩
theorem fX10_97 : gFld RX10 97 4 1 (.array .boolean) true := ⟨RX5, TX5, 3, tyX5, rfl, w_X5, tyX5_ok, nmX5, by decide, gw_in (List.mem_of_getElem? (i := 344) (by decide +kernel)) rfl, rfl, rfl, rfl⟩
theorem fX7_69 : gFld RX7 69 4 2 .int false := ⟨RX5, TX5, 3, tyX5, rfl, w_X5, tyX5_ok, nmX5, by decide, gw_in (List.mem_of_getElem? (i := 345) (by decide +kernel)) rfl, rfl, rfl, rfl⟩
theorem fX10_88 : gFld RX10 88 4 2 .int false := ⟨RX5, TX5, 3, tyX5, rfl, w_X5, tyX5_ok, nmX5, by decide, gw_in (List.mem_of_getElem? (i := 346) (by decide +kernel)) rfl, rfl, rfl, rfl⟩
theorem lX10_33 : Cond.methodLink RX10 33 yX10_readMatchersAhead ∈ gW0 := gw_in (List.mem_of_getElem? (i := 354) (by decide +kernel)) rfl
theorem i_X10_readMatchersAhead : Cond.instanceMethod yX10_readMatchersAhead ∈ gW0 := gw_in (List.mem_of_getElem? (i := 356) (by decide +kernel)) rfl
theorem lX10_67 : Cond.methodLink RX10 67 yX10_readMatchers ∈ gW0 := gw_in (List.mem_of_getElem? (i := 358) (by decide +kernel)) rfl
theorem i_X10_readMatchers : Cond.instanceMethod yX10_readMatchers ∈ gW0 := gw_in (List.mem_of_getElem? (i := 360) (by decide +kernel)) rfl
theorem lX10_84 : Cond.methodLink RX10 84 yX10_readMatcher ∈ gW0 := gw_in (List.mem_of_getElem? (i := 362) (by decide +kernel)) rfl
theorem i_X10_readMatcher : Cond.instanceMethod yX10_readMatcher ∈ gW0 := gw_in (List.mem_of_getElem? (i := 364) (by decide +kernel)) rfl
theorem lX10_41 : Cond.methodLink RX10 41 yX10_skip ∈ gW0 := gw_in (List.mem_of_getElem? (i := 366) (by decide +kernel)) rfl
theorem i_X10_skip : Cond.instanceMethod yX10_skip ∈ gW0 := gw_in (List.mem_of_getElem? (i := 368) (by decide +kernel)) rfl
theorem lX10_76 : Cond.methodLink RX10 76 yX10_labelOf ∈ gW0 := gw_in (List.mem_of_getElem? (i := 370) (by decide +kernel)) rfl
theorem i_X10_labelOf : Cond.static yX10_labelOf ∈ gW0 := gw_in (List.mem_of_getElem? (i := 371) (by decide +kernel)) rfl
theorem gX10_52 : Cond.fieldLinkNest RX10 52 RX11 (gSt 1).1 "[I" RX11 ∈ gNest := by decide +kernel
theorem lX10_55 : Cond.methodLink RX10 55 yX10_readDigit ∈ gW0 := gw_in (List.mem_of_getElem? (i := 374) (by decide +kernel)) rfl
theorem i_X10_readDigit : Cond.instanceMethod yX10_readDigit ∈ gW0 := gw_in (List.mem_of_getElem? (i := 376) (by decide +kernel)) rfl
theorem gX10_94 : Cond.fieldLinkNest RX10 94 RX11 (gSt 0).1 "[I" RX11 ∈ gNest := by decide +kernel
theorem lX10_48 : Cond.methodLink RX10 48 yX10_expect ∈ gW0 := gw_in (List.mem_of_getElem? (i := 379) (by decide +kernel)) rfl
theorem i_X10_expect : Cond.instanceMethod yX10_expect ∈ gW0 := gw_in (List.mem_of_getElem? (i := 381) (by decide +kernel)) rfl
theorem lX10_45 : Cond.methodLink RX10 45 yX10_readNumber ∈ gW0 := gw_in (List.mem_of_getElem? (i := 383) (by decide +kernel)) rfl
theorem i_X10_readNumber : Cond.instanceMethod yX10_readNumber ∈ gW0 := gw_in (List.mem_of_getElem? (i := 385) (by decide +kernel)) rfl
theorem lX10_59 : Cond.methodLink RX10 59 yX10_expectEnd ∈ gW0 := gw_in (List.mem_of_getElem? (i := 387) (by decide +kernel)) rfl
theorem i_X10_expectEnd : Cond.instanceMethod yX10_expectEnd ∈ gW0 := gw_in (List.mem_of_getElem? (i := 389) (by decide +kernel)) rfl
theorem kX10_62 : Cond.classLink RX10 62 RX6 ∈ gW0 := gw_in (List.mem_of_getElem? (i := 391) (by decide +kernel)) rfl
theorem nX10_62 : gCls RX10 62 5 5 [.null, .int 0, .int 0, .int 0, .int 0] := ⟨RX6, TX6, tyX6, rfl, w_X6, tyX6_ok, kX10_62, gw_in (List.mem_of_getElem? (i := 392) (by decide +kernel)) rfl, gw_in (List.mem_of_getElem? (i := 64) (by decide +kernel)) rfl, fun j hj => by rcases (show j = 0 ∨ j = 1 ∨ j = 2 ∨ j = 3 ∨ j = 4 by omega) with rfl | rfl | rfl | rfl | rfl <;> rfl⟩
theorem lX10_64 : Cond.methodLink RX10 64 yX6_init ∈ gW0 := gw_in (List.mem_of_getElem? (i := 393) (by decide +kernel)) rfl
theorem i_X6_init : Cond.instanceMethod yX6_init ∈ gW0 := gw_in (List.mem_of_getElem? (i := 394) (by decide +kernel)) rfl
theorem lX6_1 : Cond.methodLinkNest RX6 1 yX1_init RX11 ∈ gNest := by decide +kernel
theorem i_X1_init : Cond.instanceMethod yX1_init ∈ gW0 := gw_in (List.mem_of_getElem? (i := 397) (by decide +kernel)) rfl
theorem oX1_1 : Cond.methodLink RX1 1 objectInit ∈ gW0 := gw_in (List.mem_of_getElem? (i := 399) (by decide +kernel)) rfl
theorem fX6_7 : gFld RX6 7 5 0 (.object "AlertEngine$Matchers") true := ⟨RX6, TX6, 5, tyX6, rfl, w_X6, tyX6_ok, nmX6, by decide, gw_in (List.mem_of_getElem? (i := 400) (by decide +kernel)) rfl, rfl, rfl, rfl⟩
theorem fX7_85 : gFld RX7 85 5 0 (.object "AlertEngine$Matchers") true := ⟨RX6, TX6, 5, tyX6, rfl, w_X6, tyX6_ok, nmX6, by decide, gw_in (List.mem_of_getElem? (i := 401) (by decide +kernel)) rfl, rfl, rfl, rfl⟩
theorem fX6_13 : gFld RX6 13 5 1 .int true := ⟨RX6, TX6, 5, tyX6, rfl, w_X6, tyX6_ok, nmX6, by decide, gw_in (List.mem_of_getElem? (i := 402) (by decide +kernel)) rfl, rfl, rfl, rfl⟩
theorem fX6_17 : gFld RX6 17 5 2 .int true := ⟨RX6, TX6, 5, tyX6, rfl, w_X6, tyX6_ok, nmX6, by decide, gw_in (List.mem_of_getElem? (i := 403) (by decide +kernel)) rfl, rfl, rfl, rfl⟩
theorem fX6_20 : gFld RX6 20 5 3 .int true := ⟨RX6, TX6, 5, tyX6, rfl, w_X6, tyX6_ok, nmX6, by decide, gw_in (List.mem_of_getElem? (i := 404) (by decide +kernel)) rfl, rfl, rfl, rfl⟩
theorem fX7_97 : gFld RX7 97 5 3 .int true := ⟨RX6, TX6, 5, tyX6, rfl, w_X6, tyX6_ok, nmX6, by decide, gw_in (List.mem_of_getElem? (i := 405) (by decide +kernel)) rfl, rfl, rfl, rfl⟩
theorem fX6_23 : gFld RX6 23 5 4 .int true := ⟨RX6, TX6, 5, tyX6, rfl, w_X6, tyX6_ok, nmX6, by decide, gw_in (List.mem_of_getElem? (i := 406) (by decide +kernel)) rfl, rfl, rfl, rfl⟩
theorem fX7_61 : gFld RX7 61 5 4 .int true := ⟨RX6, TX6, 5, tyX6, rfl, w_X6, tyX6_ok, nmX6, by decide, gw_in (List.mem_of_getElem? (i := 407) (by decide +kernel)) rfl, rfl, rfl, rfl⟩
theorem lX11_90 : Cond.methodLink RX11 90 yX7_putRule ∈ gW0 := gw_in (List.mem_of_getElem? (i := 419) (by decide +kernel)) rfl
theorem i_X7_putRule : Cond.instanceMethod yX7_putRule ∈ gW0 := gw_in (List.mem_of_getElem? (i := 420) (by decide +kernel)) rfl
theorem s_X7_putRule : Cond.selects yX7_putRule.cls yX7_putRule yX7_putRule ∈ gW0 := gw_in (List.mem_of_getElem? (i := 421) (by decide +kernel)) rfl
theorem lX11_98 : Cond.methodLink RX11 98 yX10_readSilence ∈ gW0 := gw_in (List.mem_of_getElem? (i := 423) (by decide +kernel)) rfl
theorem i_X10_readSilence : Cond.instanceMethod yX10_readSilence ∈ gW0 := gw_in (List.mem_of_getElem? (i := 424) (by decide +kernel)) rfl
theorem s_X10_readSilence : Cond.selects yX10_readSilence.cls yX10_readSilence yX10_readSilence ∈ gW0 := gw_in (List.mem_of_getElem? (i := 425) (by decide +kernel)) rfl
theorem kX10_71 : Cond.classLink RX10 71 RX8 ∈ gW0 := gw_in (List.mem_of_getElem? (i := 427) (by decide +kernel)) rfl
theorem nX10_71 : gCls RX10 71 7 3 [.null, .int 0, .int 0] := ⟨RX8, TX8, tyX8, rfl, w_X8, tyX8_ok, kX10_71, gw_in (List.mem_of_getElem? (i := 428) (by decide +kernel)) rfl, gw_in (List.mem_of_getElem? (i := 65) (by decide +kernel)) rfl, fun j hj => by rcases (show j = 0 ∨ j = 1 ∨ j = 2 by omega) with rfl | rfl | rfl <;> rfl⟩
theorem lX10_73 : Cond.methodLink RX10 73 yX8_init ∈ gW0 := gw_in (List.mem_of_getElem? (i := 429) (by decide +kernel)) rfl
theorem i_X8_init : Cond.instanceMethod yX8_init ∈ gW0 := gw_in (List.mem_of_getElem? (i := 430) (by decide +kernel)) rfl
theorem lX8_1 : Cond.methodLinkNest RX8 1 yX1_init RX11 ∈ gNest := by decide +kernel
theorem fX8_7 : gFld RX8 7 7 0 (.object "AlertEngine$Matchers") true := ⟨RX8, TX8, 3, tyX8, rfl, w_X8, tyX8_ok, nmX8, by decide, gw_in (List.mem_of_getElem? (i := 433) (by decide +kernel)) rfl, rfl, rfl, rfl⟩
theorem fX9_130 : gFld RX9 130 7 0 (.object "AlertEngine$Matchers") true := ⟨RX8, TX8, 3, tyX8, rfl, w_X8, tyX8_ok, nmX8, by decide, gw_in (List.mem_of_getElem? (i := 434) (by decide +kernel)) rfl, rfl, rfl, rfl⟩
theorem fX8_13 : gFld RX8 13 7 1 .int true := ⟨RX8, TX8, 3, tyX8, rfl, w_X8, tyX8_ok, nmX8, by decide, gw_in (List.mem_of_getElem? (i := 435) (by decide +kernel)) rfl, rfl, rfl, rfl⟩
theorem fX8_17 : gFld RX8 17 7 2 .int true := ⟨RX8, TX8, 3, tyX8, rfl, w_X8, tyX8_ok, nmX8, by decide, gw_in (List.mem_of_getElem? (i := 436) (by decide +kernel)) rfl, rfl, rfl, rfl⟩
theorem lX11_106 : Cond.methodLink RX11 106 yX10_readInhibition ∈ gW0 := gw_in (List.mem_of_getElem? (i := 444) (by decide +kernel)) rfl
theorem i_X10_readInhibition : Cond.instanceMethod yX10_readInhibition ∈ gW0 := gw_in (List.mem_of_getElem? (i := 445) (by decide +kernel)) rfl
theorem s_X10_readInhibition : Cond.selects yX10_readInhibition.cls yX10_readInhibition yX10_readInhibition ∈ gW0 := gw_in (List.mem_of_getElem? (i := 446) (by decide +kernel)) rfl
theorem kX10_79 : Cond.classLink RX10 79 RX3 ∈ gW0 := gw_in (List.mem_of_getElem? (i := 448) (by decide +kernel)) rfl
theorem nX10_79 : gCls RX10 79 2 3 [.null, .null, .int 0] := ⟨RX3, TX3, tyX3, rfl, w_X3, tyX3_ok, kX10_79, gw_in (List.mem_of_getElem? (i := 449) (by decide +kernel)) rfl, gw_in (List.mem_of_getElem? (i := 66) (by decide +kernel)) rfl, fun j hj => by rcases (show j = 0 ∨ j = 1 ∨ j = 2 by omega) with rfl | rfl | rfl <;> rfl⟩
theorem lX10_81 : Cond.methodLink RX10 81 yX3_init ∈ gW0 := gw_in (List.mem_of_getElem? (i := 450) (by decide +kernel)) rfl
theorem i_X3_init : Cond.instanceMethod yX3_init ∈ gW0 := gw_in (List.mem_of_getElem? (i := 451) (by decide +kernel)) rfl
theorem lX3_1 : Cond.methodLinkNest RX3 1 yX1_init RX11 ∈ gNest := by decide +kernel
theorem fX3_7 : gFld RX3 7 2 0 (.object "AlertEngine$Matchers") true := ⟨RX3, TX3, 3, tyX3, rfl, w_X3, tyX3_ok, nmX3, by decide, gw_in (List.mem_of_getElem? (i := 454) (by decide +kernel)) rfl, rfl, rfl, rfl⟩
theorem fX9_155 : gFld RX9 155 2 0 (.object "AlertEngine$Matchers") true := ⟨RX3, TX3, 3, tyX3, rfl, w_X3, tyX3_ok, nmX3, by decide, gw_in (List.mem_of_getElem? (i := 455) (by decide +kernel)) rfl, rfl, rfl, rfl⟩
theorem fX3_13 : gFld RX3 13 2 1 (.object "AlertEngine$Matchers") true := ⟨RX3, TX3, 3, tyX3, rfl, w_X3, tyX3_ok, nmX3, by decide, gw_in (List.mem_of_getElem? (i := 456) (by decide +kernel)) rfl, rfl, rfl, rfl⟩
theorem fX9_150 : gFld RX9 150 2 1 (.object "AlertEngine$Matchers") true := ⟨RX3, TX3, 3, tyX3, rfl, w_X3, tyX3_ok, nmX3, by decide, gw_in (List.mem_of_getElem? (i := 457) (by decide +kernel)) rfl, rfl, rfl, rfl⟩
theorem fX3_16 : gFld RX3 16 2 2 .int true := ⟨RX3, TX3, 3, tyX3, rfl, w_X3, tyX3_ok, nmX3, by decide, gw_in (List.mem_of_getElem? (i := 458) (by decide +kernel)) rfl, rfl, rfl, rfl⟩
theorem fX9_158 : gFld RX9 158 2 2 .int true := ⟨RX3, TX3, 3, tyX3, rfl, w_X3, tyX3_ok, nmX3, by decide, gw_in (List.mem_of_getElem? (i := 459) (by decide +kernel)) rfl, rfl, rfl, rfl⟩
theorem lX11_117 : Cond.methodLink RX11 117 yX10_clear ∈ gW0 := gw_in (List.mem_of_getElem? (i := 467) (by decide +kernel)) rfl
theorem i_X10_clear : Cond.instanceMethod yX10_clear ∈ gW0 := gw_in (List.mem_of_getElem? (i := 468) (by decide +kernel)) rfl
theorem s_X10_clear : Cond.selects yX10_clear.cls yX10_clear yX10_clear ∈ gW0 := gw_in (List.mem_of_getElem? (i := 469) (by decide +kernel)) rfl
theorem lL_37 : Cond.methodLink RL 37 yX11_remove ∈ gW0 := gw_in (List.mem_of_getElem? (i := 471) (by decide +kernel)) rfl
theorem i_X11_remove : Cond.instanceMethod yX11_remove ∈ gW0 := gw_in (List.mem_of_getElem? (i := 472) (by decide +kernel)) rfl
theorem s_X11_remove : Cond.selects yX11_remove.cls yX11_remove yX11_remove ∈ gW0 := gw_in (List.mem_of_getElem? (i := 473) (by decide +kernel)) rfl
theorem lX11_120 : Cond.methodLink RX11 120 yX11_holdsEntry ∈ gW0 := gw_in (List.mem_of_getElem? (i := 475) (by decide +kernel)) rfl
theorem i_X11_holdsEntry : Cond.static yX11_holdsEntry ∈ gW0 := gw_in (List.mem_of_getElem? (i := 476) (by decide +kernel)) rfl
theorem lX11_128 : Cond.methodLink RX11 128 yX0_forgetRule ∈ gW0 := gw_in (List.mem_of_getElem? (i := 478) (by decide +kernel)) rfl
theorem i_X0_forgetRule : Cond.instanceMethod yX0_forgetRule ∈ gW0 := gw_in (List.mem_of_getElem? (i := 479) (by decide +kernel)) rfl
theorem s_X0_forgetRule : Cond.selects yX0_forgetRule.cls yX0_forgetRule yX0_forgetRule ∈ gW0 := gw_in (List.mem_of_getElem? (i := 480) (by decide +kernel)) rfl
theorem cX0_64 : Cond.constantLong RX0 64 (4095) ∈ gW0 := gw_in (List.mem_of_getElem? (i := 482) (by decide +kernel)) rfl
theorem cX0_55 : Cond.constantLong RX0 55 (-1) ∈ gW0 := gw_in (List.mem_of_getElem? (i := 483) (by decide +kernel)) rfl
theorem lX11_133 : Cond.methodLink RX11 133 yX11_countEntries ∈ gW0 := gw_in (List.mem_of_getElem? (i := 484) (by decide +kernel)) rfl
theorem i_X11_countEntries : Cond.static yX11_countEntries ∈ gW0 := gw_in (List.mem_of_getElem? (i := 485) (by decide +kernel)) rfl
theorem lL_41 : Cond.methodLink RL 41 yX11_parameter ∈ gW0 := gw_in (List.mem_of_getElem? (i := 487) (by decide +kernel)) rfl
theorem i_X11_parameter : Cond.instanceMethod yX11_parameter ∈ gW0 := gw_in (List.mem_of_getElem? (i := 488) (by decide +kernel)) rfl
theorem s_X11_parameter : Cond.selects yX11_parameter.cls yX11_parameter yX11_parameter ∈ gW0 := gw_in (List.mem_of_getElem? (i := 489) (by decide +kernel)) rfl
theorem gX11_136 : Cond.fieldLink RX11 136 RX11 (gSt 2).1 "[I" ∈ gW0 := gw_in (List.mem_of_getElem? (i := 491) (by decide +kernel)) rfl
theorem gX11_139 : Cond.fieldLink RX11 139 RX11 (gSt 3).1 "[I" ∈ gW0 := gw_in (List.mem_of_getElem? (i := 493) (by decide +kernel)) rfl
theorem lX11_149 : Cond.methodLink RX11 149 yX2_forgetAll ∈ gW0 := gw_in (List.mem_of_getElem? (i := 495) (by decide +kernel)) rfl
theorem i_X2_forgetAll : Cond.instanceMethod yX2_forgetAll ∈ gW0 := gw_in (List.mem_of_getElem? (i := 496) (by decide +kernel)) rfl
theorem s_X2_forgetAll : Cond.selects yX2_forgetAll.cls yX2_forgetAll yX2_forgetAll ∈ gW0 := gw_in (List.mem_of_getElem? (i := 497) (by decide +kernel)) rfl
theorem lL_45 : Cond.methodLink RL 45 yX11_pass ∈ gW0 := gw_in (List.mem_of_getElem? (i := 499) (by decide +kernel)) rfl
theorem i_X11_pass : Cond.instanceMethod yX11_pass ∈ gW0 := gw_in (List.mem_of_getElem? (i := 500) (by decide +kernel)) rfl
theorem s_X11_pass : Cond.selects yX11_pass.cls yX11_pass yX11_pass ∈ gW0 := gw_in (List.mem_of_getElem? (i := 501) (by decide +kernel)) rfl
theorem lX11_154 : Cond.methodLink RX11 154 yX11_isSpan ∈ gW0 := gw_in (List.mem_of_getElem? (i := 503) (by decide +kernel)) rfl
theorem i_X11_isSpan : Cond.static yX11_isSpan ∈ gW0 := gw_in (List.mem_of_getElem? (i := 504) (by decide +kernel)) rfl
theorem cX11_160 : Cond.constant RX11 160 (99999) ∈ gW0 := gw_in (List.mem_of_getElem? (i := 506) (by decide +kernel)) rfl
theorem lX11_161 : Cond.methodLink RX11 161 yX9_steps ∈ gW0 := gw_in (List.mem_of_getElem? (i := 507) (by decide +kernel)) rfl
theorem i_X9_steps : Cond.instanceMethod yX9_steps ∈ gW0 := gw_in (List.mem_of_getElem? (i := 508) (by decide +kernel)) rfl
theorem s_X9_steps : Cond.selects yX9_steps.cls yX9_steps yX9_steps ∈ gW0 := gw_in (List.mem_of_getElem? (i := 509) (by decide +kernel)) rfl
theorem lX9_56 : Cond.methodLink RX9 56 yX9_step ∈ gW0 := gw_in (List.mem_of_getElem? (i := 511) (by decide +kernel)) rfl
theorem i_X9_step : Cond.instanceMethod yX9_step ∈ gW0 := gw_in (List.mem_of_getElem? (i := 512) (by decide +kernel)) rfl
theorem s_X9_step : Cond.selects yX9_step.cls yX9_step yX9_step ∈ gW0 := gw_in (List.mem_of_getElem? (i := 513) (by decide +kernel)) rfl
theorem lX9_60 : Cond.methodLink RX9 60 yX7_holding ∈ gW0 := gw_in (List.mem_of_getElem? (i := 515) (by decide +kernel)) rfl
theorem i_X7_holding : Cond.instanceMethod yX7_holding ∈ gW0 := gw_in (List.mem_of_getElem? (i := 516) (by decide +kernel)) rfl
theorem s_X7_holding : Cond.selects yX7_holding.cls yX7_holding yX7_holding ∈ gW0 := gw_in (List.mem_of_getElem? (i := 517) (by decide +kernel)) rfl
theorem lX7_81 : Cond.methodLink RX7 81 yX7_acceptedSeries ∈ gW0 := gw_in (List.mem_of_getElem? (i := 519) (by decide +kernel)) rfl
theorem i_X7_acceptedSeries : Cond.instanceMethod yX7_acceptedSeries ∈ gW0 := gw_in (List.mem_of_getElem? (i := 521) (by decide +kernel)) rfl
theorem lX7_93 : Cond.methodLink RX7 93 yX6_accepts ∈ gW0 := gw_in (List.mem_of_getElem? (i := 523) (by decide +kernel)) rfl
theorem i_X6_accepts : Cond.instanceMethod yX6_accepts ∈ gW0 := gw_in (List.mem_of_getElem? (i := 524) (by decide +kernel)) rfl
theorem s_X6_accepts : Cond.selects yX6_accepts.cls yX6_accepts yX6_accepts ∈ gW0 := gw_in (List.mem_of_getElem? (i := 525) (by decide +kernel)) rfl
theorem lX7_89 : Cond.methodLink RX7 89 yX7_matched ∈ gW0 := gw_in (List.mem_of_getElem? (i := 527) (by decide +kernel)) rfl
theorem i_X7_matched : Cond.instanceMethod yX7_matched ∈ gW0 := gw_in (List.mem_of_getElem? (i := 528) (by decide +kernel)) rfl
theorem s_X7_matched : Cond.selects yX7_matched.cls yX7_matched yX7_matched ∈ gW0 := gw_in (List.mem_of_getElem? (i := 529) (by decide +kernel)) rfl
theorem cX7_67 : Cond.constantLong RX7 67 (1152921504606846975) ∈ gW0 := gw_in (List.mem_of_getElem? (i := 531) (by decide +kernel)) rfl
theorem cX7_79 : Cond.constantLong RX7 79 (-1) ∈ gW0 := gw_in (List.mem_of_getElem? (i := 532) (by decide +kernel)) rfl
theorem lX9_64 : Cond.methodLink RX9 64 yX0_advance ∈ gW0 := gw_in (List.mem_of_getElem? (i := 533) (by decide +kernel)) rfl
theorem i_X0_advance : Cond.instanceMethod yX0_advance ∈ gW0 := gw_in (List.mem_of_getElem? (i := 534) (by decide +kernel)) rfl
theorem s_X0_advance : Cond.selects yX0_advance.cls yX0_advance yX0_advance ∈ gW0 := gw_in (List.mem_of_getElem? (i := 535) (by decide +kernel)) rfl
theorem lX0_34 : Cond.methodLinkNest RX0 34 yX11_has RX11 ∈ gNest := by decide +kernel
theorem i_X11_has : Cond.static yX11_has ∈ gW0 := gw_in (List.mem_of_getElem? (i := 538) (by decide +kernel)) rfl
theorem lX0_42 : Cond.methodLink RX0 42 yX7_waitOf ∈ gW0 := gw_in (List.mem_of_getElem? (i := 540) (by decide +kernel)) rfl
theorem i_X7_waitOf : Cond.instanceMethod yX7_waitOf ∈ gW0 := gw_in (List.mem_of_getElem? (i := 541) (by decide +kernel)) rfl
theorem s_X7_waitOf : Cond.selects yX7_waitOf.cls yX7_waitOf yX7_waitOf ∈ gW0 := gw_in (List.mem_of_getElem? (i := 542) (by decide +kernel)) rfl
theorem lX0_47 : Cond.methodLink RX0 47 yX0_rise ∈ gW0 := gw_in (List.mem_of_getElem? (i := 544) (by decide +kernel)) rfl
theorem i_X0_rise : Cond.instanceMethod yX0_rise ∈ gW0 := gw_in (List.mem_of_getElem? (i := 546) (by decide +kernel)) rfl
theorem lX0_38 : Cond.methodLink RX0 38 yX0_stateOf ∈ gW0 := gw_in (List.mem_of_getElem? (i := 548) (by decide +kernel)) rfl
theorem i_X0_stateOf : Cond.instanceMethod yX0_stateOf ∈ gW0 := gw_in (List.mem_of_getElem? (i := 549) (by decide +kernel)) rfl
theorem s_X0_stateOf : Cond.selects yX0_stateOf.cls yX0_stateOf yX0_stateOf ∈ gW0 := gw_in (List.mem_of_getElem? (i := 550) (by decide +kernel)) rfl
theorem lX0_57 : Cond.methodLink RX0 57 yX0_remember ∈ gW0 := gw_in (List.mem_of_getElem? (i := 552) (by decide +kernel)) rfl
theorem i_X0_remember : Cond.instanceMethod yX0_remember ∈ gW0 := gw_in (List.mem_of_getElem? (i := 554) (by decide +kernel)) rfl
theorem lX0_51 : Cond.methodLink RX0 51 yX0_settle ∈ gW0 := gw_in (List.mem_of_getElem? (i := 556) (by decide +kernel)) rfl
theorem i_X0_settle : Cond.instanceMethod yX0_settle ∈ gW0 := gw_in (List.mem_of_getElem? (i := 558) (by decide +kernel)) rfl
theorem lX9_68 : Cond.methodLink RX9 68 yX9_active ∈ gW0 := gw_in (List.mem_of_getElem? (i := 560) (by decide +kernel)) rfl
theorem i_X9_active : Cond.instanceMethod yX9_active ∈ gW0 := gw_in (List.mem_of_getElem? (i := 561) (by decide +kernel)) rfl
theorem s_X9_active : Cond.selects yX9_active.cls yX9_active yX9_active ∈ gW0 := gw_in (List.mem_of_getElem? (i := 562) (by decide +kernel)) rfl
theorem lX9_108 : Cond.methodLink RX9 108 yX9_silenced ∈ gW0 := gw_in (List.mem_of_getElem? (i := 564) (by decide +kernel)) rfl
theorem i_X9_silenced : Cond.instanceMethod yX9_silenced ∈ gW0 := gw_in (List.mem_of_getElem? (i := 565) (by decide +kernel)) rfl
theorem s_X9_silenced : Cond.selects yX9_silenced.cls yX9_silenced yX9_silenced ∈ gW0 := gw_in (List.mem_of_getElem? (i := 566) (by decide +kernel)) rfl
theorem lX9_138 : Cond.methodLink RX9 138 yX9_silencedBy ∈ gW0 := gw_in (List.mem_of_getElem? (i := 568) (by decide +kernel)) rfl
theorem i_X9_silencedBy : Cond.instanceMethod yX9_silencedBy ∈ gW0 := gw_in (List.mem_of_getElem? (i := 570) (by decide +kernel)) rfl
theorem lX9_124 : Cond.methodLink RX9 124 yX8_isOn ∈ gW0 := gw_in (List.mem_of_getElem? (i := 572) (by decide +kernel)) rfl
theorem i_X8_isOn : Cond.instanceMethod yX8_isOn ∈ gW0 := gw_in (List.mem_of_getElem? (i := 573) (by decide +kernel)) rfl
theorem s_X8_isOn : Cond.selects yX8_isOn.cls yX8_isOn yX8_isOn ∈ gW0 := gw_in (List.mem_of_getElem? (i := 574) (by decide +kernel)) rfl
theorem lX9_134 : Cond.methodLink RX9 134 yX7_matched ∈ gW0 := gw_in (List.mem_of_getElem? (i := 576) (by decide +kernel)) rfl
theorem cX9_111 : Cond.constantLong RX9 111 (-1) ∈ gW0 := gw_in (List.mem_of_getElem? (i := 577) (by decide +kernel)) rfl
theorem lX9_113 : Cond.methodLink RX9 113 yX9_inhibited ∈ gW0 := gw_in (List.mem_of_getElem? (i := 578) (by decide +kernel)) rfl
theorem i_X9_inhibited : Cond.instanceMethod yX9_inhibited ∈ gW0 := gw_in (List.mem_of_getElem? (i := 579) (by decide +kernel)) rfl
theorem s_X9_inhibited : Cond.selects yX9_inhibited.cls yX9_inhibited yX9_inhibited ∈ gW0 := gw_in (List.mem_of_getElem? (i := 580) (by decide +kernel)) rfl
theorem lX9_165 : Cond.methodLink RX9 165 yX9_inhibitedBy ∈ gW0 := gw_in (List.mem_of_getElem? (i := 582) (by decide +kernel)) rfl
theorem i_X9_inhibitedBy : Cond.instanceMethod yX9_inhibitedBy ∈ gW0 := gw_in (List.mem_of_getElem? (i := 584) (by decide +kernel)) rfl
theorem lX9_161 : Cond.methodLink RX9 161 yX7_alike ∈ gW0 := gw_in (List.mem_of_getElem? (i := 586) (by decide +kernel)) rfl
theorem i_X7_alike : Cond.instanceMethod yX7_alike ∈ gW0 := gw_in (List.mem_of_getElem? (i := 587) (by decide +kernel)) rfl
theorem s_X7_alike : Cond.selects yX7_alike.cls yX7_alike yX7_alike ∈ gW0 := gw_in (List.mem_of_getElem? (i := 588) (by decide +kernel)) rfl
theorem lX9_91 : Cond.methodLink RX9 91 yJ13_bitCount_95d88 ∈ gW0 := gw_in (List.mem_of_getElem? (i := 590) (by decide +kernel)) rfl
theorem i_J13_bitCount_95d88 : Cond.static yJ13_bitCount_95d88 ∈ gW0 := gw_in (List.mem_of_getElem? (i := 591) (by decide +kernel)) rfl
theorem cJ13_314 : Cond.constantLong RJ13 314 (6148914691236517205) ∈ gW0 := gw_in (List.mem_of_getElem? (i := 593) (by decide +kernel)) rfl
theorem cJ13_316 : Cond.constantLong RJ13 316 (3689348814741910323) ∈ gW0 := gw_in (List.mem_of_getElem? (i := 594) (by decide +kernel)) rfl
theorem cJ13_318 : Cond.constantLong RJ13 318 (1085102592571150095) ∈ gW0 := gw_in (List.mem_of_getElem? (i := 595) (by decide +kernel)) rfl
theorem cX9_169 : Cond.constantLong RX9 169 (1152921504606846975) ∈ gW0 := gw_in (List.mem_of_getElem? (i := 596) (by decide +kernel)) rfl
theorem cX9_171 : Cond.constantLong RX9 171 (281543712968705) ∈ gW0 := gw_in (List.mem_of_getElem? (i := 597) (by decide +kernel)) rfl
theorem lX9_116 : Cond.methodLink RX9 116 yX9_flapping ∈ gW0 := gw_in (List.mem_of_getElem? (i := 598) (by decide +kernel)) rfl
theorem i_X9_flapping : Cond.instanceMethod yX9_flapping ∈ gW0 := gw_in (List.mem_of_getElem? (i := 599) (by decide +kernel)) rfl
theorem s_X9_flapping : Cond.selects yX9_flapping.cls yX9_flapping yX9_flapping ∈ gW0 := gw_in (List.mem_of_getElem? (i := 600) (by decide +kernel)) rfl
theorem lX9_177 : Cond.methodLink RX9 177 yX9_windowStart ∈ gW0 := gw_in (List.mem_of_getElem? (i := 602) (by decide +kernel)) rfl
theorem i_X9_windowStart : Cond.instanceMethod yX9_windowStart ∈ gW0 := gw_in (List.mem_of_getElem? (i := 603) (by decide +kernel)) rfl
theorem s_X9_windowStart : Cond.selects yX9_windowStart.cls yX9_windowStart yX9_windowStart ∈ gW0 := gw_in (List.mem_of_getElem? (i := 604) (by decide +kernel)) rfl
theorem lX9_180 : Cond.methodLink RX9 180 yX0_flapping ∈ gW0 := gw_in (List.mem_of_getElem? (i := 606) (by decide +kernel)) rfl
theorem i_X0_flapping : Cond.instanceMethod yX0_flapping ∈ gW0 := gw_in (List.mem_of_getElem? (i := 607) (by decide +kernel)) rfl
theorem s_X0_flapping : Cond.selects yX0_flapping.cls yX0_flapping yX0_flapping ∈ gW0 := gw_in (List.mem_of_getElem? (i := 608) (by decide +kernel)) rfl
theorem lX0_60 : Cond.methodLink RX0 60 yX0_transitionsAfter ∈ gW0 := gw_in (List.mem_of_getElem? (i := 610) (by decide +kernel)) rfl
theorem i_X0_transitionsAfter : Cond.instanceMethod yX0_transitionsAfter ∈ gW0 := gw_in (List.mem_of_getElem? (i := 611) (by decide +kernel)) rfl
theorem s_X0_transitionsAfter : Cond.selects yX0_transitionsAfter.cls yX0_transitionsAfter yX0_transitionsAfter ∈ gW0 := gw_in (List.mem_of_getElem? (i := 612) (by decide +kernel)) rfl
theorem lX9_71 : Cond.methodLink RX9 71 yX2_sort ∈ gW0 := gw_in (List.mem_of_getElem? (i := 614) (by decide +kernel)) rfl
theorem i_X2_sort : Cond.instanceMethod yX2_sort ∈ gW0 := gw_in (List.mem_of_getElem? (i := 615) (by decide +kernel)) rfl
theorem s_X2_sort : Cond.selects yX2_sort.cls yX2_sort yX2_sort ∈ gW0 := gw_in (List.mem_of_getElem? (i := 616) (by decide +kernel)) rfl
theorem lX2_32 : Cond.methodLink RX2 32 yX7_keyOf ∈ gW0 := gw_in (List.mem_of_getElem? (i := 618) (by decide +kernel)) rfl
theorem i_X7_keyOf : Cond.instanceMethod yX7_keyOf ∈ gW0 := gw_in (List.mem_of_getElem? (i := 619) (by decide +kernel)) rfl
theorem s_X7_keyOf : Cond.selects yX7_keyOf.cls yX7_keyOf yX7_keyOf ∈ gW0 := gw_in (List.mem_of_getElem? (i := 620) (by decide +kernel)) rfl
theorem cX2_38 : Cond.constantLong RX2 38 (281543712968705) ∈ gW0 := gw_in (List.mem_of_getElem? (i := 622) (by decide +kernel)) rfl
theorem lX9_75 : Cond.methodLink RX9 75 yX2_dueKind ∈ gW0 := gw_in (List.mem_of_getElem? (i := 623) (by decide +kernel)) rfl
theorem i_X2_dueKind : Cond.instanceMethod yX2_dueKind ∈ gW0 := gw_in (List.mem_of_getElem? (i := 624) (by decide +kernel)) rfl
theorem s_X2_dueKind : Cond.selects yX2_dueKind.cls yX2_dueKind yX2_dueKind ∈ gW0 := gw_in (List.mem_of_getElem? (i := 625) (by decide +kernel)) rfl
theorem lX2_42 : Cond.methodLink RX2 42 yX2_newcomers ∈ gW0 := gw_in (List.mem_of_getElem? (i := 627) (by decide +kernel)) rfl
theorem i_X2_newcomers : Cond.instanceMethod yX2_newcomers ∈ gW0 := gw_in (List.mem_of_getElem? (i := 628) (by decide +kernel)) rfl
theorem s_X2_newcomers : Cond.selects yX2_newcomers.cls yX2_newcomers yX2_newcomers ∈ gW0 := gw_in (List.mem_of_getElem? (i := 629) (by decide +kernel)) rfl
theorem cX2_40 : Cond.constantLong RX2 40 (-1) ∈ gW0 := gw_in (List.mem_of_getElem? (i := 631) (by decide +kernel)) rfl
theorem lX9_79 : Cond.methodLink RX9 79 yX9_sendGroup ∈ gW0 := gw_in (List.mem_of_getElem? (i := 632) (by decide +kernel)) rfl
theorem i_X9_sendGroup : Cond.instanceMethod yX9_sendGroup ∈ gW0 := gw_in (List.mem_of_getElem? (i := 634) (by decide +kernel)) rfl
theorem lX9_87 : Cond.methodLink RX9 87 yX2_markSent ∈ gW0 := gw_in (List.mem_of_getElem? (i := 636) (by decide +kernel)) rfl
theorem i_X2_markSent : Cond.instanceMethod yX2_markSent ∈ gW0 := gw_in (List.mem_of_getElem? (i := 637) (by decide +kernel)) rfl
theorem s_X2_markSent : Cond.selects yX2_markSent.cls yX2_markSent yX2_markSent ∈ gW0 := gw_in (List.mem_of_getElem? (i := 638) (by decide +kernel)) rfl
theorem lX9_97 : Cond.methodLink RX9 97 yX7_greatestSeverity ∈ gW0 := gw_in (List.mem_of_getElem? (i := 640) (by decide +kernel)) rfl
theorem i_X7_greatestSeverity : Cond.instanceMethod yX7_greatestSeverity ∈ gW0 := gw_in (List.mem_of_getElem? (i := 641) (by decide +kernel)) rfl
theorem s_X7_greatestSeverity : Cond.selects yX7_greatestSeverity.cls yX7_greatestSeverity yX7_greatestSeverity ∈ gW0 := gw_in (List.mem_of_getElem? (i := 642) (by decide +kernel)) rfl
theorem gX7_100 : Cond.fieldLinkNest RX7 100 RX11 (gSt 1).1 "[I" RX11 ∈ gNest := by decide +kernel
theorem lX9_100 : Cond.methodLink RX9 100 yX4_write ∈ gW0 := gw_in (List.mem_of_getElem? (i := 645) (by decide +kernel)) rfl
theorem i_X4_write : Cond.instanceMethod yX4_write ∈ gW0 := gw_in (List.mem_of_getElem? (i := 646) (by decide +kernel)) rfl
theorem s_X4_write : Cond.selects yX4_write.cls yX4_write yX4_write ∈ gW0 := gw_in (List.mem_of_getElem? (i := 647) (by decide +kernel)) rfl
theorem lL_49 : Cond.methodLink RL 49 yX11_alert ∈ gW0 := gw_in (List.mem_of_getElem? (i := 649) (by decide +kernel)) rfl
theorem i_X11_alert : Cond.instanceMethod yX11_alert ∈ gW0 := gw_in (List.mem_of_getElem? (i := 650) (by decide +kernel)) rfl
theorem s_X11_alert : Cond.selects yX11_alert.cls yX11_alert yX11_alert ∈ gW0 := gw_in (List.mem_of_getElem? (i := 651) (by decide +kernel)) rfl
theorem lX11_169 : Cond.methodLink RX11 169 yX0_stateOf ∈ gW0 := gw_in (List.mem_of_getElem? (i := 653) (by decide +kernel)) rfl
theorem lX11_172 : Cond.methodLink RX11 172 yX0_sinceOf ∈ gW0 := gw_in (List.mem_of_getElem? (i := 654) (by decide +kernel)) rfl
theorem i_X0_sinceOf : Cond.instanceMethod yX0_sinceOf ∈ gW0 := gw_in (List.mem_of_getElem? (i := 655) (by decide +kernel)) rfl
theorem s_X0_sinceOf : Cond.selects yX0_sinceOf.cls yX0_sinceOf yX0_sinceOf ∈ gW0 := gw_in (List.mem_of_getElem? (i := 656) (by decide +kernel)) rfl
theorem lX11_175 : Cond.methodLink RX11 175 yX9_silenced ∈ gW0 := gw_in (List.mem_of_getElem? (i := 658) (by decide +kernel)) rfl
theorem lX11_179 : Cond.methodLink RX11 179 yX11_has ∈ gW0 := gw_in (List.mem_of_getElem? (i := 659) (by decide +kernel)) rfl
theorem lX11_183 : Cond.methodLink RX11 183 yX9_inhibitorsOf ∈ gW0 := gw_in (List.mem_of_getElem? (i := 660) (by decide +kernel)) rfl
theorem i_X9_inhibitorsOf : Cond.instanceMethod yX9_inhibitorsOf ∈ gW0 := gw_in (List.mem_of_getElem? (i := 661) (by decide +kernel)) rfl
theorem s_X9_inhibitorsOf : Cond.selects yX9_inhibitorsOf.cls yX9_inhibitorsOf yX9_inhibitorsOf ∈ gW0 := gw_in (List.mem_of_getElem? (i := 662) (by decide +kernel)) rfl
theorem lX9_142 : Cond.methodLinkNest RX9 142 yX11_has RX11 ∈ gNest := by decide +kernel
theorem cX11_187 : Cond.constantLong RX11 187 (1152921504606846975) ∈ gW0 := gw_in (List.mem_of_getElem? (i := 665) (by decide +kernel)) rfl
theorem lX11_189 : Cond.methodLink RX11 189 yX9_flapping ∈ gW0 := gw_in (List.mem_of_getElem? (i := 666) (by decide +kernel)) rfl
theorem lX11_193 : Cond.methodLink RX11 193 yX9_active ∈ gW0 := gw_in (List.mem_of_getElem? (i := 667) (by decide +kernel)) rfl
theorem lX11_196 : Cond.methodLink RX11 196 yX9_windowStart ∈ gW0 := gw_in (List.mem_of_getElem? (i := 668) (by decide +kernel)) rfl
theorem lX11_200 : Cond.methodLink RX11 200 yX0_transitionsAfter ∈ gW0 := gw_in (List.mem_of_getElem? (i := 669) (by decide +kernel)) rfl
theorem lX11_204 : Cond.methodLink RX11 204 yX7_keyOf ∈ gW0 := gw_in (List.mem_of_getElem? (i := 670) (by decide +kernel)) rfl
theorem lX11_207 : Cond.methodLink RX11 207 yX9_lowestSilenceOf ∈ gW0 := gw_in (List.mem_of_getElem? (i := 671) (by decide +kernel)) rfl
theorem i_X9_lowestSilenceOf : Cond.instanceMethod yX9_lowestSilenceOf ∈ gW0 := gw_in (List.mem_of_getElem? (i := 672) (by decide +kernel)) rfl
theorem s_X9_lowestSilenceOf : Cond.selects yX9_lowestSilenceOf.cls yX9_lowestSilenceOf yX9_lowestSilenceOf ∈ gW0 := gw_in (List.mem_of_getElem? (i := 673) (by decide +kernel)) rfl
theorem lX11_210 : Cond.methodLink RX11 210 yX11_lowest ∈ gW0 := gw_in (List.mem_of_getElem? (i := 675) (by decide +kernel)) rfl
theorem i_X11_lowest : Cond.static yX11_lowest ∈ gW0 := gw_in (List.mem_of_getElem? (i := 676) (by decide +kernel)) rfl
theorem lX11_301 : Cond.methodLink RX11 301 yJ13_numberOfTrailingZeros_95d88 ∈ gW0 := gw_in (List.mem_of_getElem? (i := 678) (by decide +kernel)) rfl
theorem i_J13_numberOfTrailingZeros_95d88 : Cond.static yJ13_numberOfTrailingZeros_95d88 ∈ gW0 := gw_in (List.mem_of_getElem? (i := 679) (by decide +kernel)) rfl
theorem lJ13_311 : Cond.methodLink RJ13 311 yJ6_numberOfTrailingZeros_0f7a4 ∈ gW0 := gw_in (List.mem_of_getElem? (i := 681) (by decide +kernel)) rfl
theorem i_J6_numberOfTrailingZeros_0f7a4 : Cond.static yJ6_numberOfTrailingZeros_0f7a4 ∈ gW0 := gw_in (List.mem_of_getElem? (i := 682) (by decide +kernel)) rfl
theorem cJ6_264 : Cond.constant RJ6 264 (65536) ∈ gW0 := gw_in (List.mem_of_getElem? (i := 684) (by decide +kernel)) rfl
theorem lX11_214 : Cond.methodLink RX11 214 yX7_holding ∈ gW0 := gw_in (List.mem_of_getElem? (i := 685) (by decide +kernel)) rfl
theorem lL_53 : Cond.methodLink RL 53 yX11_alerts ∈ gW0 := gw_in (List.mem_of_getElem? (i := 686) (by decide +kernel)) rfl
theorem i_X11_alerts : Cond.instanceMethod yX11_alerts ∈ gW0 := gw_in (List.mem_of_getElem? (i := 687) (by decide +kernel)) rfl
theorem s_X11_alerts : Cond.selects yX11_alerts.cls yX11_alerts yX11_alerts ∈ gW0 := gw_in (List.mem_of_getElem? (i := 688) (by decide +kernel)) rfl
theorem lX11_224 : Cond.methodLink RX11 224 yX9_inhibited ∈ gW0 := gw_in (List.mem_of_getElem? (i := 690) (by decide +kernel)) rfl
theorem cX11_227 : Cond.constantLong RX11 227 (-1) ∈ gW0 := gw_in (List.mem_of_getElem? (i := 691) (by decide +kernel)) rfl
theorem lL_58 : Cond.methodLink RL 58 yX11_group ∈ gW0 := gw_in (List.mem_of_getElem? (i := 692) (by decide +kernel)) rfl
theorem i_X11_group : Cond.instanceMethod yX11_group ∈ gW0 := gw_in (List.mem_of_getElem? (i := 693) (by decide +kernel)) rfl
theorem s_X11_group : Cond.selects yX11_group.cls yX11_group yX11_group ∈ gW0 := gw_in (List.mem_of_getElem? (i := 694) (by decide +kernel)) rfl
theorem lX11_229 : Cond.methodLink RX11 229 yX2_sort ∈ gW0 := gw_in (List.mem_of_getElem? (i := 696) (by decide +kernel)) rfl
theorem lX11_243 : Cond.methodLink RX11 243 yJ13_bitCount_95d88 ∈ gW0 := gw_in (List.mem_of_getElem? (i := 697) (by decide +kernel)) rfl
theorem lX11_248 : Cond.methodLink RX11 248 yX2_newcomers ∈ gW0 := gw_in (List.mem_of_getElem? (i := 698) (by decide +kernel)) rfl
theorem lX11_251 : Cond.methodLink RX11 251 yX2_nextMinute ∈ gW0 := gw_in (List.mem_of_getElem? (i := 699) (by decide +kernel)) rfl
theorem i_X2_nextMinute : Cond.instanceMethod yX2_nextMinute ∈ gW0 := gw_in (List.mem_of_getElem? (i := 700) (by decide +kernel)) rfl
theorem s_X2_nextMinute : Cond.selects yX2_nextMinute.cls yX2_nextMinute yX2_nextMinute ∈ gW0 := gw_in (List.mem_of_getElem? (i := 701) (by decide +kernel)) rfl
theorem lX2_49 : Cond.methodLink RX2 49 yJ9_min_7cf53 ∈ gW0 := gw_in (List.mem_of_getElem? (i := 703) (by decide +kernel)) rfl
theorem i_J9_min_7cf53 : Cond.static yJ9_min_7cf53 ∈ gW0 := gw_in (List.mem_of_getElem? (i := 704) (by decide +kernel)) rfl
theorem lX2_55 : Cond.methodLink RX2 55 yJ9_max_7cf53 ∈ gW0 := gw_in (List.mem_of_getElem? (i := 706) (by decide +kernel)) rfl
theorem i_J9_max_7cf53 : Cond.static yJ9_max_7cf53 ∈ gW0 := gw_in (List.mem_of_getElem? (i := 707) (by decide +kernel)) rfl
theorem lL_62 : Cond.methodLink RL 62 yX11_key ∈ gW0 := gw_in (List.mem_of_getElem? (i := 709) (by decide +kernel)) rfl
theorem i_X11_key : Cond.instanceMethod yX11_key ∈ gW0 := gw_in (List.mem_of_getElem? (i := 710) (by decide +kernel)) rfl
theorem s_X11_key : Cond.selects yX11_key.cls yX11_key yX11_key ∈ gW0 := gw_in (List.mem_of_getElem? (i := 711) (by decide +kernel)) rfl
theorem lX11_255 : Cond.methodLink RX11 255 yX2_countNonEmpty ∈ gW0 := gw_in (List.mem_of_getElem? (i := 713) (by decide +kernel)) rfl
theorem i_X2_countNonEmpty : Cond.instanceMethod yX2_countNonEmpty ∈ gW0 := gw_in (List.mem_of_getElem? (i := 714) (by decide +kernel)) rfl
theorem s_X2_countNonEmpty : Cond.selects yX2_countNonEmpty.cls yX2_countNonEmpty yX2_countNonEmpty ∈ gW0 := gw_in (List.mem_of_getElem? (i := 715) (by decide +kernel)) rfl
theorem lX11_258 : Cond.methodLink RX11 258 yX2_keyAt ∈ gW0 := gw_in (List.mem_of_getElem? (i := 717) (by decide +kernel)) rfl
theorem i_X2_keyAt : Cond.instanceMethod yX2_keyAt ∈ gW0 := gw_in (List.mem_of_getElem? (i := 718) (by decide +kernel)) rfl
theorem s_X2_keyAt : Cond.selects yX2_keyAt.cls yX2_keyAt yX2_keyAt ∈ gW0 := gw_in (List.mem_of_getElem? (i := 719) (by decide +kernel)) rfl
theorem lL_66 : Cond.methodLink RL 66 yX11_sent ∈ gW0 := gw_in (List.mem_of_getElem? (i := 721) (by decide +kernel)) rfl
theorem i_X11_sent : Cond.instanceMethod yX11_sent ∈ gW0 := gw_in (List.mem_of_getElem? (i := 722) (by decide +kernel)) rfl
theorem s_X11_sent : Cond.selects yX11_sent.cls yX11_sent yX11_sent ∈ gW0 := gw_in (List.mem_of_getElem? (i := 723) (by decide +kernel)) rfl
theorem lX11_265 : Cond.methodLink RX11 265 yX4_keeps ∈ gW0 := gw_in (List.mem_of_getElem? (i := 725) (by decide +kernel)) rfl
theorem i_X4_keeps : Cond.instanceMethod yX4_keeps ∈ gW0 := gw_in (List.mem_of_getElem? (i := 726) (by decide +kernel)) rfl
theorem s_X4_keeps : Cond.selects yX4_keeps.cls yX4_keeps yX4_keeps ∈ gW0 := gw_in (List.mem_of_getElem? (i := 727) (by decide +kernel)) rfl
theorem lX11_270 : Cond.methodLink RX11 270 yX4_read ∈ gW0 := gw_in (List.mem_of_getElem? (i := 729) (by decide +kernel)) rfl
theorem i_X4_read : Cond.instanceMethod yX4_read ∈ gW0 := gw_in (List.mem_of_getElem? (i := 730) (by decide +kernel)) rfl
theorem s_X4_read : Cond.selects yX4_read.cls yX4_read yX4_read ∈ gW0 := gw_in (List.mem_of_getElem? (i := 731) (by decide +kernel)) rfl
theorem lL_70 : Cond.methodLink RL 70 yX11_ahead ∈ gW0 := gw_in (List.mem_of_getElem? (i := 733) (by decide +kernel)) rfl
theorem i_X11_ahead : Cond.instanceMethod yX11_ahead ∈ gW0 := gw_in (List.mem_of_getElem? (i := 734) (by decide +kernel)) rfl
theorem s_X11_ahead : Cond.selects yX11_ahead.cls yX11_ahead yX11_ahead ∈ gW0 := gw_in (List.mem_of_getElem? (i := 735) (by decide +kernel)) rfl
theorem lX11_273 : Cond.methodLink RX11 273 yX9_copyFrom ∈ gW0 := gw_in (List.mem_of_getElem? (i := 737) (by decide +kernel)) rfl
theorem i_X9_copyFrom : Cond.instanceMethod yX9_copyFrom ∈ gW0 := gw_in (List.mem_of_getElem? (i := 738) (by decide +kernel)) rfl
theorem s_X9_copyFrom : Cond.selects yX9_copyFrom.cls yX9_copyFrom yX9_copyFrom ∈ gW0 := gw_in (List.mem_of_getElem? (i := 739) (by decide +kernel)) rfl
theorem lX9_43 : Cond.methodLink RX9 43 yX7_copyFrom ∈ gW0 := gw_in (List.mem_of_getElem? (i := 741) (by decide +kernel)) rfl
theorem i_X7_copyFrom : Cond.instanceMethod yX7_copyFrom ∈ gW0 := gw_in (List.mem_of_getElem? (i := 742) (by decide +kernel)) rfl
theorem s_X7_copyFrom : Cond.selects yX7_copyFrom.cls yX7_copyFrom yX7_copyFrom ∈ gW0 := gw_in (List.mem_of_getElem? (i := 743) (by decide +kernel)) rfl
theorem aX7_50 : Cond.methodLink RX7 50 arraycopyName ∈ gW0 := gw_in (List.mem_of_getElem? (i := 745) (by decide +kernel)) rfl
theorem lX9_47 : Cond.methodLink RX9 47 yX0_copyFrom ∈ gW0 := gw_in (List.mem_of_getElem? (i := 748) (by decide +kernel)) rfl
theorem i_X0_copyFrom : Cond.instanceMethod yX0_copyFrom ∈ gW0 := gw_in (List.mem_of_getElem? (i := 749) (by decide +kernel)) rfl
theorem s_X0_copyFrom : Cond.selects yX0_copyFrom.cls yX0_copyFrom yX0_copyFrom ∈ gW0 := gw_in (List.mem_of_getElem? (i := 750) (by decide +kernel)) rfl
theorem aX0_28 : Cond.methodLink RX0 28 arraycopyName ∈ gW0 := gw_in (List.mem_of_getElem? (i := 752) (by decide +kernel)) rfl
theorem lX9_50 : Cond.methodLink RX9 50 yX2_copyFrom ∈ gW0 := gw_in (List.mem_of_getElem? (i := 753) (by decide +kernel)) rfl
theorem i_X2_copyFrom : Cond.instanceMethod yX2_copyFrom ∈ gW0 := gw_in (List.mem_of_getElem? (i := 754) (by decide +kernel)) rfl
theorem s_X2_copyFrom : Cond.selects yX2_copyFrom.cls yX2_copyFrom yX2_copyFrom ∈ gW0 := gw_in (List.mem_of_getElem? (i := 755) (by decide +kernel)) rfl
theorem aX2_26 : Cond.methodLink RX2 26 arraycopyName ∈ gW0 := gw_in (List.mem_of_getElem? (i := 757) (by decide +kernel)) rfl
theorem lX9_53 : Cond.methodLink RX9 53 yX4_copyFrom ∈ gW0 := gw_in (List.mem_of_getElem? (i := 758) (by decide +kernel)) rfl
theorem i_X4_copyFrom : Cond.instanceMethod yX4_copyFrom ∈ gW0 := gw_in (List.mem_of_getElem? (i := 759) (by decide +kernel)) rfl
theorem s_X4_copyFrom : Cond.selects yX4_copyFrom.cls yX4_copyFrom yX4_copyFrom ∈ gW0 := gw_in (List.mem_of_getElem? (i := 760) (by decide +kernel)) rfl
theorem aX4_17 : Cond.methodLink RX4 17 arraycopyName ∈ gW0 := gw_in (List.mem_of_getElem? (i := 762) (by decide +kernel)) rfl
theorem lL_74 : Cond.methodLink RL 74 yX11_next ∈ gW0 := gw_in (List.mem_of_getElem? (i := 763) (by decide +kernel)) rfl
theorem i_X11_next : Cond.instanceMethod yX11_next ∈ gW0 := gw_in (List.mem_of_getElem? (i := 764) (by decide +kernel)) rfl
theorem s_X11_next : Cond.selects yX11_next.cls yX11_next yX11_next ∈ gW0 := gw_in (List.mem_of_getElem? (i := 765) (by decide +kernel)) rfl
theorem lX11_277 : Cond.methodLink RX11 277 yX9_step ∈ gW0 := gw_in (List.mem_of_getElem? (i := 767) (by decide +kernel)) rfl
theorem lL_78 : Cond.methodLink RL 78 yX11_saved ∈ gW0 := gw_in (List.mem_of_getElem? (i := 768) (by decide +kernel)) rfl
theorem i_X11_saved : Cond.instanceMethod yX11_saved ∈ gW0 := gw_in (List.mem_of_getElem? (i := 769) (by decide +kernel)) rfl
theorem s_X11_saved : Cond.selects yX11_saved.cls yX11_saved yX11_saved ∈ gW0 := gw_in (List.mem_of_getElem? (i := 770) (by decide +kernel)) rfl
theorem lL_82 : Cond.methodLink RL 82 yX11_image ∈ gW0 := gw_in (List.mem_of_getElem? (i := 772) (by decide +kernel)) rfl
theorem i_X11_image : Cond.instanceMethod yX11_image ∈ gW0 := gw_in (List.mem_of_getElem? (i := 773) (by decide +kernel)) rfl
theorem s_X11_image : Cond.selects yX11_image.cls yX11_image yX11_image ∈ gW0 := gw_in (List.mem_of_getElem? (i := 774) (by decide +kernel)) rfl
theorem lL_87 : Cond.methodLink RL 87 yX11_undo ∈ gW0 := gw_in (List.mem_of_getElem? (i := 776) (by decide +kernel)) rfl
theorem i_X11_undo : Cond.instanceMethod yX11_undo ∈ gW0 := gw_in (List.mem_of_getElem? (i := 777) (by decide +kernel)) rfl
theorem s_X11_undo : Cond.selects yX11_undo.cls yX11_undo yX11_undo ∈ gW0 := gw_in (List.mem_of_getElem? (i := 778) (by decide +kernel)) rfl
theorem lL_91 : Cond.methodLink RL 91 yX11_count ∈ gW0 := gw_in (List.mem_of_getElem? (i := 780) (by decide +kernel)) rfl
theorem i_X11_count : Cond.instanceMethod yX11_count ∈ gW0 := gw_in (List.mem_of_getElem? (i := 781) (by decide +kernel)) rfl
theorem s_X11_count : Cond.selects yX11_count.cls yX11_count yX11_count ∈ gW0 := gw_in (List.mem_of_getElem? (i := 782) (by decide +kernel)) rfl
theorem lX11_283 : Cond.methodLink RX11 283 yX7_countValues ∈ gW0 := gw_in (List.mem_of_getElem? (i := 784) (by decide +kernel)) rfl
theorem i_X7_countValues : Cond.instanceMethod yX7_countValues ∈ gW0 := gw_in (List.mem_of_getElem? (i := 785) (by decide +kernel)) rfl
theorem s_X7_countValues : Cond.selects yX7_countValues.cls yX7_countValues yX7_countValues ∈ gW0 := gw_in (List.mem_of_getElem? (i := 786) (by decide +kernel)) rfl
theorem lX11_289 : Cond.methodLink RX11 289 yX2_countOpen ∈ gW0 := gw_in (List.mem_of_getElem? (i := 788) (by decide +kernel)) rfl
theorem i_X2_countOpen : Cond.instanceMethod yX2_countOpen ∈ gW0 := gw_in (List.mem_of_getElem? (i := 789) (by decide +kernel)) rfl
theorem s_X2_countOpen : Cond.selects yX2_countOpen.cls yX2_countOpen yX2_countOpen ∈ gW0 := gw_in (List.mem_of_getElem? (i := 790) (by decide +kernel)) rfl
theorem lX11_292 : Cond.methodLink RX11 292 yX7_greatestSeverity ∈ gW0 := gw_in (List.mem_of_getElem? (i := 792) (by decide +kernel)) rfl
theorem lX11_295 : Cond.methodLink RX11 295 yX9_countSilencesInUse ∈ gW0 := gw_in (List.mem_of_getElem? (i := 793) (by decide +kernel)) rfl
theorem i_X9_countSilencesInUse : Cond.instanceMethod yX9_countSilencesInUse ∈ gW0 := gw_in (List.mem_of_getElem? (i := 794) (by decide +kernel)) rfl
theorem s_X9_countSilencesInUse : Cond.selects yX9_countSilencesInUse.cls yX9_countSilencesInUse yX9_countSilencesInUse ∈ gW0 := gw_in (List.mem_of_getElem? (i := 795) (by decide +kernel)) rfl
theorem lX11_298 : Cond.methodLink RX11 298 yX11_parameterOrNone ∈ gW0 := gw_in (List.mem_of_getElem? (i := 797) (by decide +kernel)) rfl
theorem i_X11_parameterOrNone : Cond.instanceMethod yX11_parameterOrNone ∈ gW0 := gw_in (List.mem_of_getElem? (i := 799) (by decide +kernel)) rfl
theorem kL_10 : Cond.classLink RL 10 RX12 ∈ gW0 := gw_in (List.mem_of_getElem? (i := 801) (by decide +kernel)) rfl
theorem nL_10 : gCls RL 10 11 12 [.null, .null, .null, .null, .null, .null, .int 0, .null, .int 0, .int 0, .int 0, .null] := ⟨RX12, TX12, tyX12, rfl, w_X12, tyX12_ok, kL_10, gw_in (List.mem_of_getElem? (i := 802) (by decide +kernel)) rfl, gw_in (List.mem_of_getElem? (i := 61) (by decide +kernel)) rfl, fun j hj => by rcases (show j = 0 ∨ j = 1 ∨ j = 2 ∨ j = 3 ∨ j = 4 ∨ j = 5 ∨ j = 6 ∨ j = 7 ∨ j = 8 ∨ j = 9 ∨ j = 10 ∨ j = 11 by omega) with rfl | rfl | rfl | rfl | rfl | rfl | rfl | rfl | rfl | rfl | rfl | rfl <;> rfl⟩
theorem lL_12 : Cond.methodLink RL 12 yX12_init ∈ gW0 := gw_in (List.mem_of_getElem? (i := 803) (by decide +kernel)) rfl
theorem i_X12_init : Cond.instanceMethod yX12_init ∈ gW0 := gw_in (List.mem_of_getElem? (i := 804) (by decide +kernel)) rfl
theorem oX12_3 : Cond.methodLink RX12 3 objectInit ∈ gW0 := gw_in (List.mem_of_getElem? (i := 806) (by decide +kernel)) rfl
theorem fX12_9 : gFld RX12 9 11 0 (.array .int) true := ⟨RX12, TX12, 12, tyX12, rfl, w_X12, tyX12_ok, nmX12, by decide, gw_in (List.mem_of_getElem? (i := 807) (by decide +kernel)) rfl, rfl, rfl, rfl⟩
theorem fX12_13 : gFld RX12 13 11 1 (.array .int) true := ⟨RX12, TX12, 12, tyX12, rfl, w_X12, tyX12_ok, nmX12, by decide, gw_in (List.mem_of_getElem? (i := 808) (by decide +kernel)) rfl, rfl, rfl, rfl⟩
theorem fX12_16 : gFld RX12 16 11 2 (.array .int) true := ⟨RX12, TX12, 12, tyX12, rfl, w_X12, tyX12_ok, nmX12, by decide, gw_in (List.mem_of_getElem? (i := 809) (by decide +kernel)) rfl, rfl, rfl, rfl⟩
theorem fX12_19 : gFld RX12 19 11 3 (.array .long) true := ⟨RX12, TX12, 12, tyX12, rfl, w_X12, tyX12_ok, nmX12, by decide, gw_in (List.mem_of_getElem? (i := 810) (by decide +kernel)) rfl, rfl, rfl, rfl⟩
theorem fX12_23 : gFld RX12 23 11 4 (.array .long) true := ⟨RX12, TX12, 12, tyX12, rfl, w_X12, tyX12_ok, nmX12, by decide, gw_in (List.mem_of_getElem? (i := 811) (by decide +kernel)) rfl, rfl, rfl, rfl⟩
theorem fX12_26 : gFld RX12 26 11 5 (.array .long) true := ⟨RX12, TX12, 12, tyX12, rfl, w_X12, tyX12_ok, nmX12, by decide, gw_in (List.mem_of_getElem? (i := 812) (by decide +kernel)) rfl, rfl, rfl, rfl⟩
theorem fX12_180 : gFld RX12 180 11 6 .boolean false := ⟨RX12, TX12, 12, tyX12, rfl, w_X12, tyX12_ok, nmX12, by decide, gw_in (List.mem_of_getElem? (i := 813) (by decide +kernel)) rfl, rfl, rfl, rfl⟩
theorem fX12_29 : gFld RX12 29 11 7 (.array .int) true := ⟨RX12, TX12, 12, tyX12, rfl, w_X12, tyX12_ok, nmX12, by decide, gw_in (List.mem_of_getElem? (i := 814) (by decide +kernel)) rfl, rfl, rfl, rfl⟩
theorem fX12_39 : gFld RX12 39 11 8 .int false := ⟨RX12, TX12, 12, tyX12, rfl, w_X12, tyX12_ok, nmX12, by decide, gw_in (List.mem_of_getElem? (i := 815) (by decide +kernel)) rfl, rfl, rfl, rfl⟩
theorem fX12_43 : gFld RX12 43 11 9 .int false := ⟨RX12, TX12, 12, tyX12, rfl, w_X12, tyX12_ok, nmX12, by decide, gw_in (List.mem_of_getElem? (i := 816) (by decide +kernel)) rfl, rfl, rfl, rfl⟩
theorem fX12_46 : gFld RX12 46 11 10 .boolean false := ⟨RX12, TX12, 12, tyX12, rfl, w_X12, tyX12_ok, nmX12, by decide, gw_in (List.mem_of_getElem? (i := 817) (by decide +kernel)) rfl, rfl, rfl, rfl⟩
theorem fX12_32 : gFld RX12 32 11 11 (.array .int) true := ⟨RX12, TX12, 12, tyX12, rfl, w_X12, tyX12_ok, nmX12, by decide, gw_in (List.mem_of_getElem? (i := 818) (by decide +kernel)) rfl, rfl, rfl, rfl⟩
theorem lL_17 : Cond.methodLink RL 17 yX12_label ∈ gW0 := gw_in (List.mem_of_getElem? (i := 844) (by decide +kernel)) rfl
theorem i_X12_label : Cond.instanceMethod yX12_label ∈ gW0 := gw_in (List.mem_of_getElem? (i := 845) (by decide +kernel)) rfl
theorem s_X12_label : Cond.selects yX12_label.cls yX12_label yX12_label ∈ gW0 := gw_in (List.mem_of_getElem? (i := 846) (by decide +kernel)) rfl
theorem lX12_35 : Cond.methodLink RX12 35 yX12_isIn ∈ gW0 := gw_in (List.mem_of_getElem? (i := 848) (by decide +kernel)) rfl
theorem i_X12_isIn : Cond.static yX12_isIn ∈ gW0 := gw_in (List.mem_of_getElem? (i := 849) (by decide +kernel)) rfl
theorem lL_22 : Cond.methodLink RL 22 yX12_sample ∈ gW0 := gw_in (List.mem_of_getElem? (i := 851) (by decide +kernel)) rfl
theorem i_X12_sample : Cond.instanceMethod yX12_sample ∈ gW0 := gw_in (List.mem_of_getElem? (i := 852) (by decide +kernel)) rfl
theorem s_X12_sample : Cond.selects yX12_sample.cls yX12_sample yX12_sample ∈ gW0 := gw_in (List.mem_of_getElem? (i := 853) (by decide +kernel)) rfl
theorem lL_27 : Cond.methodLink RL 27 yX12_drop ∈ gW0 := gw_in (List.mem_of_getElem? (i := 855) (by decide +kernel)) rfl
theorem i_X12_drop : Cond.instanceMethod yX12_drop ∈ gW0 := gw_in (List.mem_of_getElem? (i := 856) (by decide +kernel)) rfl
theorem s_X12_drop : Cond.selects yX12_drop.cls yX12_drop yX12_drop ∈ gW0 := gw_in (List.mem_of_getElem? (i := 857) (by decide +kernel)) rfl
theorem lL_32 : Cond.methodLink RL 32 yX12_feed ∈ gW0 := gw_in (List.mem_of_getElem? (i := 859) (by decide +kernel)) rfl
theorem i_X12_feed : Cond.instanceMethod yX12_feed ∈ gW0 := gw_in (List.mem_of_getElem? (i := 860) (by decide +kernel)) rfl
theorem s_X12_feed : Cond.selects yX12_feed.cls yX12_feed yX12_feed ∈ gW0 := gw_in (List.mem_of_getElem? (i := 861) (by decide +kernel)) rfl
theorem lL_36 : Cond.methodLink RL 36 yX12_add ∈ gW0 := gw_in (List.mem_of_getElem? (i := 863) (by decide +kernel)) rfl
theorem i_X12_add : Cond.instanceMethod yX12_add ∈ gW0 := gw_in (List.mem_of_getElem? (i := 864) (by decide +kernel)) rfl
theorem s_X12_add : Cond.selects yX12_add.cls yX12_add yX12_add ∈ gW0 := gw_in (List.mem_of_getElem? (i := 865) (by decide +kernel)) rfl
theorem lX12_86 : Cond.methodLink RX12 86 yX12_many ∈ gW0 := gw_in (List.mem_of_getElem? (i := 867) (by decide +kernel)) rfl
theorem i_X12_many : Cond.instanceMethod yX12_many ∈ gW0 := gw_in (List.mem_of_getElem? (i := 869) (by decide +kernel)) rfl
theorem lX12_73 : Cond.methodLink RX12 73 yX12_most ∈ gW0 := gw_in (List.mem_of_getElem? (i := 871) (by decide +kernel)) rfl
theorem i_X12_most : Cond.static yX12_most ∈ gW0 := gw_in (List.mem_of_getElem? (i := 872) (by decide +kernel)) rfl
theorem lX12_82 : Cond.methodLink RX12 82 yX12_isOne ∈ gW0 := gw_in (List.mem_of_getElem? (i := 874) (by decide +kernel)) rfl
theorem i_X12_isOne : Cond.instanceMethod yX12_isOne ∈ gW0 := gw_in (List.mem_of_getElem? (i := 876) (by decide +kernel)) rfl
theorem lX12_76 : Cond.methodLink RX12 76 yX12_first ∈ gW0 := gw_in (List.mem_of_getElem? (i := 878) (by decide +kernel)) rfl
theorem i_X12_first : Cond.static yX12_first ∈ gW0 := gw_in (List.mem_of_getElem? (i := 879) (by decide +kernel)) rfl
theorem lX12_79 : Cond.methodLink RX12 79 yX12_wide ∈ gW0 := gw_in (List.mem_of_getElem? (i := 881) (by decide +kernel)) rfl
theorem i_X12_wide : Cond.static yX12_wide ∈ gW0 := gw_in (List.mem_of_getElem? (i := 882) (by decide +kernel)) rfl
theorem lX12_89 : Cond.methodLink RX12 89 yX12_rule ∈ gW0 := gw_in (List.mem_of_getElem? (i := 884) (by decide +kernel)) rfl
theorem i_X12_rule : Cond.instanceMethod yX12_rule ∈ gW0 := gw_in (List.mem_of_getElem? (i := 886) (by decide +kernel)) rfl
theorem lX12_50 : Cond.methodLink RX12 50 yX12_here ∈ gW0 := gw_in (List.mem_of_getElem? (i := 888) (by decide +kernel)) rfl
theorem i_X12_here : Cond.instanceMethod yX12_here ∈ gW0 := gw_in (List.mem_of_getElem? (i := 890) (by decide +kernel)) rfl
theorem lX12_62 : Cond.methodLink RX12 62 yX12_matchers ∈ gW0 := gw_in (List.mem_of_getElem? (i := 892) (by decide +kernel)) rfl
theorem i_X12_matchers : Cond.instanceMethod yX12_matchers ∈ gW0 := gw_in (List.mem_of_getElem? (i := 894) (by decide +kernel)) rfl
theorem lX12_58 : Cond.methodLink RX12 58 yX12_matcher ∈ gW0 := gw_in (List.mem_of_getElem? (i := 896) (by decide +kernel)) rfl
theorem i_X12_matcher : Cond.instanceMethod yX12_matcher ∈ gW0 := gw_in (List.mem_of_getElem? (i := 898) (by decide +kernel)) rfl
theorem lX12_54 : Cond.methodLink RX12 54 yX12_digit ∈ gW0 := gw_in (List.mem_of_getElem? (i := 900) (by decide +kernel)) rfl
theorem i_X12_digit : Cond.instanceMethod yX12_digit ∈ gW0 := gw_in (List.mem_of_getElem? (i := 902) (by decide +kernel)) rfl
theorem lX12_66 : Cond.methodLink RX12 66 yX12_sign ∈ gW0 := gw_in (List.mem_of_getElem? (i := 904) (by decide +kernel)) rfl
theorem i_X12_sign : Cond.instanceMethod yX12_sign ∈ gW0 := gw_in (List.mem_of_getElem? (i := 906) (by decide +kernel)) rfl
theorem lX12_70 : Cond.methodLink RX12 70 yX12_number ∈ gW0 := gw_in (List.mem_of_getElem? (i := 908) (by decide +kernel)) rfl
theorem i_X12_number : Cond.instanceMethod yX12_number ∈ gW0 := gw_in (List.mem_of_getElem? (i := 910) (by decide +kernel)) rfl
theorem lX12_92 : Cond.methodLink RX12 92 yX12_silence ∈ gW0 := gw_in (List.mem_of_getElem? (i := 912) (by decide +kernel)) rfl
theorem i_X12_silence : Cond.instanceMethod yX12_silence ∈ gW0 := gw_in (List.mem_of_getElem? (i := 914) (by decide +kernel)) rfl
theorem lX12_95 : Cond.methodLink RX12 95 yX12_inhibition ∈ gW0 := gw_in (List.mem_of_getElem? (i := 916) (by decide +kernel)) rfl
theorem i_X12_inhibition : Cond.instanceMethod yX12_inhibition ∈ gW0 := gw_in (List.mem_of_getElem? (i := 918) (by decide +kernel)) rfl
theorem lL_40 : Cond.methodLink RL 40 yX12_remove ∈ gW0 := gw_in (List.mem_of_getElem? (i := 920) (by decide +kernel)) rfl
theorem i_X12_remove : Cond.instanceMethod yX12_remove ∈ gW0 := gw_in (List.mem_of_getElem? (i := 921) (by decide +kernel)) rfl
theorem s_X12_remove : Cond.selects yX12_remove.cls yX12_remove yX12_remove ∈ gW0 := gw_in (List.mem_of_getElem? (i := 922) (by decide +kernel)) rfl
theorem lL_44 : Cond.methodLink RL 44 yX12_parameter ∈ gW0 := gw_in (List.mem_of_getElem? (i := 924) (by decide +kernel)) rfl
theorem i_X12_parameter : Cond.instanceMethod yX12_parameter ∈ gW0 := gw_in (List.mem_of_getElem? (i := 925) (by decide +kernel)) rfl
theorem s_X12_parameter : Cond.selects yX12_parameter.cls yX12_parameter yX12_parameter ∈ gW0 := gw_in (List.mem_of_getElem? (i := 926) (by decide +kernel)) rfl
theorem lL_48 : Cond.methodLink RL 48 yX12_pass ∈ gW0 := gw_in (List.mem_of_getElem? (i := 928) (by decide +kernel)) rfl
theorem i_X12_pass : Cond.instanceMethod yX12_pass ∈ gW0 := gw_in (List.mem_of_getElem? (i := 929) (by decide +kernel)) rfl
theorem s_X12_pass : Cond.selects yX12_pass.cls yX12_pass yX12_pass ∈ gW0 := gw_in (List.mem_of_getElem? (i := 930) (by decide +kernel)) rfl
theorem cX12_162 : Cond.constant RX12 162 (99999) ∈ gW0 := gw_in (List.mem_of_getElem? (i := 932) (by decide +kernel)) rfl
theorem lX12_163 : Cond.methodLink RX12 163 yX12_step ∈ gW0 := gw_in (List.mem_of_getElem? (i := 933) (by decide +kernel)) rfl
theorem i_X12_step : Cond.instanceMethod yX12_step ∈ gW0 := gw_in (List.mem_of_getElem? (i := 935) (by decide +kernel)) rfl
theorem lX12_145 : Cond.methodLink RX12 145 yX12_goesOn ∈ gW0 := gw_in (List.mem_of_getElem? (i := 937) (by decide +kernel)) rfl
theorem i_X12_goesOn : Cond.instanceMethod yX12_goesOn ∈ gW0 := gw_in (List.mem_of_getElem? (i := 939) (by decide +kernel)) rfl
theorem lX12_132 : Cond.methodLink RX12 132 yX12_holds ∈ gW0 := gw_in (List.mem_of_getElem? (i := 941) (by decide +kernel)) rfl
theorem i_X12_holds : Cond.instanceMethod yX12_holds ∈ gW0 := gw_in (List.mem_of_getElem? (i := 943) (by decide +kernel)) rfl
theorem lX12_98 : Cond.methodLink RX12 98 yX12_matches ∈ gW0 := gw_in (List.mem_of_getElem? (i := 945) (by decide +kernel)) rfl
theorem i_X12_matches : Cond.instanceMethod yX12_matches ∈ gW0 := gw_in (List.mem_of_getElem? (i := 947) (by decide +kernel)) rfl
theorem lX12_135 : Cond.methodLink RX12 135 yX12_turns ∈ gW0 := gw_in (List.mem_of_getElem? (i := 949) (by decide +kernel)) rfl
theorem i_X12_turns : Cond.instanceMethod yX12_turns ∈ gW0 := gw_in (List.mem_of_getElem? (i := 951) (by decide +kernel)) rfl
theorem lX12_148 : Cond.methodLink RX12 148 yX12_actives ∈ gW0 := gw_in (List.mem_of_getElem? (i := 953) (by decide +kernel)) rfl
theorem i_X12_actives : Cond.instanceMethod yX12_actives ∈ gW0 := gw_in (List.mem_of_getElem? (i := 955) (by decide +kernel)) rfl
theorem lX12_123 : Cond.methodLink RX12 123 yX12_isActive ∈ gW0 := gw_in (List.mem_of_getElem? (i := 957) (by decide +kernel)) rfl
theorem i_X12_isActive : Cond.instanceMethod yX12_isActive ∈ gW0 := gw_in (List.mem_of_getElem? (i := 959) (by decide +kernel)) rfl
theorem lX12_104 : Cond.methodLink RX12 104 yX12_state ∈ gW0 := gw_in (List.mem_of_getElem? (i := 961) (by decide +kernel)) rfl
theorem i_X12_state : Cond.instanceMethod yX12_state ∈ gW0 := gw_in (List.mem_of_getElem? (i := 963) (by decide +kernel)) rfl
theorem lX12_113 : Cond.methodLink RX12 113 yX12_silenceOf ∈ gW0 := gw_in (List.mem_of_getElem? (i := 965) (by decide +kernel)) rfl
theorem i_X12_silenceOf : Cond.instanceMethod yX12_silenceOf ∈ gW0 := gw_in (List.mem_of_getElem? (i := 967) (by decide +kernel)) rfl
theorem lX12_101 : Cond.methodLink RX12 101 yX12_isSilencedBy ∈ gW0 := gw_in (List.mem_of_getElem? (i := 969) (by decide +kernel)) rfl
theorem i_X12_isSilencedBy : Cond.instanceMethod yX12_isSilencedBy ∈ gW0 := gw_in (List.mem_of_getElem? (i := 971) (by decide +kernel)) rfl
theorem lX12_116 : Cond.methodLink RX12 116 yX12_isFlapping ∈ gW0 := gw_in (List.mem_of_getElem? (i := 973) (by decide +kernel)) rfl
theorem i_X12_isFlapping : Cond.instanceMethod yX12_isFlapping ∈ gW0 := gw_in (List.mem_of_getElem? (i := 975) (by decide +kernel)) rfl
theorem lX12_110 : Cond.methodLink RX12 110 yX12_flaps ∈ gW0 := gw_in (List.mem_of_getElem? (i := 977) (by decide +kernel)) rfl
theorem i_X12_flaps : Cond.instanceMethod yX12_flaps ∈ gW0 := gw_in (List.mem_of_getElem? (i := 979) (by decide +kernel)) rfl
theorem lX12_120 : Cond.methodLink RX12 120 yX12_inhibitorOf ∈ gW0 := gw_in (List.mem_of_getElem? (i := 981) (by decide +kernel)) rfl
theorem i_X12_inhibitorOf : Cond.instanceMethod yX12_inhibitorOf ∈ gW0 := gw_in (List.mem_of_getElem? (i := 983) (by decide +kernel)) rfl
theorem lX12_107 : Cond.methodLink RX12 107 yX12_isInhibitedBy ∈ gW0 := gw_in (List.mem_of_getElem? (i := 985) (by decide +kernel)) rfl
theorem i_X12_isInhibitedBy : Cond.instanceMethod yX12_isInhibitedBy ∈ gW0 := gw_in (List.mem_of_getElem? (i := 987) (by decide +kernel)) rfl
theorem lX12_152 : Cond.methodLink RX12 152 yX12_withKey ∈ gW0 := gw_in (List.mem_of_getElem? (i := 989) (by decide +kernel)) rfl
theorem i_X12_withKey : Cond.instanceMethod yX12_withKey ∈ gW0 := gw_in (List.mem_of_getElem? (i := 991) (by decide +kernel)) rfl
theorem lX12_126 : Cond.methodLink RX12 126 yX12_keyOf ∈ gW0 := gw_in (List.mem_of_getElem? (i := 993) (by decide +kernel)) rfl
theorem i_X12_keyOf : Cond.instanceMethod yX12_keyOf ∈ gW0 := gw_in (List.mem_of_getElem? (i := 995) (by decide +kernel)) rfl
theorem lX12_156 : Cond.methodLink RX12 156 yX12_sends ∈ gW0 := gw_in (List.mem_of_getElem? (i := 997) (by decide +kernel)) rfl
theorem i_X12_sends : Cond.instanceMethod yX12_sends ∈ gW0 := gw_in (List.mem_of_getElem? (i := 999) (by decide +kernel)) rfl
theorem lX12_138 : Cond.methodLink RX12 138 yX12_size ∈ gW0 := gw_in (List.mem_of_getElem? (i := 1001) (by decide +kernel)) rfl
theorem i_X12_size : Cond.static yX12_size ∈ gW0 := gw_in (List.mem_of_getElem? (i := 1002) (by decide +kernel)) rfl
theorem lX12_142 : Cond.methodLink RX12 142 yX12_greatest ∈ gW0 := gw_in (List.mem_of_getElem? (i := 1004) (by decide +kernel)) rfl
theorem i_X12_greatest : Cond.instanceMethod yX12_greatest ∈ gW0 := gw_in (List.mem_of_getElem? (i := 1006) (by decide +kernel)) rfl
theorem lX12_129 : Cond.methodLink RX12 129 yX12_severity ∈ gW0 := gw_in (List.mem_of_getElem? (i := 1008) (by decide +kernel)) rfl
theorem i_X12_severity : Cond.instanceMethod yX12_severity ∈ gW0 := gw_in (List.mem_of_getElem? (i := 1010) (by decide +kernel)) rfl
theorem cX12_160 : Cond.constantLong RX12 160 (-1) ∈ gW0 := gw_in (List.mem_of_getElem? (i := 1012) (by decide +kernel)) rfl
theorem lL_52 : Cond.methodLink RL 52 yX12_alert ∈ gW0 := gw_in (List.mem_of_getElem? (i := 1013) (by decide +kernel)) rfl
theorem i_X12_alert : Cond.instanceMethod yX12_alert ∈ gW0 := gw_in (List.mem_of_getElem? (i := 1014) (by decide +kernel)) rfl
theorem s_X12_alert : Cond.selects yX12_alert.cls yX12_alert yX12_alert ∈ gW0 := gw_in (List.mem_of_getElem? (i := 1015) (by decide +kernel)) rfl
theorem lL_57 : Cond.methodLink RL 57 yX12_alerts ∈ gW0 := gw_in (List.mem_of_getElem? (i := 1017) (by decide +kernel)) rfl
theorem i_X12_alerts : Cond.instanceMethod yX12_alerts ∈ gW0 := gw_in (List.mem_of_getElem? (i := 1018) (by decide +kernel)) rfl
theorem s_X12_alerts : Cond.selects yX12_alerts.cls yX12_alerts yX12_alerts ∈ gW0 := gw_in (List.mem_of_getElem? (i := 1019) (by decide +kernel)) rfl
theorem lX12_166 : Cond.methodLink RX12 166 yX12_isOf ∈ gW0 := gw_in (List.mem_of_getElem? (i := 1021) (by decide +kernel)) rfl
theorem i_X12_isOf : Cond.instanceMethod yX12_isOf ∈ gW0 := gw_in (List.mem_of_getElem? (i := 1023) (by decide +kernel)) rfl
theorem lL_61 : Cond.methodLink RL 61 yX12_group ∈ gW0 := gw_in (List.mem_of_getElem? (i := 1025) (by decide +kernel)) rfl
theorem i_X12_group : Cond.instanceMethod yX12_group ∈ gW0 := gw_in (List.mem_of_getElem? (i := 1026) (by decide +kernel)) rfl
theorem s_X12_group : Cond.selects yX12_group.cls yX12_group yX12_group ∈ gW0 := gw_in (List.mem_of_getElem? (i := 1027) (by decide +kernel)) rfl
theorem lX12_169 : Cond.methodLink RX12 169 yX12_later ∈ gW0 := gw_in (List.mem_of_getElem? (i := 1029) (by decide +kernel)) rfl
theorem i_X12_later : Cond.instanceMethod yX12_later ∈ gW0 := gw_in (List.mem_of_getElem? (i := 1031) (by decide +kernel)) rfl
theorem lL_65 : Cond.methodLink RL 65 yX12_key ∈ gW0 := gw_in (List.mem_of_getElem? (i := 1033) (by decide +kernel)) rfl
theorem i_X12_key : Cond.instanceMethod yX12_key ∈ gW0 := gw_in (List.mem_of_getElem? (i := 1034) (by decide +kernel)) rfl
theorem s_X12_key : Cond.selects yX12_key.cls yX12_key yX12_key ∈ gW0 := gw_in (List.mem_of_getElem? (i := 1035) (by decide +kernel)) rfl
theorem lL_69 : Cond.methodLink RL 69 yX12_sent ∈ gW0 := gw_in (List.mem_of_getElem? (i := 1037) (by decide +kernel)) rfl
theorem i_X12_sent : Cond.instanceMethod yX12_sent ∈ gW0 := gw_in (List.mem_of_getElem? (i := 1038) (by decide +kernel)) rfl
theorem s_X12_sent : Cond.selects yX12_sent.cls yX12_sent yX12_sent ∈ gW0 := gw_in (List.mem_of_getElem? (i := 1039) (by decide +kernel)) rfl
theorem lL_73 : Cond.methodLink RL 73 yX12_ahead ∈ gW0 := gw_in (List.mem_of_getElem? (i := 1041) (by decide +kernel)) rfl
theorem i_X12_ahead : Cond.instanceMethod yX12_ahead ∈ gW0 := gw_in (List.mem_of_getElem? (i := 1042) (by decide +kernel)) rfl
theorem s_X12_ahead : Cond.selects yX12_ahead.cls yX12_ahead yX12_ahead ∈ gW0 := gw_in (List.mem_of_getElem? (i := 1043) (by decide +kernel)) rfl
theorem lX12_176 : Cond.methodLink RX12 176 yX12_looks ∈ gW0 := gw_in (List.mem_of_getElem? (i := 1045) (by decide +kernel)) rfl
theorem i_X12_looks : Cond.instanceMethod yX12_looks ∈ gW0 := gw_in (List.mem_of_getElem? (i := 1047) (by decide +kernel)) rfl
theorem lX12_172 : Cond.methodLink RX12 172 yX12_copies ∈ gW0 := gw_in (List.mem_of_getElem? (i := 1049) (by decide +kernel)) rfl
theorem i_X12_copies : Cond.static yX12_copies ∈ gW0 := gw_in (List.mem_of_getElem? (i := 1050) (by decide +kernel)) rfl
theorem lL_77 : Cond.methodLink RL 77 yX12_next ∈ gW0 := gw_in (List.mem_of_getElem? (i := 1052) (by decide +kernel)) rfl
theorem i_X12_next : Cond.instanceMethod yX12_next ∈ gW0 := gw_in (List.mem_of_getElem? (i := 1053) (by decide +kernel)) rfl
theorem s_X12_next : Cond.selects yX12_next.cls yX12_next yX12_next ∈ gW0 := gw_in (List.mem_of_getElem? (i := 1054) (by decide +kernel)) rfl
theorem lL_81 : Cond.methodLink RL 81 yX12_saved ∈ gW0 := gw_in (List.mem_of_getElem? (i := 1056) (by decide +kernel)) rfl
theorem i_X12_saved : Cond.instanceMethod yX12_saved ∈ gW0 := gw_in (List.mem_of_getElem? (i := 1057) (by decide +kernel)) rfl
theorem s_X12_saved : Cond.selects yX12_saved.cls yX12_saved yX12_saved ∈ gW0 := gw_in (List.mem_of_getElem? (i := 1058) (by decide +kernel)) rfl
theorem lL_86 : Cond.methodLink RL 86 yX12_image ∈ gW0 := gw_in (List.mem_of_getElem? (i := 1060) (by decide +kernel)) rfl
theorem i_X12_image : Cond.instanceMethod yX12_image ∈ gW0 := gw_in (List.mem_of_getElem? (i := 1061) (by decide +kernel)) rfl
theorem s_X12_image : Cond.selects yX12_image.cls yX12_image yX12_image ∈ gW0 := gw_in (List.mem_of_getElem? (i := 1062) (by decide +kernel)) rfl
theorem lL_90 : Cond.methodLink RL 90 yX12_undo ∈ gW0 := gw_in (List.mem_of_getElem? (i := 1064) (by decide +kernel)) rfl
theorem i_X12_undo : Cond.instanceMethod yX12_undo ∈ gW0 := gw_in (List.mem_of_getElem? (i := 1065) (by decide +kernel)) rfl
theorem s_X12_undo : Cond.selects yX12_undo.cls yX12_undo yX12_undo ∈ gW0 := gw_in (List.mem_of_getElem? (i := 1066) (by decide +kernel)) rfl
theorem lL_94 : Cond.methodLink RL 94 yX12_count ∈ gW0 := gw_in (List.mem_of_getElem? (i := 1068) (by decide +kernel)) rfl
theorem i_X12_count : Cond.instanceMethod yX12_count ∈ gW0 := gw_in (List.mem_of_getElem? (i := 1069) (by decide +kernel)) rfl
theorem s_X12_count : Cond.selects yX12_count.cls yX12_count yX12_count ∈ gW0 := gw_in (List.mem_of_getElem? (i := 1070) (by decide +kernel)) rfl
theorem lX12_183 : Cond.methodLink RX12 183 yX12_silencing ∈ gW0 := gw_in (List.mem_of_getElem? (i := 1072) (by decide +kernel)) rfl
theorem i_X12_silencing : Cond.instanceMethod yX12_silencing ∈ gW0 := gw_in (List.mem_of_getElem? (i := 1074) (by decide +kernel)) rfl
theorem s_X7_sortLabels : Cond.selects yX7_sortLabels.cls yX7_sortLabels yX7_sortLabels ∈ gW0 := gw_in (List.mem_of_getElem? (i := 0) (by decide +kernel)) rfl
theorem s_X10_startsRuleSign : Cond.selects yX10_startsRuleSign.cls yX10_startsRuleSign yX10_startsRuleSign ∈ gW0 := gw_in (List.mem_of_getElem? (i := 1) (by decide +kernel)) rfl
theorem s_X10_peek : Cond.selects yX10_peek.cls yX10_peek yX10_peek ∈ gW0 := gw_in (List.mem_of_getElem? (i := 2) (by decide +kernel)) rfl
theorem s_X10_readMatchersAhead : Cond.selects yX10_readMatchersAhead.cls yX10_readMatchersAhead yX10_readMatchersAhead ∈ gW0 := gw_in (List.mem_of_getElem? (i := 3) (by decide +kernel)) rfl
theorem s_X10_readMatchers : Cond.selects yX10_readMatchers.cls yX10_readMatchers yX10_readMatchers ∈ gW0 := gw_in (List.mem_of_getElem? (i := 4) (by decide +kernel)) rfl
theorem s_X10_readMatcher : Cond.selects yX10_readMatcher.cls yX10_readMatcher yX10_readMatcher ∈ gW0 := gw_in (List.mem_of_getElem? (i := 5) (by decide +kernel)) rfl
theorem s_X10_skip : Cond.selects yX10_skip.cls yX10_skip yX10_skip ∈ gW0 := gw_in (List.mem_of_getElem? (i := 6) (by decide +kernel)) rfl
theorem s_X10_readDigit : Cond.selects yX10_readDigit.cls yX10_readDigit yX10_readDigit ∈ gW0 := gw_in (List.mem_of_getElem? (i := 7) (by decide +kernel)) rfl
theorem s_X10_expect : Cond.selects yX10_expect.cls yX10_expect yX10_expect ∈ gW0 := gw_in (List.mem_of_getElem? (i := 8) (by decide +kernel)) rfl
theorem s_X10_readNumber : Cond.selects yX10_readNumber.cls yX10_readNumber yX10_readNumber ∈ gW0 := gw_in (List.mem_of_getElem? (i := 9) (by decide +kernel)) rfl
theorem s_X10_expectEnd : Cond.selects yX10_expectEnd.cls yX10_expectEnd yX10_expectEnd ∈ gW0 := gw_in (List.mem_of_getElem? (i := 10) (by decide +kernel)) rfl
theorem s_X7_acceptedSeries : Cond.selects yX7_acceptedSeries.cls yX7_acceptedSeries yX7_acceptedSeries ∈ gW0 := gw_in (List.mem_of_getElem? (i := 11) (by decide +kernel)) rfl
theorem s_X0_rise : Cond.selects yX0_rise.cls yX0_rise yX0_rise ∈ gW0 := gw_in (List.mem_of_getElem? (i := 12) (by decide +kernel)) rfl
theorem s_X0_remember : Cond.selects yX0_remember.cls yX0_remember yX0_remember ∈ gW0 := gw_in (List.mem_of_getElem? (i := 13) (by decide +kernel)) rfl
theorem s_X0_settle : Cond.selects yX0_settle.cls yX0_settle yX0_settle ∈ gW0 := gw_in (List.mem_of_getElem? (i := 14) (by decide +kernel)) rfl
theorem s_X9_silencedBy : Cond.selects yX9_silencedBy.cls yX9_silencedBy yX9_silencedBy ∈ gW0 := gw_in (List.mem_of_getElem? (i := 15) (by decide +kernel)) rfl
theorem s_X9_inhibitedBy : Cond.selects yX9_inhibitedBy.cls yX9_inhibitedBy yX9_inhibitedBy ∈ gW0 := gw_in (List.mem_of_getElem? (i := 16) (by decide +kernel)) rfl
theorem s_X9_sendGroup : Cond.selects yX9_sendGroup.cls yX9_sendGroup yX9_sendGroup ∈ gW0 := gw_in (List.mem_of_getElem? (i := 17) (by decide +kernel)) rfl
theorem s_X11_parameterOrNone : Cond.selects yX11_parameterOrNone.cls yX11_parameterOrNone yX11_parameterOrNone ∈ gW0 := gw_in (List.mem_of_getElem? (i := 18) (by decide +kernel)) rfl
theorem s_X12_many : Cond.selects yX12_many.cls yX12_many yX12_many ∈ gW0 := gw_in (List.mem_of_getElem? (i := 19) (by decide +kernel)) rfl
theorem s_X12_isOne : Cond.selects yX12_isOne.cls yX12_isOne yX12_isOne ∈ gW0 := gw_in (List.mem_of_getElem? (i := 20) (by decide +kernel)) rfl
theorem s_X12_rule : Cond.selects yX12_rule.cls yX12_rule yX12_rule ∈ gW0 := gw_in (List.mem_of_getElem? (i := 21) (by decide +kernel)) rfl
theorem s_X12_here : Cond.selects yX12_here.cls yX12_here yX12_here ∈ gW0 := gw_in (List.mem_of_getElem? (i := 22) (by decide +kernel)) rfl
theorem s_X12_matchers : Cond.selects yX12_matchers.cls yX12_matchers yX12_matchers ∈ gW0 := gw_in (List.mem_of_getElem? (i := 23) (by decide +kernel)) rfl
theorem s_X12_matcher : Cond.selects yX12_matcher.cls yX12_matcher yX12_matcher ∈ gW0 := gw_in (List.mem_of_getElem? (i := 24) (by decide +kernel)) rfl
theorem s_X12_digit : Cond.selects yX12_digit.cls yX12_digit yX12_digit ∈ gW0 := gw_in (List.mem_of_getElem? (i := 25) (by decide +kernel)) rfl
theorem s_X12_sign : Cond.selects yX12_sign.cls yX12_sign yX12_sign ∈ gW0 := gw_in (List.mem_of_getElem? (i := 26) (by decide +kernel)) rfl
theorem s_X12_number : Cond.selects yX12_number.cls yX12_number yX12_number ∈ gW0 := gw_in (List.mem_of_getElem? (i := 27) (by decide +kernel)) rfl
theorem s_X12_silence : Cond.selects yX12_silence.cls yX12_silence yX12_silence ∈ gW0 := gw_in (List.mem_of_getElem? (i := 28) (by decide +kernel)) rfl
theorem s_X12_inhibition : Cond.selects yX12_inhibition.cls yX12_inhibition yX12_inhibition ∈ gW0 := gw_in (List.mem_of_getElem? (i := 29) (by decide +kernel)) rfl
theorem s_X12_step : Cond.selects yX12_step.cls yX12_step yX12_step ∈ gW0 := gw_in (List.mem_of_getElem? (i := 30) (by decide +kernel)) rfl
theorem s_X12_goesOn : Cond.selects yX12_goesOn.cls yX12_goesOn yX12_goesOn ∈ gW0 := gw_in (List.mem_of_getElem? (i := 31) (by decide +kernel)) rfl
theorem s_X12_holds : Cond.selects yX12_holds.cls yX12_holds yX12_holds ∈ gW0 := gw_in (List.mem_of_getElem? (i := 32) (by decide +kernel)) rfl
theorem s_X12_matches : Cond.selects yX12_matches.cls yX12_matches yX12_matches ∈ gW0 := gw_in (List.mem_of_getElem? (i := 33) (by decide +kernel)) rfl
theorem s_X12_turns : Cond.selects yX12_turns.cls yX12_turns yX12_turns ∈ gW0 := gw_in (List.mem_of_getElem? (i := 34) (by decide +kernel)) rfl
theorem s_X12_actives : Cond.selects yX12_actives.cls yX12_actives yX12_actives ∈ gW0 := gw_in (List.mem_of_getElem? (i := 35) (by decide +kernel)) rfl
theorem s_X12_isActive : Cond.selects yX12_isActive.cls yX12_isActive yX12_isActive ∈ gW0 := gw_in (List.mem_of_getElem? (i := 36) (by decide +kernel)) rfl
theorem s_X12_state : Cond.selects yX12_state.cls yX12_state yX12_state ∈ gW0 := gw_in (List.mem_of_getElem? (i := 37) (by decide +kernel)) rfl
theorem s_X12_silenceOf : Cond.selects yX12_silenceOf.cls yX12_silenceOf yX12_silenceOf ∈ gW0 := gw_in (List.mem_of_getElem? (i := 38) (by decide +kernel)) rfl
theorem s_X12_isSilencedBy : Cond.selects yX12_isSilencedBy.cls yX12_isSilencedBy yX12_isSilencedBy ∈ gW0 := gw_in (List.mem_of_getElem? (i := 39) (by decide +kernel)) rfl
theorem s_X12_isFlapping : Cond.selects yX12_isFlapping.cls yX12_isFlapping yX12_isFlapping ∈ gW0 := gw_in (List.mem_of_getElem? (i := 40) (by decide +kernel)) rfl
theorem s_X12_flaps : Cond.selects yX12_flaps.cls yX12_flaps yX12_flaps ∈ gW0 := gw_in (List.mem_of_getElem? (i := 41) (by decide +kernel)) rfl
theorem s_X12_inhibitorOf : Cond.selects yX12_inhibitorOf.cls yX12_inhibitorOf yX12_inhibitorOf ∈ gW0 := gw_in (List.mem_of_getElem? (i := 42) (by decide +kernel)) rfl
theorem s_X12_isInhibitedBy : Cond.selects yX12_isInhibitedBy.cls yX12_isInhibitedBy yX12_isInhibitedBy ∈ gW0 := gw_in (List.mem_of_getElem? (i := 43) (by decide +kernel)) rfl
theorem s_X12_withKey : Cond.selects yX12_withKey.cls yX12_withKey yX12_withKey ∈ gW0 := gw_in (List.mem_of_getElem? (i := 44) (by decide +kernel)) rfl
theorem s_X12_keyOf : Cond.selects yX12_keyOf.cls yX12_keyOf yX12_keyOf ∈ gW0 := gw_in (List.mem_of_getElem? (i := 45) (by decide +kernel)) rfl
theorem s_X12_sends : Cond.selects yX12_sends.cls yX12_sends yX12_sends ∈ gW0 := gw_in (List.mem_of_getElem? (i := 46) (by decide +kernel)) rfl
theorem s_X12_greatest : Cond.selects yX12_greatest.cls yX12_greatest yX12_greatest ∈ gW0 := gw_in (List.mem_of_getElem? (i := 47) (by decide +kernel)) rfl
theorem s_X12_severity : Cond.selects yX12_severity.cls yX12_severity yX12_severity ∈ gW0 := gw_in (List.mem_of_getElem? (i := 48) (by decide +kernel)) rfl
theorem s_X12_isOf : Cond.selects yX12_isOf.cls yX12_isOf yX12_isOf ∈ gW0 := gw_in (List.mem_of_getElem? (i := 49) (by decide +kernel)) rfl
theorem s_X12_later : Cond.selects yX12_later.cls yX12_later yX12_later ∈ gW0 := gw_in (List.mem_of_getElem? (i := 50) (by decide +kernel)) rfl
theorem s_X12_looks : Cond.selects yX12_looks.cls yX12_looks yX12_looks ∈ gW0 := gw_in (List.mem_of_getElem? (i := 51) (by decide +kernel)) rfl
theorem s_X12_silencing : Cond.selects yX12_silencing.cls yX12_silencing yX12_silencing ∈ gW0 := gw_in (List.mem_of_getElem? (i := 52) (by decide +kernel)) rfl
theorem b_X11_init : gLkB kX11_init 0 := ⟨gw_in (List.mem_of_getElem? (i := 75) (by decide +kernel)) rfl, gw_in (List.mem_of_getElem? (i := 54) (by decide +kernel)) rfl, by decide +kernel, by decide⟩
theorem b_X10_init : gLkB kX10_init 0 := ⟨gw_in (List.mem_of_getElem? (i := 83) (by decide +kernel)) rfl, gw_in (List.mem_of_getElem? (i := 55) (by decide +kernel)) rfl, by decide +kernel, by decide⟩
theorem b_X9_init : gLkB kX9_init 0 := ⟨gw_in (List.mem_of_getElem? (i := 106) (by decide +kernel)) rfl, gw_in (List.mem_of_getElem? (i := 56) (by decide +kernel)) rfl, by decide +kernel, by decide⟩
theorem b_X7_init : gLkB kX7_init 0 := ⟨gw_in (List.mem_of_getElem? (i := 112) (by decide +kernel)) rfl, gw_in (List.mem_of_getElem? (i := 57) (by decide +kernel)) rfl, by decide +kernel, by decide⟩
theorem b_X7_sortLabels : gLkB kX7_sortLabels 0 := ⟨gw_in (List.mem_of_getElem? (i := 123) (by decide +kernel)) rfl, gw_in (List.mem_of_getElem? (i := 57) (by decide +kernel)) rfl, by decide +kernel, by decide⟩
theorem b_X0_init : gLkB kX0_init 0 := ⟨gw_in (List.mem_of_getElem? (i := 169) (by decide +kernel)) rfl, gw_in (List.mem_of_getElem? (i := 58) (by decide +kernel)) rfl, by decide +kernel, by decide⟩
theorem b_X2_init : gLkB kX2_init 0 := ⟨gw_in (List.mem_of_getElem? (i := 194) (by decide +kernel)) rfl, gw_in (List.mem_of_getElem? (i := 59) (by decide +kernel)) rfl, by decide +kernel, by decide⟩
theorem b_X4_init : gLkB kX4_init 0 := ⟨gw_in (List.mem_of_getElem? (i := 217) (by decide +kernel)) rfl, gw_in (List.mem_of_getElem? (i := 60) (by decide +kernel)) rfl, by decide +kernel, by decide⟩
theorem b_X11_label : gLkB kX11_label 3 := ⟨gw_in (List.mem_of_getElem? (i := 267) (by decide +kernel)) rfl, gw_in (List.mem_of_getElem? (i := 54) (by decide +kernel)) rfl, by decide +kernel, by decide⟩
theorem b_X11_isSeries : gLkB kX11_isSeries 1 := ⟨gw_in (List.mem_of_getElem? (i := 270) (by decide +kernel)) rfl, gw_in (List.mem_of_getElem? (i := 54) (by decide +kernel)) rfl, by decide +kernel, by decide⟩
theorem b_X7_relabel : gLkB kX7_relabel 3 := ⟨gw_in (List.mem_of_getElem? (i := 276) (by decide +kernel)) rfl, gw_in (List.mem_of_getElem? (i := 57) (by decide +kernel)) rfl, by decide +kernel, by decide⟩
theorem b_X11_sample : gLkB kX11_sample 2 := ⟨gw_in (List.mem_of_getElem? (i := 280) (by decide +kernel)) rfl, gw_in (List.mem_of_getElem? (i := 54) (by decide +kernel)) rfl, by decide +kernel, by decide⟩
theorem b_X11_bit : gLkB kX11_bit 1 := ⟨gw_in (List.mem_of_getElem? (i := 283) (by decide +kernel)) rfl, gw_in (List.mem_of_getElem? (i := 54) (by decide +kernel)) rfl, by decide +kernel, by decide⟩
theorem b_X11_drop : gLkB kX11_drop 1 := ⟨gw_in (List.mem_of_getElem? (i := 287) (by decide +kernel)) rfl, gw_in (List.mem_of_getElem? (i := 54) (by decide +kernel)) rfl, by decide +kernel, by decide⟩
theorem b_X11_feed : gLkB kX11_feed 6 := ⟨gw_in (List.mem_of_getElem? (i := 291) (by decide +kernel)) rfl, gw_in (List.mem_of_getElem? (i := 54) (by decide +kernel)) rfl, by decide +kernel, by decide⟩
theorem b_X11_isByte : gLkB kX11_isByte 1 := ⟨gw_in (List.mem_of_getElem? (i := 294) (by decide +kernel)) rfl, gw_in (List.mem_of_getElem? (i := 54) (by decide +kernel)) rfl, by decide +kernel, by decide⟩
theorem b_X10_hasRoomFor : gLkB kX10_hasRoomFor 1 := ⟨gw_in (List.mem_of_getElem? (i := 298) (by decide +kernel)) rfl, gw_in (List.mem_of_getElem? (i := 55) (by decide +kernel)) rfl, by decide +kernel, by decide⟩
theorem b_X10_append : gLkB kX10_append 1 := ⟨gw_in (List.mem_of_getElem? (i := 302) (by decide +kernel)) rfl, gw_in (List.mem_of_getElem? (i := 55) (by decide +kernel)) rfl, by decide +kernel, by decide⟩
theorem b_X11_add : gLkB kX11_add 1 := ⟨gw_in (List.mem_of_getElem? (i := 306) (by decide +kernel)) rfl, gw_in (List.mem_of_getElem? (i := 54) (by decide +kernel)) rfl, by decide +kernel, by decide⟩
theorem b_X11_isKind : gLkB kX11_isKind 1 := ⟨gw_in (List.mem_of_getElem? (i := 309) (by decide +kernel)) rfl, gw_in (List.mem_of_getElem? (i := 54) (by decide +kernel)) rfl, by decide +kernel, by decide⟩
theorem b_X7_slots : gLkB kX7_slots 1 := ⟨gw_in (List.mem_of_getElem? (i := 313) (by decide +kernel)) rfl, gw_in (List.mem_of_getElem? (i := 57) (by decide +kernel)) rfl, by decide +kernel, by decide⟩
theorem b_X11_lowestFree : gLkB kX11_lowestFree 1 := ⟨gw_in (List.mem_of_getElem? (i := 316) (by decide +kernel)) rfl, gw_in (List.mem_of_getElem? (i := 54) (by decide +kernel)) rfl, by decide +kernel, by decide⟩
theorem b_X10_rewind : gLkB kX10_rewind 0 := ⟨gw_in (List.mem_of_getElem? (i := 320) (by decide +kernel)) rfl, gw_in (List.mem_of_getElem? (i := 55) (by decide +kernel)) rfl, by decide +kernel, by decide⟩
theorem b_X10_readRule : gLkB kX10_readRule 0 := ⟨gw_in (List.mem_of_getElem? (i := 324) (by decide +kernel)) rfl, gw_in (List.mem_of_getElem? (i := 55) (by decide +kernel)) rfl, by decide +kernel, by decide⟩
theorem b_X10_startsRuleSign : gLkB kX10_startsRuleSign 0 := ⟨gw_in (List.mem_of_getElem? (i := 328) (by decide +kernel)) rfl, gw_in (List.mem_of_getElem? (i := 55) (by decide +kernel)) rfl, by decide +kernel, by decide⟩
theorem b_X10_peek : gLkB kX10_peek 0 := ⟨gw_in (List.mem_of_getElem? (i := 332) (by decide +kernel)) rfl, gw_in (List.mem_of_getElem? (i := 55) (by decide +kernel)) rfl, by decide +kernel, by decide⟩
theorem b_X5_init : gLkB kX5_init 0 := ⟨gw_in (List.mem_of_getElem? (i := 337) (by decide +kernel)) rfl, gw_in (List.mem_of_getElem? (i := 62) (by decide +kernel)) rfl, by decide +kernel, by decide⟩
theorem b_X10_readMatchersAhead : gLkB kX10_readMatchersAhead 0 := ⟨gw_in (List.mem_of_getElem? (i := 357) (by decide +kernel)) rfl, gw_in (List.mem_of_getElem? (i := 55) (by decide +kernel)) rfl, by decide +kernel, by decide⟩
theorem b_X10_readMatchers : gLkB kX10_readMatchers 1 := ⟨gw_in (List.mem_of_getElem? (i := 361) (by decide +kernel)) rfl, gw_in (List.mem_of_getElem? (i := 55) (by decide +kernel)) rfl, by decide +kernel, by decide⟩
theorem b_X10_readMatcher : gLkB kX10_readMatcher 2 := ⟨gw_in (List.mem_of_getElem? (i := 365) (by decide +kernel)) rfl, gw_in (List.mem_of_getElem? (i := 55) (by decide +kernel)) rfl, by decide +kernel, by decide⟩
theorem b_X10_skip : gLkB kX10_skip 1 := ⟨gw_in (List.mem_of_getElem? (i := 369) (by decide +kernel)) rfl, gw_in (List.mem_of_getElem? (i := 55) (by decide +kernel)) rfl, by decide +kernel, by decide⟩
theorem b_X10_labelOf : gLkB kX10_labelOf 1 := ⟨gw_in (List.mem_of_getElem? (i := 372) (by decide +kernel)) rfl, gw_in (List.mem_of_getElem? (i := 55) (by decide +kernel)) rfl, by decide +kernel, by decide⟩
theorem b_X10_readDigit : gLkB kX10_readDigit 1 := ⟨gw_in (List.mem_of_getElem? (i := 377) (by decide +kernel)) rfl, gw_in (List.mem_of_getElem? (i := 55) (by decide +kernel)) rfl, by decide +kernel, by decide⟩
theorem b_X10_expect : gLkB kX10_expect 1 := ⟨gw_in (List.mem_of_getElem? (i := 382) (by decide +kernel)) rfl, gw_in (List.mem_of_getElem? (i := 55) (by decide +kernel)) rfl, by decide +kernel, by decide⟩
theorem b_X10_readNumber : gLkB kX10_readNumber 0 := ⟨gw_in (List.mem_of_getElem? (i := 386) (by decide +kernel)) rfl, gw_in (List.mem_of_getElem? (i := 55) (by decide +kernel)) rfl, by decide +kernel, by decide⟩
theorem b_X10_expectEnd : gLkB kX10_expectEnd 0 := ⟨gw_in (List.mem_of_getElem? (i := 390) (by decide +kernel)) rfl, gw_in (List.mem_of_getElem? (i := 55) (by decide +kernel)) rfl, by decide +kernel, by decide⟩
theorem b_X6_init : gLkB kX6_init 5 := ⟨gw_in (List.mem_of_getElem? (i := 395) (by decide +kernel)) rfl, gw_in (List.mem_of_getElem? (i := 64) (by decide +kernel)) rfl, by decide +kernel, by decide⟩
theorem b_X1_init : gLkB kX1_init 0 := ⟨gw_in (List.mem_of_getElem? (i := 398) (by decide +kernel)) rfl, gw_in (List.mem_of_getElem? (i := 63) (by decide +kernel)) rfl, by decide +kernel, by decide⟩
theorem b_X7_putRule : gLkB kX7_putRule 2 := ⟨gw_in (List.mem_of_getElem? (i := 422) (by decide +kernel)) rfl, gw_in (List.mem_of_getElem? (i := 57) (by decide +kernel)) rfl, by decide +kernel, by decide⟩
theorem b_X10_readSilence : gLkB kX10_readSilence 0 := ⟨gw_in (List.mem_of_getElem? (i := 426) (by decide +kernel)) rfl, gw_in (List.mem_of_getElem? (i := 55) (by decide +kernel)) rfl, by decide +kernel, by decide⟩
theorem b_X8_init : gLkB kX8_init 3 := ⟨gw_in (List.mem_of_getElem? (i := 431) (by decide +kernel)) rfl, gw_in (List.mem_of_getElem? (i := 65) (by decide +kernel)) rfl, by decide +kernel, by decide⟩
theorem b_X10_readInhibition : gLkB kX10_readInhibition 0 := ⟨gw_in (List.mem_of_getElem? (i := 447) (by decide +kernel)) rfl, gw_in (List.mem_of_getElem? (i := 55) (by decide +kernel)) rfl, by decide +kernel, by decide⟩
theorem b_X3_init : gLkB kX3_init 3 := ⟨gw_in (List.mem_of_getElem? (i := 452) (by decide +kernel)) rfl, gw_in (List.mem_of_getElem? (i := 66) (by decide +kernel)) rfl, by decide +kernel, by decide⟩
theorem b_X10_clear : gLkB kX10_clear 0 := ⟨gw_in (List.mem_of_getElem? (i := 470) (by decide +kernel)) rfl, gw_in (List.mem_of_getElem? (i := 55) (by decide +kernel)) rfl, by decide +kernel, by decide⟩
theorem b_X11_remove : gLkB kX11_remove 2 := ⟨gw_in (List.mem_of_getElem? (i := 474) (by decide +kernel)) rfl, gw_in (List.mem_of_getElem? (i := 54) (by decide +kernel)) rfl, by decide +kernel, by decide⟩
theorem b_X11_holdsEntry : gLkB kX11_holdsEntry 2 := ⟨gw_in (List.mem_of_getElem? (i := 477) (by decide +kernel)) rfl, gw_in (List.mem_of_getElem? (i := 54) (by decide +kernel)) rfl, by decide +kernel, by decide⟩
theorem b_X0_forgetRule : gLkB kX0_forgetRule 1 := ⟨gw_in (List.mem_of_getElem? (i := 481) (by decide +kernel)) rfl, gw_in (List.mem_of_getElem? (i := 58) (by decide +kernel)) rfl, by decide +kernel, by decide⟩
theorem b_X11_countEntries : gLkB kX11_countEntries 1 := ⟨gw_in (List.mem_of_getElem? (i := 486) (by decide +kernel)) rfl, gw_in (List.mem_of_getElem? (i := 54) (by decide +kernel)) rfl, by decide +kernel, by decide⟩
theorem b_X11_parameter : gLkB kX11_parameter 2 := ⟨gw_in (List.mem_of_getElem? (i := 490) (by decide +kernel)) rfl, gw_in (List.mem_of_getElem? (i := 54) (by decide +kernel)) rfl, by decide +kernel, by decide⟩
theorem b_X2_forgetAll : gLkB kX2_forgetAll 0 := ⟨gw_in (List.mem_of_getElem? (i := 498) (by decide +kernel)) rfl, gw_in (List.mem_of_getElem? (i := 59) (by decide +kernel)) rfl, by decide +kernel, by decide⟩
theorem b_X11_pass : gLkB kX11_pass 1 := ⟨gw_in (List.mem_of_getElem? (i := 502) (by decide +kernel)) rfl, gw_in (List.mem_of_getElem? (i := 54) (by decide +kernel)) rfl, by decide +kernel, by decide⟩
theorem b_X11_isSpan : gLkB kX11_isSpan 1 := ⟨gw_in (List.mem_of_getElem? (i := 505) (by decide +kernel)) rfl, gw_in (List.mem_of_getElem? (i := 54) (by decide +kernel)) rfl, by decide +kernel, by decide⟩
theorem b_X9_steps : gLkB kX9_steps 1 := ⟨gw_in (List.mem_of_getElem? (i := 510) (by decide +kernel)) rfl, gw_in (List.mem_of_getElem? (i := 56) (by decide +kernel)) rfl, by decide +kernel, by decide⟩
theorem b_X9_step : gLkB kX9_step 0 := ⟨gw_in (List.mem_of_getElem? (i := 514) (by decide +kernel)) rfl, gw_in (List.mem_of_getElem? (i := 56) (by decide +kernel)) rfl, by decide +kernel, by decide⟩
theorem b_X7_holding : gLkB kX7_holding 0 := ⟨gw_in (List.mem_of_getElem? (i := 518) (by decide +kernel)) rfl, gw_in (List.mem_of_getElem? (i := 57) (by decide +kernel)) rfl, by decide +kernel, by decide⟩
theorem b_X7_acceptedSeries : gLkB kX7_acceptedSeries 1 := ⟨gw_in (List.mem_of_getElem? (i := 522) (by decide +kernel)) rfl, gw_in (List.mem_of_getElem? (i := 57) (by decide +kernel)) rfl, by decide +kernel, by decide⟩
theorem b_X6_accepts : gLkB kX6_accepts 1 := ⟨gw_in (List.mem_of_getElem? (i := 526) (by decide +kernel)) rfl, gw_in (List.mem_of_getElem? (i := 64) (by decide +kernel)) rfl, by decide +kernel, by decide⟩
theorem b_X7_matched : gLkB kX7_matched 1 := ⟨gw_in (List.mem_of_getElem? (i := 530) (by decide +kernel)) rfl, gw_in (List.mem_of_getElem? (i := 57) (by decide +kernel)) rfl, by decide +kernel, by decide⟩
theorem b_X0_advance : gLkB kX0_advance 3 := ⟨gw_in (List.mem_of_getElem? (i := 536) (by decide +kernel)) rfl, gw_in (List.mem_of_getElem? (i := 58) (by decide +kernel)) rfl, by decide +kernel, by decide⟩
theorem b_X11_has : gLkB kX11_has 2 := ⟨gw_in (List.mem_of_getElem? (i := 539) (by decide +kernel)) rfl, gw_in (List.mem_of_getElem? (i := 54) (by decide +kernel)) rfl, by decide +kernel, by decide⟩
theorem b_X7_waitOf : gLkB kX7_waitOf 1 := ⟨gw_in (List.mem_of_getElem? (i := 543) (by decide +kernel)) rfl, gw_in (List.mem_of_getElem? (i := 57) (by decide +kernel)) rfl, by decide +kernel, by decide⟩
theorem b_X0_rise : gLkB kX0_rise 3 := ⟨gw_in (List.mem_of_getElem? (i := 547) (by decide +kernel)) rfl, gw_in (List.mem_of_getElem? (i := 58) (by decide +kernel)) rfl, by decide +kernel, by decide⟩
theorem b_X0_stateOf : gLkB kX0_stateOf 1 := ⟨gw_in (List.mem_of_getElem? (i := 551) (by decide +kernel)) rfl, gw_in (List.mem_of_getElem? (i := 58) (by decide +kernel)) rfl, by decide +kernel, by decide⟩
theorem b_X0_remember : gLkB kX0_remember 2 := ⟨gw_in (List.mem_of_getElem? (i := 555) (by decide +kernel)) rfl, gw_in (List.mem_of_getElem? (i := 58) (by decide +kernel)) rfl, by decide +kernel, by decide⟩
theorem b_X0_settle : gLkB kX0_settle 2 := ⟨gw_in (List.mem_of_getElem? (i := 559) (by decide +kernel)) rfl, gw_in (List.mem_of_getElem? (i := 58) (by decide +kernel)) rfl, by decide +kernel, by decide⟩
theorem b_X9_active : gLkB kX9_active 0 := ⟨gw_in (List.mem_of_getElem? (i := 563) (by decide +kernel)) rfl, gw_in (List.mem_of_getElem? (i := 56) (by decide +kernel)) rfl, by decide +kernel, by decide⟩
theorem b_X9_silenced : gLkB kX9_silenced 0 := ⟨gw_in (List.mem_of_getElem? (i := 567) (by decide +kernel)) rfl, gw_in (List.mem_of_getElem? (i := 56) (by decide +kernel)) rfl, by decide +kernel, by decide⟩
theorem b_X9_silencedBy : gLkB kX9_silencedBy 1 := ⟨gw_in (List.mem_of_getElem? (i := 571) (by decide +kernel)) rfl, gw_in (List.mem_of_getElem? (i := 56) (by decide +kernel)) rfl, by decide +kernel, by decide⟩
theorem b_X8_isOn : gLkB kX8_isOn 1 := ⟨gw_in (List.mem_of_getElem? (i := 575) (by decide +kernel)) rfl, gw_in (List.mem_of_getElem? (i := 65) (by decide +kernel)) rfl, by decide +kernel, by decide⟩
theorem b_X9_inhibited : gLkB kX9_inhibited 0 := ⟨gw_in (List.mem_of_getElem? (i := 581) (by decide +kernel)) rfl, gw_in (List.mem_of_getElem? (i := 56) (by decide +kernel)) rfl, by decide +kernel, by decide⟩
theorem b_X9_inhibitedBy : gLkB kX9_inhibitedBy 1 := ⟨gw_in (List.mem_of_getElem? (i := 585) (by decide +kernel)) rfl, gw_in (List.mem_of_getElem? (i := 56) (by decide +kernel)) rfl, by decide +kernel, by decide⟩
theorem b_X7_alike : gLkB kX7_alike 2 := ⟨gw_in (List.mem_of_getElem? (i := 589) (by decide +kernel)) rfl, gw_in (List.mem_of_getElem? (i := 57) (by decide +kernel)) rfl, by decide +kernel, by decide⟩
theorem b_J13_bitCount_95d88 : gLkB kJ13_bitCount_95d88 1 := ⟨gw_in (List.mem_of_getElem? (i := 592) (by decide +kernel)) rfl, gw_in (List.mem_of_getElem? (i := 67) (by decide +kernel)) rfl, by decide +kernel, by decide⟩
theorem b_X9_flapping : gLkB kX9_flapping 1 := ⟨gw_in (List.mem_of_getElem? (i := 601) (by decide +kernel)) rfl, gw_in (List.mem_of_getElem? (i := 56) (by decide +kernel)) rfl, by decide +kernel, by decide⟩
theorem b_X9_windowStart : gLkB kX9_windowStart 0 := ⟨gw_in (List.mem_of_getElem? (i := 605) (by decide +kernel)) rfl, gw_in (List.mem_of_getElem? (i := 56) (by decide +kernel)) rfl, by decide +kernel, by decide⟩
theorem b_X0_flapping : gLkB kX0_flapping 3 := ⟨gw_in (List.mem_of_getElem? (i := 609) (by decide +kernel)) rfl, gw_in (List.mem_of_getElem? (i := 58) (by decide +kernel)) rfl, by decide +kernel, by decide⟩
theorem b_X0_transitionsAfter : gLkB kX0_transitionsAfter 2 := ⟨gw_in (List.mem_of_getElem? (i := 613) (by decide +kernel)) rfl, gw_in (List.mem_of_getElem? (i := 58) (by decide +kernel)) rfl, by decide +kernel, by decide⟩
theorem b_X2_sort : gLkB kX2_sort 2 := ⟨gw_in (List.mem_of_getElem? (i := 617) (by decide +kernel)) rfl, gw_in (List.mem_of_getElem? (i := 59) (by decide +kernel)) rfl, by decide +kernel, by decide⟩
theorem b_X7_keyOf : gLkB kX7_keyOf 1 := ⟨gw_in (List.mem_of_getElem? (i := 621) (by decide +kernel)) rfl, gw_in (List.mem_of_getElem? (i := 57) (by decide +kernel)) rfl, by decide +kernel, by decide⟩
theorem b_X2_dueKind : gLkB kX2_dueKind 3 := ⟨gw_in (List.mem_of_getElem? (i := 626) (by decide +kernel)) rfl, gw_in (List.mem_of_getElem? (i := 59) (by decide +kernel)) rfl, by decide +kernel, by decide⟩
theorem b_X2_newcomers : gLkB kX2_newcomers 1 := ⟨gw_in (List.mem_of_getElem? (i := 630) (by decide +kernel)) rfl, gw_in (List.mem_of_getElem? (i := 59) (by decide +kernel)) rfl, by decide +kernel, by decide⟩
theorem b_X9_sendGroup : gLkB kX9_sendGroup 2 := ⟨gw_in (List.mem_of_getElem? (i := 635) (by decide +kernel)) rfl, gw_in (List.mem_of_getElem? (i := 56) (by decide +kernel)) rfl, by decide +kernel, by decide⟩
theorem b_X2_markSent : gLkB kX2_markSent 3 := ⟨gw_in (List.mem_of_getElem? (i := 639) (by decide +kernel)) rfl, gw_in (List.mem_of_getElem? (i := 59) (by decide +kernel)) rfl, by decide +kernel, by decide⟩
theorem b_X7_greatestSeverity : gLkB kX7_greatestSeverity 1 := ⟨gw_in (List.mem_of_getElem? (i := 643) (by decide +kernel)) rfl, gw_in (List.mem_of_getElem? (i := 57) (by decide +kernel)) rfl, by decide +kernel, by decide⟩
theorem b_X4_write : gLkB kX4_write 5 := ⟨gw_in (List.mem_of_getElem? (i := 648) (by decide +kernel)) rfl, gw_in (List.mem_of_getElem? (i := 60) (by decide +kernel)) rfl, by decide +kernel, by decide⟩
theorem b_X11_alert : gLkB kX11_alert 3 := ⟨gw_in (List.mem_of_getElem? (i := 652) (by decide +kernel)) rfl, gw_in (List.mem_of_getElem? (i := 54) (by decide +kernel)) rfl, by decide +kernel, by decide⟩
theorem b_X0_sinceOf : gLkB kX0_sinceOf 1 := ⟨gw_in (List.mem_of_getElem? (i := 657) (by decide +kernel)) rfl, gw_in (List.mem_of_getElem? (i := 58) (by decide +kernel)) rfl, by decide +kernel, by decide⟩
theorem b_X9_inhibitorsOf : gLkB kX9_inhibitorsOf 1 := ⟨gw_in (List.mem_of_getElem? (i := 663) (by decide +kernel)) rfl, gw_in (List.mem_of_getElem? (i := 56) (by decide +kernel)) rfl, by decide +kernel, by decide⟩
theorem b_X9_lowestSilenceOf : gLkB kX9_lowestSilenceOf 1 := ⟨gw_in (List.mem_of_getElem? (i := 674) (by decide +kernel)) rfl, gw_in (List.mem_of_getElem? (i := 56) (by decide +kernel)) rfl, by decide +kernel, by decide⟩
theorem b_X11_lowest : gLkB kX11_lowest 1 := ⟨gw_in (List.mem_of_getElem? (i := 677) (by decide +kernel)) rfl, gw_in (List.mem_of_getElem? (i := 54) (by decide +kernel)) rfl, by decide +kernel, by decide⟩
theorem b_J13_numberOfTrailingZeros_95d88 : gLkB kJ13_numberOfTrailingZeros_95d88 1 := ⟨gw_in (List.mem_of_getElem? (i := 680) (by decide +kernel)) rfl, gw_in (List.mem_of_getElem? (i := 67) (by decide +kernel)) rfl, by decide +kernel, by decide⟩
theorem b_J6_numberOfTrailingZeros_0f7a4 : gLkB kJ6_numberOfTrailingZeros_0f7a4 1 := ⟨gw_in (List.mem_of_getElem? (i := 683) (by decide +kernel)) rfl, gw_in (List.mem_of_getElem? (i := 68) (by decide +kernel)) rfl, by decide +kernel, by decide⟩
theorem b_X11_alerts : gLkB kX11_alerts 1 := ⟨gw_in (List.mem_of_getElem? (i := 689) (by decide +kernel)) rfl, gw_in (List.mem_of_getElem? (i := 54) (by decide +kernel)) rfl, by decide +kernel, by decide⟩
theorem b_X11_group : gLkB kX11_group 2 := ⟨gw_in (List.mem_of_getElem? (i := 695) (by decide +kernel)) rfl, gw_in (List.mem_of_getElem? (i := 54) (by decide +kernel)) rfl, by decide +kernel, by decide⟩
theorem b_X2_nextMinute : gLkB kX2_nextMinute 3 := ⟨gw_in (List.mem_of_getElem? (i := 702) (by decide +kernel)) rfl, gw_in (List.mem_of_getElem? (i := 59) (by decide +kernel)) rfl, by decide +kernel, by decide⟩
theorem b_J9_min_7cf53 : gLkB kJ9_min_7cf53 2 := ⟨gw_in (List.mem_of_getElem? (i := 705) (by decide +kernel)) rfl, gw_in (List.mem_of_getElem? (i := 69) (by decide +kernel)) rfl, by decide +kernel, by decide⟩
theorem b_J9_max_7cf53 : gLkB kJ9_max_7cf53 2 := ⟨gw_in (List.mem_of_getElem? (i := 708) (by decide +kernel)) rfl, gw_in (List.mem_of_getElem? (i := 69) (by decide +kernel)) rfl, by decide +kernel, by decide⟩
theorem b_X11_key : gLkB kX11_key 1 := ⟨gw_in (List.mem_of_getElem? (i := 712) (by decide +kernel)) rfl, gw_in (List.mem_of_getElem? (i := 54) (by decide +kernel)) rfl, by decide +kernel, by decide⟩
theorem b_X2_countNonEmpty : gLkB kX2_countNonEmpty 0 := ⟨gw_in (List.mem_of_getElem? (i := 716) (by decide +kernel)) rfl, gw_in (List.mem_of_getElem? (i := 59) (by decide +kernel)) rfl, by decide +kernel, by decide⟩
theorem b_X2_keyAt : gLkB kX2_keyAt 1 := ⟨gw_in (List.mem_of_getElem? (i := 720) (by decide +kernel)) rfl, gw_in (List.mem_of_getElem? (i := 59) (by decide +kernel)) rfl, by decide +kernel, by decide⟩
theorem b_X11_sent : gLkB kX11_sent 2 := ⟨gw_in (List.mem_of_getElem? (i := 724) (by decide +kernel)) rfl, gw_in (List.mem_of_getElem? (i := 54) (by decide +kernel)) rfl, by decide +kernel, by decide⟩
theorem b_X4_keeps : gLkB kX4_keeps 1 := ⟨gw_in (List.mem_of_getElem? (i := 728) (by decide +kernel)) rfl, gw_in (List.mem_of_getElem? (i := 60) (by decide +kernel)) rfl, by decide +kernel, by decide⟩
theorem b_X4_read : gLkB kX4_read 2 := ⟨gw_in (List.mem_of_getElem? (i := 732) (by decide +kernel)) rfl, gw_in (List.mem_of_getElem? (i := 60) (by decide +kernel)) rfl, by decide +kernel, by decide⟩
theorem b_X11_ahead : gLkB kX11_ahead 1 := ⟨gw_in (List.mem_of_getElem? (i := 736) (by decide +kernel)) rfl, gw_in (List.mem_of_getElem? (i := 54) (by decide +kernel)) rfl, by decide +kernel, by decide⟩
theorem b_X9_copyFrom : gLkB kX9_copyFrom 1 := ⟨gw_in (List.mem_of_getElem? (i := 740) (by decide +kernel)) rfl, gw_in (List.mem_of_getElem? (i := 56) (by decide +kernel)) rfl, by decide +kernel, by decide⟩
theorem b_X7_copyFrom : gLkB kX7_copyFrom 1 := ⟨gw_in (List.mem_of_getElem? (i := 744) (by decide +kernel)) rfl, gw_in (List.mem_of_getElem? (i := 57) (by decide +kernel)) rfl, by decide +kernel, by decide⟩
theorem b_X0_copyFrom : gLkB kX0_copyFrom 1 := ⟨gw_in (List.mem_of_getElem? (i := 751) (by decide +kernel)) rfl, gw_in (List.mem_of_getElem? (i := 58) (by decide +kernel)) rfl, by decide +kernel, by decide⟩
theorem b_X2_copyFrom : gLkB kX2_copyFrom 1 := ⟨gw_in (List.mem_of_getElem? (i := 756) (by decide +kernel)) rfl, gw_in (List.mem_of_getElem? (i := 59) (by decide +kernel)) rfl, by decide +kernel, by decide⟩
theorem b_X4_copyFrom : gLkB kX4_copyFrom 1 := ⟨gw_in (List.mem_of_getElem? (i := 761) (by decide +kernel)) rfl, gw_in (List.mem_of_getElem? (i := 60) (by decide +kernel)) rfl, by decide +kernel, by decide⟩
theorem b_X11_next : gLkB kX11_next 1 := ⟨gw_in (List.mem_of_getElem? (i := 766) (by decide +kernel)) rfl, gw_in (List.mem_of_getElem? (i := 54) (by decide +kernel)) rfl, by decide +kernel, by decide⟩
theorem b_X11_saved : gLkB kX11_saved 2 := ⟨gw_in (List.mem_of_getElem? (i := 771) (by decide +kernel)) rfl, gw_in (List.mem_of_getElem? (i := 54) (by decide +kernel)) rfl, by decide +kernel, by decide⟩
theorem b_X11_image : gLkB kX11_image 0 := ⟨gw_in (List.mem_of_getElem? (i := 775) (by decide +kernel)) rfl, gw_in (List.mem_of_getElem? (i := 54) (by decide +kernel)) rfl, by decide +kernel, by decide⟩
theorem b_X11_undo : gLkB kX11_undo 0 := ⟨gw_in (List.mem_of_getElem? (i := 779) (by decide +kernel)) rfl, gw_in (List.mem_of_getElem? (i := 54) (by decide +kernel)) rfl, by decide +kernel, by decide⟩
theorem b_X11_count : gLkB kX11_count 1 := ⟨gw_in (List.mem_of_getElem? (i := 783) (by decide +kernel)) rfl, gw_in (List.mem_of_getElem? (i := 54) (by decide +kernel)) rfl, by decide +kernel, by decide⟩
theorem b_X7_countValues : gLkB kX7_countValues 0 := ⟨gw_in (List.mem_of_getElem? (i := 787) (by decide +kernel)) rfl, gw_in (List.mem_of_getElem? (i := 57) (by decide +kernel)) rfl, by decide +kernel, by decide⟩
theorem b_X2_countOpen : gLkB kX2_countOpen 0 := ⟨gw_in (List.mem_of_getElem? (i := 791) (by decide +kernel)) rfl, gw_in (List.mem_of_getElem? (i := 59) (by decide +kernel)) rfl, by decide +kernel, by decide⟩
theorem b_X9_countSilencesInUse : gLkB kX9_countSilencesInUse 0 := ⟨gw_in (List.mem_of_getElem? (i := 796) (by decide +kernel)) rfl, gw_in (List.mem_of_getElem? (i := 56) (by decide +kernel)) rfl, by decide +kernel, by decide⟩
theorem b_X11_parameterOrNone : gLkB kX11_parameterOrNone 1 := ⟨gw_in (List.mem_of_getElem? (i := 800) (by decide +kernel)) rfl, gw_in (List.mem_of_getElem? (i := 54) (by decide +kernel)) rfl, by decide +kernel, by decide⟩
theorem b_X12_init : gLkB kX12_init 0 := ⟨gw_in (List.mem_of_getElem? (i := 805) (by decide +kernel)) rfl, gw_in (List.mem_of_getElem? (i := 61) (by decide +kernel)) rfl, by decide +kernel, by decide⟩
theorem b_X12_label : gLkB kX12_label 3 := ⟨gw_in (List.mem_of_getElem? (i := 847) (by decide +kernel)) rfl, gw_in (List.mem_of_getElem? (i := 61) (by decide +kernel)) rfl, by decide +kernel, by decide⟩
theorem b_X12_isIn : gLkB kX12_isIn 3 := ⟨gw_in (List.mem_of_getElem? (i := 850) (by decide +kernel)) rfl, gw_in (List.mem_of_getElem? (i := 61) (by decide +kernel)) rfl, by decide +kernel, by decide⟩
theorem b_X12_sample : gLkB kX12_sample 2 := ⟨gw_in (List.mem_of_getElem? (i := 854) (by decide +kernel)) rfl, gw_in (List.mem_of_getElem? (i := 61) (by decide +kernel)) rfl, by decide +kernel, by decide⟩
theorem b_X12_drop : gLkB kX12_drop 1 := ⟨gw_in (List.mem_of_getElem? (i := 858) (by decide +kernel)) rfl, gw_in (List.mem_of_getElem? (i := 61) (by decide +kernel)) rfl, by decide +kernel, by decide⟩
theorem b_X12_feed : gLkB kX12_feed 6 := ⟨gw_in (List.mem_of_getElem? (i := 862) (by decide +kernel)) rfl, gw_in (List.mem_of_getElem? (i := 61) (by decide +kernel)) rfl, by decide +kernel, by decide⟩
theorem b_X12_add : gLkB kX12_add 1 := ⟨gw_in (List.mem_of_getElem? (i := 866) (by decide +kernel)) rfl, gw_in (List.mem_of_getElem? (i := 61) (by decide +kernel)) rfl, by decide +kernel, by decide⟩
theorem b_X12_many : gLkB kX12_many 1 := ⟨gw_in (List.mem_of_getElem? (i := 870) (by decide +kernel)) rfl, gw_in (List.mem_of_getElem? (i := 61) (by decide +kernel)) rfl, by decide +kernel, by decide⟩
theorem b_X12_most : gLkB kX12_most 1 := ⟨gw_in (List.mem_of_getElem? (i := 873) (by decide +kernel)) rfl, gw_in (List.mem_of_getElem? (i := 61) (by decide +kernel)) rfl, by decide +kernel, by decide⟩
theorem b_X12_isOne : gLkB kX12_isOne 2 := ⟨gw_in (List.mem_of_getElem? (i := 877) (by decide +kernel)) rfl, gw_in (List.mem_of_getElem? (i := 61) (by decide +kernel)) rfl, by decide +kernel, by decide⟩
theorem b_X12_first : gLkB kX12_first 1 := ⟨gw_in (List.mem_of_getElem? (i := 880) (by decide +kernel)) rfl, gw_in (List.mem_of_getElem? (i := 61) (by decide +kernel)) rfl, by decide +kernel, by decide⟩
theorem b_X12_wide : gLkB kX12_wide 1 := ⟨gw_in (List.mem_of_getElem? (i := 883) (by decide +kernel)) rfl, gw_in (List.mem_of_getElem? (i := 61) (by decide +kernel)) rfl, by decide +kernel, by decide⟩
theorem b_X12_rule : gLkB kX12_rule 0 := ⟨gw_in (List.mem_of_getElem? (i := 887) (by decide +kernel)) rfl, gw_in (List.mem_of_getElem? (i := 61) (by decide +kernel)) rfl, by decide +kernel, by decide⟩
theorem b_X12_here : gLkB kX12_here 0 := ⟨gw_in (List.mem_of_getElem? (i := 891) (by decide +kernel)) rfl, gw_in (List.mem_of_getElem? (i := 61) (by decide +kernel)) rfl, by decide +kernel, by decide⟩
theorem b_X12_matchers : gLkB kX12_matchers 2 := ⟨gw_in (List.mem_of_getElem? (i := 895) (by decide +kernel)) rfl, gw_in (List.mem_of_getElem? (i := 61) (by decide +kernel)) rfl, by decide +kernel, by decide⟩
theorem b_X12_matcher : gLkB kX12_matcher 1 := ⟨gw_in (List.mem_of_getElem? (i := 899) (by decide +kernel)) rfl, gw_in (List.mem_of_getElem? (i := 61) (by decide +kernel)) rfl, by decide +kernel, by decide⟩
theorem b_X12_digit : gLkB kX12_digit 1 := ⟨gw_in (List.mem_of_getElem? (i := 903) (by decide +kernel)) rfl, gw_in (List.mem_of_getElem? (i := 61) (by decide +kernel)) rfl, by decide +kernel, by decide⟩
theorem b_X12_sign : gLkB kX12_sign 1 := ⟨gw_in (List.mem_of_getElem? (i := 907) (by decide +kernel)) rfl, gw_in (List.mem_of_getElem? (i := 61) (by decide +kernel)) rfl, by decide +kernel, by decide⟩
theorem b_X12_number : gLkB kX12_number 0 := ⟨gw_in (List.mem_of_getElem? (i := 911) (by decide +kernel)) rfl, gw_in (List.mem_of_getElem? (i := 61) (by decide +kernel)) rfl, by decide +kernel, by decide⟩
theorem b_X12_silence : gLkB kX12_silence 0 := ⟨gw_in (List.mem_of_getElem? (i := 915) (by decide +kernel)) rfl, gw_in (List.mem_of_getElem? (i := 61) (by decide +kernel)) rfl, by decide +kernel, by decide⟩
theorem b_X12_inhibition : gLkB kX12_inhibition 0 := ⟨gw_in (List.mem_of_getElem? (i := 919) (by decide +kernel)) rfl, gw_in (List.mem_of_getElem? (i := 61) (by decide +kernel)) rfl, by decide +kernel, by decide⟩
theorem b_X12_remove : gLkB kX12_remove 2 := ⟨gw_in (List.mem_of_getElem? (i := 923) (by decide +kernel)) rfl, gw_in (List.mem_of_getElem? (i := 61) (by decide +kernel)) rfl, by decide +kernel, by decide⟩
theorem b_X12_parameter : gLkB kX12_parameter 2 := ⟨gw_in (List.mem_of_getElem? (i := 927) (by decide +kernel)) rfl, gw_in (List.mem_of_getElem? (i := 61) (by decide +kernel)) rfl, by decide +kernel, by decide⟩
theorem b_X12_pass : gLkB kX12_pass 1 := ⟨gw_in (List.mem_of_getElem? (i := 931) (by decide +kernel)) rfl, gw_in (List.mem_of_getElem? (i := 61) (by decide +kernel)) rfl, by decide +kernel, by decide⟩
theorem b_X12_step : gLkB kX12_step 0 := ⟨gw_in (List.mem_of_getElem? (i := 936) (by decide +kernel)) rfl, gw_in (List.mem_of_getElem? (i := 61) (by decide +kernel)) rfl, by decide +kernel, by decide⟩
theorem b_X12_goesOn : gLkB kX12_goesOn 1 := ⟨gw_in (List.mem_of_getElem? (i := 940) (by decide +kernel)) rfl, gw_in (List.mem_of_getElem? (i := 61) (by decide +kernel)) rfl, by decide +kernel, by decide⟩
theorem b_X12_holds : gLkB kX12_holds 1 := ⟨gw_in (List.mem_of_getElem? (i := 944) (by decide +kernel)) rfl, gw_in (List.mem_of_getElem? (i := 61) (by decide +kernel)) rfl, by decide +kernel, by decide⟩
theorem b_X12_matches : gLkB kX12_matches 2 := ⟨gw_in (List.mem_of_getElem? (i := 948) (by decide +kernel)) rfl, gw_in (List.mem_of_getElem? (i := 61) (by decide +kernel)) rfl, by decide +kernel, by decide⟩
theorem b_X12_turns : gLkB kX12_turns 1 := ⟨gw_in (List.mem_of_getElem? (i := 952) (by decide +kernel)) rfl, gw_in (List.mem_of_getElem? (i := 61) (by decide +kernel)) rfl, by decide +kernel, by decide⟩
theorem b_X12_actives : gLkB kX12_actives 0 := ⟨gw_in (List.mem_of_getElem? (i := 956) (by decide +kernel)) rfl, gw_in (List.mem_of_getElem? (i := 61) (by decide +kernel)) rfl, by decide +kernel, by decide⟩
theorem b_X12_isActive : gLkB kX12_isActive 1 := ⟨gw_in (List.mem_of_getElem? (i := 960) (by decide +kernel)) rfl, gw_in (List.mem_of_getElem? (i := 61) (by decide +kernel)) rfl, by decide +kernel, by decide⟩
theorem b_X12_state : gLkB kX12_state 1 := ⟨gw_in (List.mem_of_getElem? (i := 964) (by decide +kernel)) rfl, gw_in (List.mem_of_getElem? (i := 61) (by decide +kernel)) rfl, by decide +kernel, by decide⟩
theorem b_X12_silenceOf : gLkB kX12_silenceOf 1 := ⟨gw_in (List.mem_of_getElem? (i := 968) (by decide +kernel)) rfl, gw_in (List.mem_of_getElem? (i := 61) (by decide +kernel)) rfl, by decide +kernel, by decide⟩
theorem b_X12_isSilencedBy : gLkB kX12_isSilencedBy 2 := ⟨gw_in (List.mem_of_getElem? (i := 972) (by decide +kernel)) rfl, gw_in (List.mem_of_getElem? (i := 61) (by decide +kernel)) rfl, by decide +kernel, by decide⟩
theorem b_X12_isFlapping : gLkB kX12_isFlapping 1 := ⟨gw_in (List.mem_of_getElem? (i := 976) (by decide +kernel)) rfl, gw_in (List.mem_of_getElem? (i := 61) (by decide +kernel)) rfl, by decide +kernel, by decide⟩
theorem b_X12_flaps : gLkB kX12_flaps 1 := ⟨gw_in (List.mem_of_getElem? (i := 980) (by decide +kernel)) rfl, gw_in (List.mem_of_getElem? (i := 61) (by decide +kernel)) rfl, by decide +kernel, by decide⟩
theorem b_X12_inhibitorOf : gLkB kX12_inhibitorOf 1 := ⟨gw_in (List.mem_of_getElem? (i := 984) (by decide +kernel)) rfl, gw_in (List.mem_of_getElem? (i := 61) (by decide +kernel)) rfl, by decide +kernel, by decide⟩
theorem b_X12_isInhibitedBy : gLkB kX12_isInhibitedBy 2 := ⟨gw_in (List.mem_of_getElem? (i := 988) (by decide +kernel)) rfl, gw_in (List.mem_of_getElem? (i := 61) (by decide +kernel)) rfl, by decide +kernel, by decide⟩
theorem b_X12_withKey : gLkB kX12_withKey 2 := ⟨gw_in (List.mem_of_getElem? (i := 992) (by decide +kernel)) rfl, gw_in (List.mem_of_getElem? (i := 61) (by decide +kernel)) rfl, by decide +kernel, by decide⟩
theorem b_X12_keyOf : gLkB kX12_keyOf 1 := ⟨gw_in (List.mem_of_getElem? (i := 996) (by decide +kernel)) rfl, gw_in (List.mem_of_getElem? (i := 61) (by decide +kernel)) rfl, by decide +kernel, by decide⟩
theorem b_X12_sends : gLkB kX12_sends 3 := ⟨gw_in (List.mem_of_getElem? (i := 1000) (by decide +kernel)) rfl, gw_in (List.mem_of_getElem? (i := 61) (by decide +kernel)) rfl, by decide +kernel, by decide⟩
theorem b_X12_size : gLkB kX12_size 1 := ⟨gw_in (List.mem_of_getElem? (i := 1003) (by decide +kernel)) rfl, gw_in (List.mem_of_getElem? (i := 61) (by decide +kernel)) rfl, by decide +kernel, by decide⟩
theorem b_X12_greatest : gLkB kX12_greatest 1 := ⟨gw_in (List.mem_of_getElem? (i := 1007) (by decide +kernel)) rfl, gw_in (List.mem_of_getElem? (i := 61) (by decide +kernel)) rfl, by decide +kernel, by decide⟩
theorem b_X12_severity : gLkB kX12_severity 1 := ⟨gw_in (List.mem_of_getElem? (i := 1011) (by decide +kernel)) rfl, gw_in (List.mem_of_getElem? (i := 61) (by decide +kernel)) rfl, by decide +kernel, by decide⟩
theorem b_X12_alert : gLkB kX12_alert 3 := ⟨gw_in (List.mem_of_getElem? (i := 1016) (by decide +kernel)) rfl, gw_in (List.mem_of_getElem? (i := 61) (by decide +kernel)) rfl, by decide +kernel, by decide⟩
theorem b_X12_alerts : gLkB kX12_alerts 1 := ⟨gw_in (List.mem_of_getElem? (i := 1020) (by decide +kernel)) rfl, gw_in (List.mem_of_getElem? (i := 61) (by decide +kernel)) rfl, by decide +kernel, by decide⟩
theorem b_X12_isOf : gLkB kX12_isOf 2 := ⟨gw_in (List.mem_of_getElem? (i := 1024) (by decide +kernel)) rfl, gw_in (List.mem_of_getElem? (i := 61) (by decide +kernel)) rfl, by decide +kernel, by decide⟩
theorem b_X12_group : gLkB kX12_group 2 := ⟨gw_in (List.mem_of_getElem? (i := 1028) (by decide +kernel)) rfl, gw_in (List.mem_of_getElem? (i := 61) (by decide +kernel)) rfl, by decide +kernel, by decide⟩
theorem b_X12_later : gLkB kX12_later 1 := ⟨gw_in (List.mem_of_getElem? (i := 1032) (by decide +kernel)) rfl, gw_in (List.mem_of_getElem? (i := 61) (by decide +kernel)) rfl, by decide +kernel, by decide⟩
theorem b_X12_key : gLkB kX12_key 1 := ⟨gw_in (List.mem_of_getElem? (i := 1036) (by decide +kernel)) rfl, gw_in (List.mem_of_getElem? (i := 61) (by decide +kernel)) rfl, by decide +kernel, by decide⟩
theorem b_X12_sent : gLkB kX12_sent 2 := ⟨gw_in (List.mem_of_getElem? (i := 1040) (by decide +kernel)) rfl, gw_in (List.mem_of_getElem? (i := 61) (by decide +kernel)) rfl, by decide +kernel, by decide⟩
theorem b_X12_ahead : gLkB kX12_ahead 1 := ⟨gw_in (List.mem_of_getElem? (i := 1044) (by decide +kernel)) rfl, gw_in (List.mem_of_getElem? (i := 61) (by decide +kernel)) rfl, by decide +kernel, by decide⟩
theorem b_X12_looks : gLkB kX12_looks 2 := ⟨gw_in (List.mem_of_getElem? (i := 1048) (by decide +kernel)) rfl, gw_in (List.mem_of_getElem? (i := 61) (by decide +kernel)) rfl, by decide +kernel, by decide⟩
theorem b_X12_copies : gLkB kX12_copies 4 := ⟨gw_in (List.mem_of_getElem? (i := 1051) (by decide +kernel)) rfl, gw_in (List.mem_of_getElem? (i := 61) (by decide +kernel)) rfl, by decide +kernel, by decide⟩
theorem b_X12_next : gLkB kX12_next 1 := ⟨gw_in (List.mem_of_getElem? (i := 1055) (by decide +kernel)) rfl, gw_in (List.mem_of_getElem? (i := 61) (by decide +kernel)) rfl, by decide +kernel, by decide⟩
theorem b_X12_saved : gLkB kX12_saved 2 := ⟨gw_in (List.mem_of_getElem? (i := 1059) (by decide +kernel)) rfl, gw_in (List.mem_of_getElem? (i := 61) (by decide +kernel)) rfl, by decide +kernel, by decide⟩
theorem b_X12_image : gLkB kX12_image 0 := ⟨gw_in (List.mem_of_getElem? (i := 1063) (by decide +kernel)) rfl, gw_in (List.mem_of_getElem? (i := 61) (by decide +kernel)) rfl, by decide +kernel, by decide⟩
theorem b_X12_undo : gLkB kX12_undo 0 := ⟨gw_in (List.mem_of_getElem? (i := 1067) (by decide +kernel)) rfl, gw_in (List.mem_of_getElem? (i := 61) (by decide +kernel)) rfl, by decide +kernel, by decide⟩
theorem b_X12_count : gLkB kX12_count 1 := ⟨gw_in (List.mem_of_getElem? (i := 1071) (by decide +kernel)) rfl, gw_in (List.mem_of_getElem? (i := 61) (by decide +kernel)) rfl, by decide +kernel, by decide⟩
theorem b_X12_silencing : gLkB kX12_silencing 0 := ⟨gw_in (List.mem_of_getElem? (i := 1075) (by decide +kernel)) rfl, gw_in (List.mem_of_getElem? (i := 61) (by decide +kernel)) rfl, by decide +kernel, by decide⟩
end
section
/-! rows with places as natural numbers; small facts -/
def gb (b : Bool) : Int32 := if b then 1 else 0
theorem gb01 (b : Bool) : gb b = 0 ∨ gb b = 1 := by cases b <;> simp [gb]
theorem gb_t : gb true = 1 := rfl
theorem gb_f : gb false = 0 := rfl
theorem gb_0 {b : Bool} : gb b = 0 ↔ b = false := by cases b <;> simp [gb]
theorem gb_n0 {b : Bool} : ¬ gb b = 0 ↔ b = true := by cases b <;> simp [gb]
theorem gz0 : (0 : Int32) = 0 ∨ (0 : Int32) = 1 := Or.inl rfl
theorem gz1 : (1 : Int32) = 0 ∨ (1 : Int32) = 1 := Or.inr rfl
theorem gUp_s {M : gM} {a : Nat} {c : gE} : (gUp M a c).1 a = some c := if_pos rfl
theorem gUp_n {M : gM} {a b : Nat} {c : gE} {x : Option gE} (h : M.1 b = x) (hn : b ≠ a) : (gUp M a c).1 b = x := (if_neg hn).trans h
theorem gNew_s {M : gM} {c : gE} : (gNew M c).1 M.2 = some c := if_pos rfl
theorem gNew_n {M : gM} {b : Nat} {c : gE} {x : Option gE} (h : M.1 b = x) (hn : b ≠ M.2) : (gNew M c).1 b = x := (if_neg hn).trans h
theorem gUp_up {M : gM} {a : Nat} {c e : gE} : gUp (gUp M a c) a e = gUp M a e := by
  unfold gUp
  congr 1
  funext q
  by_cases h : q = a <;> simp [h]
theorem gUp_id {M : gM} {a : Nat} {c : gE} (h : M.1 a = some c) : gUp M a c = M := by
  unfold gUp
  obtain ⟨m1, m2⟩ := M
  congr 1
  funext q
  by_cases e : q = a
  · subst e; simp only [if_true]; exact h.symm
  · simp [e]
theorem gUp_cm {M : gM} {a b : Nat} {c e : gE} (h : a ≠ b) : gUp (gUp M a c) b e = gUp (gUp M b e) a c := by
  unfold gUp
  congr 1
  funext q
  by_cases h1 : q = a
  · subst h1; simp [h]
  · simp [h1]
section GN
variable {G : gG} {k : gMd} {d nc ns : Nat} {M : gM} {pc : Nat} {lv lv2 : List (Nat × Value)} {st : List Value} {Q : gP}
theorem gJ_ialdN {a n j : Nat} {f : Nat → Int32} {i : Int32} (hd : decode k.2.1 pc = .ok (.iaload, 1)) (hM : M.1 a = some (gI n f)) (hj : i = nI j) (hlt : j < n) (hn : n < 2 ^ 31) (kk : gJ G k d nc ns M (pc + 1) lv (.int (f j) :: st) Q) : gJ G k d nc ns M pc lv (.int i :: .ref a :: st) Q := by
  subst hj
  exact gJ_iald hd hM (vp_in_nI hlt hn) (by rw [nI_clamp (Nat.lt_trans hlt hn)]; exact kk)
theorem gJ_zaldN {a n j : Nat} {f : Nat → Int32} {i : Int32} (hd : decode k.2.1 pc = .ok (.baload, 1)) (hM : M.1 a = some (gZ n f)) (hj : i = nI j) (hlt : j < n) (hn : n < 2 ^ 31) (kk : gJ G k d nc ns M (pc + 1) lv (.int (f j) :: st) Q) : gJ G k d nc ns M pc lv (.int i :: .ref a :: st) Q := by
  subst hj
  exact gJ_zald hd hM (vp_in_nI hlt hn) (by rw [nI_clamp (Nat.lt_trans hlt hn)]; exact kk)
theorem gJ_laldN {a n j : Nat} {f : Nat → Int64} {i : Int32} (hd : decode k.2.1 pc = .ok (.laload, 1)) (hM : M.1 a = some (gL n f)) (hj : i = nI j) (hlt : j < n) (hn : n < 2 ^ 31) (kk : gJ G k d nc ns M (pc + 1) lv (.long (f j) :: st) Q) : gJ G k d nc ns M pc lv (.int i :: .ref a :: st) Q := by
  subst hj
  exact gJ_lald hd hM (vp_in_nI hlt hn) (by rw [nI_clamp (Nat.lt_trans hlt hn)]; exact kk)
theorem gJ_taldN {q j : Nat} {i : Int32} (hd : decode k.2.1 pc = .ok (.iaload, 1)) (hq : q < 4) (hj : i = nI j) (hlt : j < (gSt q).2.1) (hn : (gSt q).2.1 < 2 ^ 31) (kk : gJ G k d nc ns M (pc + 1) lv (.int ((gSt q).2.2 j) :: st) Q) : gJ G k d nc ns M pc lv (.int i :: .ref (gS G q) :: st) Q := by
  subst hj
  exact gJ_tald hd hq (vp_in_nI hlt hn) (by rw [nI_clamp (Nat.lt_trans hlt hn)]; exact kk)
theorem gJ_aaldS {t a n j q : Nat} {f : Nat → Option Nat} {i : Int32} {Cn : String} (hd : decode k.2.1 pc = .ok (.aaload, 1)) (hM : M.1 a = some (gR t n f)) (ht : (gTys G)[t]? = some (G.2.2.1 t, .object Cn)) (hj : i = nI j) (hlt : j < n) (hn : n < 2 ^ 31) (hq : f j = some q) (kk : gJ G k d nc ns M (pc + 1) lv (.ref q :: st) Q) : gJ G k d nc ns M pc lv (.int i :: .ref a :: st) Q := by
  subst hj
  exact gJ_aald hd hM ht (vp_in_nI hlt hn) (by rw [nI_clamp (Nat.lt_trans hlt hn), hq]; exact kk)
theorem gJ_aaldN {t a n j : Nat} {f : Nat → Option Nat} {i : Int32} {Cn : String} (hd : decode k.2.1 pc = .ok (.aaload, 1)) (hM : M.1 a = some (gR t n f)) (ht : (gTys G)[t]? = some (G.2.2.1 t, .object Cn)) (hj : i = nI j) (hlt : j < n) (hn : n < 2 ^ 31) (hq : f j = none) (kk : gJ G k d nc ns M (pc + 1) lv (.null :: st) Q) : gJ G k d nc ns M pc lv (.int i :: .ref a :: st) Q := by
  subst hj
  exact gJ_aald hd hM ht (vp_in_nI hlt hn) (by rw [nI_clamp (Nat.lt_trans hlt hn), hq]; exact kk)
theorem gJ_iastN {a n j : Nat} {f : Nat → Int32} {i x : Int32} (hd : decode k.2.1 pc = .ok (.iastore, 1)) (hM : M.1 a = some (gI n f)) (hj : i = nI j) (hlt : j < n) (hn : n < 2 ^ 31) (kk : gJ G k d nc ns (gUp M a (gI n (upd f j x))) (pc + 1) lv st Q) : gJ G k d nc ns M pc lv (.int x :: .int i :: .ref a :: st) Q := by
  subst hj
  exact gJ_iast hd hM (vp_in_nI hlt hn) (by rw [nI_clamp (Nat.lt_trans hlt hn)]; exact kk)
theorem gJ_zastN {a n j : Nat} {f : Nat → Int32} {i x : Int32} (hd : decode k.2.1 pc = .ok (.bastore, 1)) (hM : M.1 a = some (gZ n f)) (hj : i = nI j) (hlt : j < n) (hn : n < 2 ^ 31) (hx : x = 0 ∨ x = 1) (kk : gJ G k d nc ns (gUp M a (gZ n (upd f j x))) (pc + 1) lv st Q) : gJ G k d nc ns M pc lv (.int x :: .int i :: .ref a :: st) Q := by
  subst hj
  exact gJ_zast hd hM (vp_in_nI hlt hn) hx (by rw [nI_clamp (Nat.lt_trans hlt hn)]; exact kk)
theorem gJ_lastN {a n j : Nat} {f : Nat → Int64} {i : Int32} {x : Int64} (hd : decode k.2.1 pc = .ok (.lastore, 1)) (hM : M.1 a = some (gL n f)) (hj : i = nI j) (hlt : j < n) (hn : n < 2 ^ 31) (kk : gJ G k d nc ns (gUp M a (gL n (vp_updL f j x))) (pc + 1) lv st Q) : gJ G k d nc ns M pc lv (.long x :: .int i :: .ref a :: st) Q := by
  subst hj
  exact gJ_last hd hM (vp_in_nI hlt hn) (by rw [nI_clamp (Nat.lt_trans hlt hn)]; exact kk)
theorem gJ_aastNN {t a n j : Nat} {f : Nat → Option Nat} {i : Int32} {Cn : String} (hd : decode k.2.1 pc = .ok (.aastore, 1)) (hM : M.1 a = some (gR t n f)) (ht : (gTys G)[t]? = some (G.2.2.1 t, .object Cn)) (hj : i = nI j) (hlt : j < n) (hn : n < 2 ^ 31) (kk : gJ G k d nc ns (gUp M a (gR t n (va_up f j none))) (pc + 1) lv st Q) : gJ G k d nc ns M pc lv (.null :: .int i :: .ref a :: st) Q := by
  subst hj
  exact gJ_aastN hd hM ht (vp_in_nI hlt hn) (by rw [nI_clamp (Nat.lt_trans hlt hn)]; exact kk)
theorem gJ_aastN_ {t a n v ci j : Nat} {r : vw_C} {vs : List Value} {f : Nat → Option Nat} {i : Int32} (hd : decode k.2.1 pc = .ok (.aastore, 1)) (hM : M.1 a = some (gR t n f)) (ht : (gTys G)[t]? = some (G.2.2.1 t, .object r.1)) (hv : M.1 v = some (gO ci vs)) (hc : vwCl[ci]? = some r) (hj : i = nI j) (hlt : j < n) (hn : n < 2 ^ 31) (kk : gJ G k d nc ns (gUp M a (gR t n (va_up f j (some v)))) (pc + 1) lv st Q) : gJ G k d nc ns M pc lv (.ref v :: .int i :: .ref a :: st) Q := by
  subst hj
  exact gJ_aast hd hM ht hv hc (vp_in_nI hlt hn) (by rw [nI_clamp (Nat.lt_trans hlt hn)]; exact kk)
theorem gJ_idivN {a b : Nat} {x y : Int32} (hd : decode k.2.1 pc = .ok (.idiv, 1)) (hx : x = nI a) (hy : y = nI b) (ha : a < 2 ^ 31) (hb : 0 < b ∧ b < 2 ^ 31) (kk : gJ G k d nc ns M (pc + 1) lv (.int (nI (a / b)) :: st) Q) : gJ G k d nc ns M pc lv (.int y :: .int x :: st) Q := by
  subst hx
  subst hy
  exact gJ_idiv hd (nI_ne0 hb.1 hb.2) (by rw [pk_div ha hb.1 hb.2]; exact kk)
theorem gJ_iremN {a b : Nat} {x y : Int32} (hd : decode k.2.1 pc = .ok (.irem, 1)) (hx : x = nI a) (hy : y = nI b) (ha : a < 2 ^ 31) (hb : 0 < b ∧ b < 2 ^ 31) (kk : gJ G k d nc ns M (pc + 1) lv (.int (nI (a % b)) :: st) Q) : gJ G k d nc ns M pc lv (.int y :: .int x :: st) Q := by
  subst hx
  subst hy
  exact gJ_irem hd (nI_ne0 hb.1 hb.2) (by rw [pk_rem ha hb.1 hb.2]; exact kk)
theorem gJ_iincN {i a b : Nat} {n : Int} (hd : decode k.2.1 pc = .ok (.iinc i n, 3)) (hg : gAt lv i = some (.int (nI a))) (hv : Int32.ofInt n = nI b) (hn : decide (i < k.2.2.1) = true) (h2 : (i, .int (nI (a + b))) :: gF1 i lv = lv2) (kk : gJ G k d nc ns M (pc + 3) lv2 st Q) : gJ G k d nc ns M pc lv st Q :=
  gJ_iinc (v := nI (a + b)) hd hg (by rw [hv, nI_add]) hn h2 kk
theorem gJ_if_eqB {b : Bool} {off : Int} {tgt : Nat} (hd : decode k.2.1 pc = .ok (.ifCond .eq off, 3)) (ht : (pc : Int) + off = (tgt : Int)) (kt : b = false → gJ G k d nc ns M tgt lv st Q) (kf : b = true → gJ G k d nc ns M (pc + 3) lv st Q) : gJ G k d nc ns M pc lv (.int (gb b) :: st) Q :=
  gJ_if_eq hd ht (fun h => kt (gb_0.mp h)) (fun h => kf (gb_n0.mp h))
theorem gJ_if_neB {b : Bool} {off : Int} {tgt : Nat} (hd : decode k.2.1 pc = .ok (.ifCond .ne off, 3)) (ht : (pc : Int) + off = (tgt : Int)) (kt : b = true → gJ G k d nc ns M tgt lv st Q) (kf : b = false → gJ G k d nc ns M (pc + 3) lv st Q) : gJ G k d nc ns M pc lv (.int (gb b) :: st) Q :=
  gJ_if_ne hd ht (fun h => kt (gb_n0.mp h)) (fun h => kf (gb_0.mp h))
theorem gJ_iaddN {a b : Nat} {x y : Int32} (hd : decode k.2.1 pc = .ok (.iadd, 1)) (hx : x = nI a) (hy : y = nI b) (kk : gJ G k d nc ns M (pc + 1) lv (.int (nI (a + b)) :: st) Q) : gJ G k d nc ns M pc lv (.int y :: .int x :: st) Q :=
  gJ_iadd hd (by rw [hx, hy, nI_add]; exact kk)
theorem gJ_imulN {a b : Nat} {x y : Int32} (hd : decode k.2.1 pc = .ok (.imul, 1)) (hx : x = nI a) (hy : y = nI b) (kk : gJ G k d nc ns M (pc + 1) lv (.int (nI (a * b)) :: st) Q) : gJ G k d nc ns M pc lv (.int y :: .int x :: st) Q :=
  gJ_imul hd (by rw [hx, hy, pk_mul]; exact kk)
/-- the locals in another order, or fewer -/
def gSub (lv : List (Nat × Value)) (lv' : List (Nat × Value)) : Prop := match lv' with
  | [] => True
  | q :: r => gAt lv q.1 = some q.2 ∧ gSub lv r
theorem gSub_mem {lv lv' : List (Nat × Value)} (h : gSub lv lv') : ∀ q ∈ lv', q ∈ lv := by
  induction lv' with
  | nil => intro q hq; cases hq
  | cons x r ih =>
    intro q hq
    rcases List.mem_cons.mp hq with rfl | hq
    · exact gAt_mem h.1
    · exact ih h.2 q hq
theorem gJ_ls {lv' : List (Nat × Value)} (h : gJ G k d nc ns M pc lv' st Q) (hs : gSub lv lv') : gJ G k d nc ns M pc lv st Q := gJ_lv (gSub_mem hs) h
theorem gJ_icmp_eqN {a b : Nat} {x y : Int32} {off : Int} {tgt : Nat} (hx : x = nI a) (hy : y = nI b) (ha : a < 2 ^ 31) (hb : b < 2 ^ 31) (hd : decode k.2.1 pc = .ok (.if_icmp .eq off, 3)) (ht : (pc : Int) + off = (tgt : Int)) (kt : a = b → gJ G k d nc ns M tgt lv st Q) (kf : ¬ a = b → gJ G k d nc ns M (pc + 3) lv st Q) : gJ G k d nc ns M pc lv (.int y :: .int x :: st) Q := by
  subst hx
  subst hy
  exact gJ_icmp_eq hd ht (fun h => kt ((nI_eq ha hb).mp h)) (fun h => kf (mt (nI_eq ha hb).mpr h))
theorem gJ_if_eqN {a : Nat} {x : Int32} {off : Int} {tgt : Nat} (hx : x = nI a) (ha : a < 2 ^ 31) (hd : decode k.2.1 pc = .ok (.ifCond .eq off, 3)) (ht : (pc : Int) + off = (tgt : Int)) (kt : a = 0 → gJ G k d nc ns M tgt lv st Q) (kf : ¬ a = 0 → gJ G k d nc ns M (pc + 3) lv st Q) : gJ G k d nc ns M pc lv (.int x :: st) Q := by
  subst hx
  exact gJ_if_eq hd ht (fun h => kt ((nI_eq ha (by decide : 0 < 2 ^ 31)).mp h)) (fun h => kf (mt (nI_eq ha (by decide : 0 < 2 ^ 31)).mpr h))
theorem gJ_icmp_neN {a b : Nat} {x y : Int32} {off : Int} {tgt : Nat} (hx : x = nI a) (hy : y = nI b) (ha : a < 2 ^ 31) (hb : b < 2 ^ 31) (hd : decode k.2.1 pc = .ok (.if_icmp .ne off, 3)) (ht : (pc : Int) + off = (tgt : Int)) (kt : ¬ a = b → gJ G k d nc ns M tgt lv st Q) (kf : a = b → gJ G k d nc ns M (pc + 3) lv st Q) : gJ G k d nc ns M pc lv (.int y :: .int x :: st) Q := by
  subst hx
  subst hy
  exact gJ_icmp_ne hd ht (fun h => kt ((not_congr (nI_eq ha hb)).mp h)) (fun h => kf ((nI_eq ha hb).mp h))
theorem gJ_if_neN {a : Nat} {x : Int32} {off : Int} {tgt : Nat} (hx : x = nI a) (ha : a < 2 ^ 31) (hd : decode k.2.1 pc = .ok (.ifCond .ne off, 3)) (ht : (pc : Int) + off = (tgt : Int)) (kt : ¬ a = 0 → gJ G k d nc ns M tgt lv st Q) (kf : a = 0 → gJ G k d nc ns M (pc + 3) lv st Q) : gJ G k d nc ns M pc lv (.int x :: st) Q := by
  subst hx
  exact gJ_if_ne hd ht (fun h => kt ((not_congr (nI_eq ha (by decide : 0 < 2 ^ 31))).mp h)) (fun h => kf ((nI_eq ha (by decide : 0 < 2 ^ 31)).mp h))
theorem gJ_icmp_ltN {a b : Nat} {x y : Int32} {off : Int} {tgt : Nat} (hx : x = nI a) (hy : y = nI b) (ha : a < 2 ^ 31) (hb : b < 2 ^ 31) (hd : decode k.2.1 pc = .ok (.if_icmp .lt off, 3)) (ht : (pc : Int) + off = (tgt : Int)) (kt : a < b → gJ G k d nc ns M tgt lv st Q) (kf : ¬ a < b → gJ G k d nc ns M (pc + 3) lv st Q) : gJ G k d nc ns M pc lv (.int y :: .int x :: st) Q := by
  subst hx
  subst hy
  exact gJ_icmp_lt hd ht (fun h => kt ((nI_ltI ha hb).mp h)) (fun h => kf (mt (nI_ltI ha hb).mpr h))
theorem gJ_if_ltN {a : Nat} {x : Int32} {off : Int} {tgt : Nat} (hx : x = nI a) (ha : a < 2 ^ 31) (hd : decode k.2.1 pc = .ok (.ifCond .lt off, 3)) (ht : (pc : Int) + off = (tgt : Int)) (kt : a < 0 → gJ G k d nc ns M tgt lv st Q) (kf : ¬ a < 0 → gJ G k d nc ns M (pc + 3) lv st Q) : gJ G k d nc ns M pc lv (.int x :: st) Q := by
  subst hx
  exact gJ_if_lt hd ht (fun h => kt ((nI_ltI ha (by decide : 0 < 2 ^ 31)).mp h)) (fun h => kf (mt (nI_ltI ha (by decide : 0 < 2 ^ 31)).mpr h))
theorem gJ_icmp_geN {a b : Nat} {x y : Int32} {off : Int} {tgt : Nat} (hx : x = nI a) (hy : y = nI b) (ha : a < 2 ^ 31) (hb : b < 2 ^ 31) (hd : decode k.2.1 pc = .ok (.if_icmp .ge off, 3)) (ht : (pc : Int) + off = (tgt : Int)) (kt : b ≤ a → gJ G k d nc ns M tgt lv st Q) (kf : ¬ b ≤ a → gJ G k d nc ns M (pc + 3) lv st Q) : gJ G k d nc ns M pc lv (.int y :: .int x :: st) Q := by
  subst hx
  subst hy
  exact gJ_icmp_ge hd ht (fun h => kt ((nI_leI hb ha).mp h)) (fun h => kf (mt (nI_leI hb ha).mpr h))
theorem gJ_if_geN {a : Nat} {x : Int32} {off : Int} {tgt : Nat} (hx : x = nI a) (ha : a < 2 ^ 31) (hd : decode k.2.1 pc = .ok (.ifCond .ge off, 3)) (ht : (pc : Int) + off = (tgt : Int)) (kt : 0 ≤ a → gJ G k d nc ns M tgt lv st Q) (kf : ¬ 0 ≤ a → gJ G k d nc ns M (pc + 3) lv st Q) : gJ G k d nc ns M pc lv (.int x :: st) Q := by
  subst hx
  exact gJ_if_ge hd ht (fun h => kt ((nI_leI (by decide : 0 < 2 ^ 31) ha).mp h)) (fun h => kf (mt (nI_leI (by decide : 0 < 2 ^ 31) ha).mpr h))
theorem gJ_icmp_gtN {a b : Nat} {x y : Int32} {off : Int} {tgt : Nat} (hx : x = nI a) (hy : y = nI b) (ha : a < 2 ^ 31) (hb : b < 2 ^ 31) (hd : decode k.2.1 pc = .ok (.if_icmp .gt off, 3)) (ht : (pc : Int) + off = (tgt : Int)) (kt : b < a → gJ G k d nc ns M tgt lv st Q) (kf : ¬ b < a → gJ G k d nc ns M (pc + 3) lv st Q) : gJ G k d nc ns M pc lv (.int y :: .int x :: st) Q := by
  subst hx
  subst hy
  exact gJ_icmp_gt hd ht (fun h => kt ((nI_ltI hb ha).mp h)) (fun h => kf (mt (nI_ltI hb ha).mpr h))
theorem gJ_if_gtN {a : Nat} {x : Int32} {off : Int} {tgt : Nat} (hx : x = nI a) (ha : a < 2 ^ 31) (hd : decode k.2.1 pc = .ok (.ifCond .gt off, 3)) (ht : (pc : Int) + off = (tgt : Int)) (kt : 0 < a → gJ G k d nc ns M tgt lv st Q) (kf : ¬ 0 < a → gJ G k d nc ns M (pc + 3) lv st Q) : gJ G k d nc ns M pc lv (.int x :: st) Q := by
  subst hx
  exact gJ_if_gt hd ht (fun h => kt ((nI_ltI (by decide : 0 < 2 ^ 31) ha).mp h)) (fun h => kf (mt (nI_ltI (by decide : 0 < 2 ^ 31) ha).mpr h))
theorem gJ_icmp_leN {a b : Nat} {x y : Int32} {off : Int} {tgt : Nat} (hx : x = nI a) (hy : y = nI b) (ha : a < 2 ^ 31) (hb : b < 2 ^ 31) (hd : decode k.2.1 pc = .ok (.if_icmp .le off, 3)) (ht : (pc : Int) + off = (tgt : Int)) (kt : a ≤ b → gJ G k d nc ns M tgt lv st Q) (kf : ¬ a ≤ b → gJ G k d nc ns M (pc + 3) lv st Q) : gJ G k d nc ns M pc lv (.int y :: .int x :: st) Q := by
  subst hx
  subst hy
  exact gJ_icmp_le hd ht (fun h => kt ((nI_leI ha hb).mp h)) (fun h => kf (mt (nI_leI ha hb).mpr h))
theorem gJ_if_leN {a : Nat} {x : Int32} {off : Int} {tgt : Nat} (hx : x = nI a) (ha : a < 2 ^ 31) (hd : decode k.2.1 pc = .ok (.ifCond .le off, 3)) (ht : (pc : Int) + off = (tgt : Int)) (kt : a ≤ 0 → gJ G k d nc ns M tgt lv st Q) (kf : ¬ a ≤ 0 → gJ G k d nc ns M (pc + 3) lv st Q) : gJ G k d nc ns M pc lv (.int x :: st) Q := by
  subst hx
  exact gJ_if_le hd ht (fun h => kt ((nI_leI ha (by decide : 0 < 2 ^ 31)).mp h)) (fun h => kf (mt (nI_leI ha (by decide : 0 < 2 ^ 31)).mpr h))
end GN
theorem all_t {n : Nat} {p : Nat → Bool} (h : ∀ j, j < n → p j = true) : (List.range n).all p = true := List.all_eq_true.mpr (fun x hx => h x (List.mem_range.mp hx))
theorem all_f {n j : Nat} {p : Nat → Bool} (hj : j < n) (h : p j = false) : (List.range n).all p = false := by
  rw [← Bool.not_eq_true]
  intro hh
  have := List.all_eq_true.mp hh j (List.mem_range.mpr hj)
  rw [h] at this
  cases this
theorem any_t {n j : Nat} {p : Nat → Bool} (hj : j < n) (h : p j = true) : (List.range n).any p = true := List.any_eq_true.mpr ⟨j, List.mem_range.mpr hj, h⟩
theorem any_f {n : Nat} {p : Nat → Bool} (h : ∀ j, j < n → p j = false) : (List.range n).any p = false := by
  rw [← Bool.not_eq_true]
  intro hh
  obtain ⟨x, hx, h2⟩ := List.any_eq_true.mp hh
  rw [h x (List.mem_range.mp hx)] at h2
  cases h2
/-- the first place that fits, else -5 -/
def mFind (n : Nat) (p : Nat → Bool) : Int32 := match (List.range n).find? p with
  | some j => nI j
  | none => -5
theorem mFind_hit {n j : Nat} {p : Nat → Bool} (hj : j < n) (h : p j = true) (hb : ∀ i, i < j → p i = false) : mFind n p = nI j := by
  have : (List.range n).find? p = some j := by
    rw [List.find?_range_eq_some]
    exact ⟨h, List.mem_range.mpr hj, fun i hi => by simp [hb i hi]⟩
  simp [mFind, this]
theorem mFind_none {n : Nat} {p : Nat → Bool} (hb : ∀ i, i < n → p i = false) : mFind n p = -5 := by
  have : (List.range n).find? p = none := by
    rw [List.find?_eq_none]
    intro x hx
    simp [hb x (List.mem_range.mp hx)]
  simp [mFind, this]
end
section
/-! THE REFERENCE: its state is one row of ints V and one row of sets; what each reading method answers -/
def mO (m : Nat) (hi tn at_ fa : Int32) : gE := gO 11 [.ref (m + 1), .ref (m + 2), .ref (m + 3), .ref (m + 4), .ref (m + 5), .ref (m + 6), .int hi, .ref (m + 7), .int tn, .int at_, .int fa, .ref (m + 8)]
def mN (V : Nat → Int32) (i : Nat) : Nat := (V i).toNatClampNeg
theorem mN_of {V : Nat → Int32} {i n : Nat} (h : V i = nI n) (hn : n < 2 ^ 31) : mN V i = n := by unfold mN; rw [h, nI_clamp hn]
/-- one matcher, by its code -/
def mMt (V : Nat → Int32) (a mm : Nat) : Bool := decide ((if mm % 64 / 16 = 3 then V (60 + 10 * (a / 12) + 9) else V (0 + 3 * (a % 12) + mm % 64 / 16)) = nI (mm % 16)) != decide (64 ≤ mm)
def mMat (V : Nat → Int32) (a from_ : Nat) : Bool := (List.range (mN V from_)).all fun j => mMt V a (mN V (from_ + (j + 1)))
/-- a sequence of matchers stands there -/
def mMs (V : Nat → Int32) (from_ : Nat) : Prop := from_ ≤ 200 ∧ ∃ n, n ≤ 4 ∧ V from_ = nI n ∧ ∀ j, j < n → ∃ mm, mm < 128 ∧ V (from_ + (j + 1)) = nI mm
section MODEL
variable {G : gG} {M : gM} {m : Nat} {hi tn at_ fa : Int32} {V : Nat → Int32} {S : Nat → Int64}
theorem c12_isIn (x lo hi2 : Int32) : gCon G kX12_isIn 0 0 0 M [.int x, .int lo, .int hi2] (fun M2 v => M2 = M ∧ v = some (.int (gb (decide (lo ≤ x) && decide (x ≤ hi2))))) := by
  refine gCon_of (by decide) (Nat.le_of_ble_eq_true rfl) ?_
  show gJ _ _ _ _ _ _ 0 [(0, _), (1, _), (2, _)] [] _
  refine gJ_iload_n dX12_isIn_0 rfl rfl ?_
  refine gJ_iload_n dX12_isIn_1 rfl rfl ?_
  refine gJ_icmp_lt (tgt := 14) dX12_isIn_2 (by decide) (fun c2 => ?_) (fun c2 => ?_)
  · refine gJ_iconst (v := 0) dX12_isIn_14 (by decide) ?_
    refine gJ_zret dX12_isIn_15 rfl (by first | exact gz0 | exact gz1 | exact gb01 _) ?_
    refine ⟨rfl, ?_⟩
    first | (rw [decide_eq_false (Int32.not_le.mpr c2)]; rfl) | (rw [decide_eq_true (Int32.not_lt.mp c2)]; first | (rw [decide_eq_false (Int32.not_le.mpr c7)]; rfl) | (rw [decide_eq_true (Int32.not_lt.mp c7)]; rfl))
  · refine gJ_iload_n dX12_isIn_5 rfl rfl ?_
    refine gJ_iload_n dX12_isIn_6 rfl rfl ?_
    refine gJ_icmp_gt (tgt := 14) dX12_isIn_7 (by decide) (fun c7 => ?_) (fun c7 => ?_)
    · refine gJ_iconst (v := 0) dX12_isIn_14 (by decide) ?_
      refine gJ_zret dX12_isIn_15 rfl (by first | exact gz0 | exact gz1 | exact gb01 _) ?_
      refine ⟨rfl, ?_⟩
      first | (rw [decide_eq_false (Int32.not_le.mpr c2)]; rfl) | (rw [decide_eq_true (Int32.not_lt.mp c2)]; first | (rw [decide_eq_false (Int32.not_le.mpr c7)]; rfl) | (rw [decide_eq_true (Int32.not_lt.mp c7)]; rfl))
    · refine gJ_iconst (v := 1) dX12_isIn_10 (by decide) ?_
      refine gJ_goto (tgt := 15) dX12_isIn_11 (by decide) ?_
      refine gJ_zret dX12_isIn_15 rfl (by first | exact gz0 | exact gz1 | exact gb01 _) ?_
      refine ⟨rfl, ?_⟩
      first | (rw [decide_eq_false (Int32.not_le.mpr c2)]; rfl) | (rw [decide_eq_true (Int32.not_lt.mp c2)]; first | (rw [decide_eq_false (Int32.not_le.mpr c7)]; rfl) | (rw [decide_eq_true (Int32.not_lt.mp c7)]; rfl))
theorem c12_state (hm : M.1 m = some (mO m hi tn at_ fa)) (hV : M.1 (m + 1) = some (gI 1999 V)) (a : Nat) (ha : a < 60) : gCon G kX12_state 0 0 0 M [.ref m, .int (nI a)] (fun M2 v => M2 = M ∧ v = some (.int (V (206 + 23 * a)))) := by
  refine gCon_of (by decide) (Nat.le_of_ble_eq_true rfl) ?_
  show gJ _ _ _ _ _ _ 0 [(0, _), (1, _)] [] _
  refine gJ_aload_n dX12_state_0 rfl rfl ?_
  refine gJ_get fX12_9 dX12_state_1 (by assumption) rfl ?_
  refine gJ_sipush (v := 206) dX12_state_4 (by decide) ?_
  refine gJ_bipush (v := 23) dX12_state_7 (by decide) ?_
  refine gJ_iload_n dX12_state_9 rfl rfl ?_
  refine gJ_imulN (a := 23) (b := a) dX12_state_10 (by first | with_reducible rfl | rfl) (by first | with_reducible rfl | rfl) ?_
  refine gJ_iaddN (a := 206) (b := (23 * a)) dX12_state_11 (by first | with_reducible rfl | rfl) (by first | with_reducible rfl | rfl) ?_
  refine gJ_ialdN (j := (206 + (23 * a))) dX12_state_12 (by assumption) (by first | with_reducible rfl | rfl) (by omega) (by decide) ?_
  refine gJ_iret dX12_state_13 rfl ?_
  exact ⟨rfl, rfl⟩
set_option maxHeartbeats 2000000 in
theorem c12_matches (hm : M.1 m = some (mO m hi tn at_ fa)) (hV : M.1 (m + 1) = some (gI 1999 V)) (a f : Nat) (ha : a < 60) (hf : mMs V f) : gCon G kX12_matches 0 0 0 M [.ref m, .int (nI a), .int (nI f)] (fun M2 v => M2 = M ∧ v = some (.int (gb (mMat V a f)))) := by
  obtain ⟨hf0, n, hn, hVn, hmm⟩ := hf
  refine gCon_of (by decide) (Nat.le_of_ble_eq_true rfl) ?_
  have hnn := mN_of hVn (by omega)
  have loop : ∀ (q j : Nat), j + q = n → (∀ i, i < j → mMt V a (mN V (f + (i + 1))) = true) →
      gJ G kX12_matches 0 0 0 M 2 [(0, .ref m), (1, .int (nI a)), (2, .int (nI f)), (3, .int (nI (j + 1)))] [] (gQ kX12_matches (fun M2 v => M2 = M ∧ v = some (.int (gb (mMat V a f))))) := by
    intro q
    induction q with
    | zero =>
      intro j hj hp
      refine gJ_iload_n dX12_matches_2 rfl rfl ?_
      refine gJ_aload_n dX12_matches_3 rfl rfl ?_
      refine gJ_get fX12_9 dX12_matches_4 (by assumption) rfl ?_
      refine gJ_iload_n dX12_matches_7 rfl rfl ?_
      refine gJ_ialdN (j := f) dX12_matches_8 (by assumption) (by first | with_reducible rfl | rfl) (by omega) (by decide) ?_
      rw [hVn]
      refine gJ_icmp_gtN (tgt := 115) (a := (j+1)) (b := n) (by first | with_reducible rfl | rfl) (by first | with_reducible rfl | rfl) (by omega) (by omega) dX12_matches_9 (by decide) (fun _ => ?_) (fun c_ => by exfalso; omega)
      refine gJ_iconst (v := 1) dX12_matches_115 (by decide) ?_
      refine gJ_zret dX12_matches_116 rfl (by first | exact gz0 | exact gz1 | exact gb01 _) ?_
      refine ⟨rfl, ?_⟩
      rw [mMat, hnn, all_t (fun i hi => hp i (by omega))]
      rfl
    | succ q ih =>
      intro j hj hp
      obtain ⟨mm, hmm1, hmm2⟩ := hmm j (by omega)
      have hmN := mN_of hmm2 (by omega)
      refine gJ_iload_n dX12_matches_2 rfl rfl ?_
      refine gJ_aload_n dX12_matches_3 rfl rfl ?_
      refine gJ_get fX12_9 dX12_matches_4 (by assumption) rfl ?_
      refine gJ_iload_n dX12_matches_7 rfl rfl ?_
      refine gJ_ialdN (j := f) dX12_matches_8 (by assumption) (by first | with_reducible rfl | rfl) (by omega) (by decide) ?_
      rw [hVn]
      refine gJ_icmp_gtN (tgt := 115) (a := (j+1)) (b := n) (by first | with_reducible rfl | rfl) (by first | with_reducible rfl | rfl) (by omega) (by omega) dX12_matches_9 (by decide) (fun c_ => by exfalso; omega) (fun _ => ?_)
      refine gJ_aload_n dX12_matches_12 rfl rfl ?_
      refine gJ_get fX12_9 dX12_matches_13 (by assumption) rfl ?_
      refine gJ_iload_n dX12_matches_16 rfl rfl ?_
      refine gJ_iload_n dX12_matches_17 rfl rfl ?_
      refine gJ_iaddN (a := f) (b := (j+1)) dX12_matches_18 (by first | with_reducible rfl | rfl) (by first | with_reducible rfl | rfl) ?_
      refine gJ_ialdN (j := (f + (j+1))) dX12_matches_19 (by assumption) (by first | with_reducible rfl | rfl) (by omega) (by decide) ?_
      rw [hmm2]
      refine gJ_istore (lv2 := [(4, _), (0, _), (1, _), (2, _), (3, _)]) dX12_matches_20 rfl rfl ?_
      refine gJ_iload dX12_matches_22 rfl ?_
      refine gJ_bipush (v := 64) dX12_matches_24 (by decide) ?_
      refine gJ_iremN (a := mm) (b := 64) dX12_matches_26 (by first | with_reducible rfl | rfl) (by first | with_reducible rfl | rfl) (by omega) (by decide) ?_
      refine gJ_bipush (v := 16) dX12_matches_27 (by decide) ?_
      refine gJ_idivN (a := (mm % 64)) (b := 16) dX12_matches_29 (by first | with_reducible rfl | rfl) (by first | with_reducible rfl | rfl) (by omega) (by decide) ?_
      refine gJ_istore (lv2 := [(5, _), (4, _), (0, _), (1, _), (2, _), (3, _)]) dX12_matches_30 rfl rfl ?_
      refine gJ_iload dX12_matches_32 rfl ?_
      refine gJ_iconst (v := 3) dX12_matches_34 (by decide) ?_
      refine gJ_icmp_neN (tgt := 59) (a := ((mm % 64) / 16)) (b := 3) (by first | with_reducible rfl | rfl) (by first | with_reducible rfl | rfl) (by omega) (by omega) dX12_matches_35 (by decide) (fun c35 => ?_) (fun c35 => ?_)
      · refine gJ_aload_n dX12_matches_59 rfl rfl ?_
        refine gJ_get fX12_9 dX12_matches_60 (by assumption) rfl ?_
        refine gJ_iconst (v := 0) dX12_matches_63 (by decide) ?_
        refine gJ_iconst (v := 3) dX12_matches_64 (by decide) ?_
        refine gJ_iload_n dX12_matches_65 rfl rfl ?_
        refine gJ_bipush (v := 12) dX12_matches_66 (by decide) ?_
        refine gJ_iremN (a := a) (b := 12) dX12_matches_68 (by first | with_reducible rfl | rfl) (by first | with_reducible rfl | rfl) (by omega) (by decide) ?_
        refine gJ_imulN (a := 3) (b := (a % 12)) dX12_matches_69 (by first | with_reducible rfl | rfl) (by first | with_reducible rfl | rfl) ?_
        refine gJ_iaddN (a := 0) (b := (3 * (a % 12))) dX12_matches_70 (by first | with_reducible rfl | rfl) (by first | with_reducible rfl | rfl) ?_
        refine gJ_iload dX12_matches_71 rfl ?_
        refine gJ_iaddN (a := (0 + (3 * (a % 12)))) (b := ((mm % 64) / 16)) dX12_matches_73 (by first | with_reducible rfl | rfl) (by first | with_reducible rfl | rfl) ?_
        refine gJ_ialdN (j := ((0 + (3 * (a % 12))) + ((mm % 64) / 16))) dX12_matches_74 (by assumption) (by first | with_reducible rfl | rfl) (by omega) (by decide) ?_
        refine gJ_istore (lv2 := [(6, _), (5, _), (4, _), (0, _), (1, _), (2, _), (3, _)]) dX12_matches_75 rfl rfl ?_
        refine gJ_iload dX12_matches_77 rfl ?_
        refine gJ_iload dX12_matches_79 rfl ?_
        refine gJ_bipush (v := 16) dX12_matches_81 (by decide) ?_
        refine gJ_iremN (a := mm) (b := 16) dX12_matches_83 (by first | with_reducible rfl | rfl) (by first | with_reducible rfl | rfl) (by omega) (by decide) ?_
        refine gJ_icmp_ne (tgt := 91) dX12_matches_84 (by decide) (fun c84 => ?_) (fun c84 => ?_)
        · refine gJ_iconst (v := 0) dX12_matches_91 (by decide) ?_
          refine gJ_iload dX12_matches_92 rfl ?_
          refine gJ_bipush (v := 64) dX12_matches_94 (by decide) ?_
          refine gJ_icmp_ltN (tgt := 103) (a := mm) (b := 64) (by first | with_reducible rfl | rfl) (by first | with_reducible rfl | rfl) (by omega) (by omega) dX12_matches_96 (by decide) (fun c96 => ?_) (fun c96 => ?_)
          · refine gJ_iconst (v := 0) dX12_matches_103 (by decide) ?_
            refine gJ_icmp_neN (tgt := 109) (a := 0) (b := 0) (by first | with_reducible rfl | rfl) (by first | with_reducible rfl | rfl) (by omega) (by omega) dX12_matches_104 (by decide) (fun c_ => by exfalso; omega) (fun _ => ?_)
            refine gJ_iconst (v := 0) dX12_matches_107 (by decide) ?_
            refine gJ_zret dX12_matches_108 rfl (by first | exact gz0 | exact gz1 | exact gb01 _) ?_
            refine ⟨rfl, ?_⟩
            rw [mMat, hnn, all_f (j := j) (by omega) ?_]
            · rfl
            · rw [hmN]; by_cases h_ : 64 ≤ mm <;> simp only [mMt, c35, c84, h_, ↓reduceIte, decide_true, decide_false] <;> first | rfl | omega
          · refine gJ_iconst (v := 1) dX12_matches_99 (by decide) ?_
            refine gJ_goto (tgt := 104) dX12_matches_100 (by decide) ?_
            refine gJ_icmp_neN (tgt := 109) (a := 0) (b := 1) (by first | with_reducible rfl | rfl) (by first | with_reducible rfl | rfl) (by omega) (by omega) dX12_matches_104 (by decide) (fun _ => ?_) (fun c_ => by exfalso; omega)
            refine gJ_iincN (a := (j+1)) (b := 1) (lv2 := [(3, _), (6, _), (5, _), (4, _), (0, _), (1, _), (2, _)]) dX12_matches_109 rfl rfl rfl rfl ?_
            refine gJ_goto (tgt := 2) dX12_matches_112 (by decide) ?_
            refine gJ_ls (ih (j + 1) (by omega) ?_) ⟨rfl, rfl, rfl, rfl, trivial⟩
            intro i hi
            rcases Nat.lt_succ_iff_lt_or_eq.mp hi with h | rfl
            · exact hp i h
            · rw [hmN]; by_cases h_ : 64 ≤ mm <;> simp only [mMt, c35, c84, h_, ↓reduceIte, decide_true, decide_false] <;> first | rfl | omega
        · refine gJ_iconst (v := 1) dX12_matches_87 (by decide) ?_
          refine gJ_goto (tgt := 92) dX12_matches_88 (by decide) ?_
          refine gJ_iload dX12_matches_92 rfl ?_
          refine gJ_bipush (v := 64) dX12_matches_94 (by decide) ?_
          refine gJ_icmp_ltN (tgt := 103) (a := mm) (b := 64) (by first | with_reducible rfl | rfl) (by first | with_reducible rfl | rfl) (by omega) (by omega) dX12_matches_96 (by decide) (fun c96 => ?_) (fun c96 => ?_)
          · refine gJ_iconst (v := 0) dX12_matches_103 (by decide) ?_
            refine gJ_icmp_neN (tgt := 109) (a := 1) (b := 0) (by first | with_reducible rfl | rfl) (by first | with_reducible rfl | rfl) (by omega) (by omega) dX12_matches_104 (by decide) (fun _ => ?_) (fun c_ => by exfalso; omega)
            refine gJ_iincN (a := (j+1)) (b := 1) (lv2 := [(3, _), (6, _), (5, _), (4, _), (0, _), (1, _), (2, _)]) dX12_matches_109 rfl rfl rfl rfl ?_
            refine gJ_goto (tgt := 2) dX12_matches_112 (by decide) ?_
            refine gJ_ls (ih (j + 1) (by omega) ?_) ⟨rfl, rfl, rfl, rfl, trivial⟩
            intro i hi
            rcases Nat.lt_succ_iff_lt_or_eq.mp hi with h | rfl
            · exact hp i h
            · rw [hmN]; by_cases h_ : 64 ≤ mm <;> simp only [mMt, c35, c84, h_, ↓reduceIte, decide_true, decide_false] <;> first | rfl | omega
          · refine gJ_iconst (v := 1) dX12_matches_99 (by decide) ?_
            refine gJ_goto (tgt := 104) dX12_matches_100 (by decide) ?_
            refine gJ_icmp_neN (tgt := 109) (a := 1) (b := 1) (by first | with_reducible rfl | rfl) (by first | with_reducible rfl | rfl) (by omega) (by omega) dX12_matches_104 (by decide) (fun c_ => by exfalso; omega) (fun _ => ?_)
            refine gJ_iconst (v := 0) dX12_matches_107 (by decide) ?_
            refine gJ_zret dX12_matches_108 rfl (by first | exact gz0 | exact gz1 | exact gb01 _) ?_
            refine ⟨rfl, ?_⟩
            rw [mMat, hnn, all_f (j := j) (by omega) ?_]
            · rfl
            · rw [hmN]; by_cases h_ : 64 ≤ mm <;> simp only [mMt, c35, c84, h_, ↓reduceIte, decide_true, decide_false] <;> first | rfl | omega
      · refine gJ_aload_n dX12_matches_38 rfl rfl ?_
        refine gJ_get fX12_9 dX12_matches_39 (by assumption) rfl ?_
        refine gJ_bipush (v := 60) dX12_matches_42 (by decide) ?_
        refine gJ_bipush (v := 10) dX12_matches_44 (by decide) ?_
        refine gJ_iload_n dX12_matches_46 rfl rfl ?_
        refine gJ_bipush (v := 12) dX12_matches_47 (by decide) ?_
        refine gJ_idivN (a := a) (b := 12) dX12_matches_49 (by first | with_reducible rfl | rfl) (by first | with_reducible rfl | rfl) (by omega) (by decide) ?_
        refine gJ_imulN (a := 10) (b := (a / 12)) dX12_matches_50 (by first | with_reducible rfl | rfl) (by first | with_reducible rfl | rfl) ?_
        refine gJ_iaddN (a := 60) (b := (10 * (a / 12))) dX12_matches_51 (by first | with_reducible rfl | rfl) (by first | with_reducible rfl | rfl) ?_
        refine gJ_bipush (v := 9) dX12_matches_52 (by decide) ?_
        refine gJ_iaddN (a := (60 + (10 * (a / 12)))) (b := 9) dX12_matches_54 (by first | with_reducible rfl | rfl) (by first | with_reducible rfl | rfl) ?_
        refine gJ_ialdN (j := ((60 + (10 * (a / 12))) + 9)) dX12_matches_55 (by assumption) (by first | with_reducible rfl | rfl) (by omega) (by decide) ?_
        refine gJ_goto (tgt := 75) dX12_matches_56 (by decide) ?_
        refine gJ_istore (lv2 := [(6, _), (5, _), (4, _), (0, _), (1, _), (2, _), (3, _)]) dX12_matches_75 rfl rfl ?_
        refine gJ_iload dX12_matches_77 rfl ?_
        refine gJ_iload dX12_matches_79 rfl ?_
        refine gJ_bipush (v := 16) dX12_matches_81 (by decide) ?_
        refine gJ_iremN (a := mm) (b := 16) dX12_matches_83 (by first | with_reducible rfl | rfl) (by first | with_reducible rfl | rfl) (by omega) (by decide) ?_
        refine gJ_icmp_ne (tgt := 91) dX12_matches_84 (by decide) (fun c84 => ?_) (fun c84 => ?_)
        · refine gJ_iconst (v := 0) dX12_matches_91 (by decide) ?_
          refine gJ_iload dX12_matches_92 rfl ?_
          refine gJ_bipush (v := 64) dX12_matches_94 (by decide) ?_
          refine gJ_icmp_ltN (tgt := 103) (a := mm) (b := 64) (by first | with_reducible rfl | rfl) (by first | with_reducible rfl | rfl) (by omega) (by omega) dX12_matches_96 (by decide) (fun c96 => ?_) (fun c96 => ?_)
          · refine gJ_iconst (v := 0) dX12_matches_103 (by decide) ?_
            refine gJ_icmp_neN (tgt := 109) (a := 0) (b := 0) (by first | with_reducible rfl | rfl) (by first | with_reducible rfl | rfl) (by omega) (by omega) dX12_matches_104 (by decide) (fun c_ => by exfalso; omega) (fun _ => ?_)
            refine gJ_iconst (v := 0) dX12_matches_107 (by decide) ?_
            refine gJ_zret dX12_matches_108 rfl (by first | exact gz0 | exact gz1 | exact gb01 _) ?_
            refine ⟨rfl, ?_⟩
            rw [mMat, hnn, all_f (j := j) (by omega) ?_]
            · rfl
            · rw [hmN]; by_cases h_ : 64 ≤ mm <;> simp only [mMt, c35, c84, h_, ↓reduceIte, decide_true, decide_false] <;> first | rfl | omega
          · refine gJ_iconst (v := 1) dX12_matches_99 (by decide) ?_
            refine gJ_goto (tgt := 104) dX12_matches_100 (by decide) ?_
            refine gJ_icmp_neN (tgt := 109) (a := 0) (b := 1) (by first | with_reducible rfl | rfl) (by first | with_reducible rfl | rfl) (by omega) (by omega) dX12_matches_104 (by decide) (fun _ => ?_) (fun c_ => by exfalso; omega)
            refine gJ_iincN (a := (j+1)) (b := 1) (lv2 := [(3, _), (6, _), (5, _), (4, _), (0, _), (1, _), (2, _)]) dX12_matches_109 rfl rfl rfl rfl ?_
            refine gJ_goto (tgt := 2) dX12_matches_112 (by decide) ?_
            refine gJ_ls (ih (j + 1) (by omega) ?_) ⟨rfl, rfl, rfl, rfl, trivial⟩
            intro i hi
            rcases Nat.lt_succ_iff_lt_or_eq.mp hi with h | rfl
            · exact hp i h
            · rw [hmN]; by_cases h_ : 64 ≤ mm <;> simp only [mMt, c35, c84, h_, ↓reduceIte, decide_true, decide_false] <;> first | rfl | omega
        · refine gJ_iconst (v := 1) dX12_matches_87 (by decide) ?_
          refine gJ_goto (tgt := 92) dX12_matches_88 (by decide) ?_
          refine gJ_iload dX12_matches_92 rfl ?_
          refine gJ_bipush (v := 64) dX12_matches_94 (by decide) ?_
          refine gJ_icmp_ltN (tgt := 103) (a := mm) (b := 64) (by first | with_reducible rfl | rfl) (by first | with_reducible rfl | rfl) (by omega) (by omega) dX12_matches_96 (by decide) (fun c96 => ?_) (fun c96 => ?_)
          · refine gJ_iconst (v := 0) dX12_matches_103 (by decide) ?_
            refine gJ_icmp_neN (tgt := 109) (a := 1) (b := 0) (by first | with_reducible rfl | rfl) (by first | with_reducible rfl | rfl) (by omega) (by omega) dX12_matches_104 (by decide) (fun _ => ?_) (fun c_ => by exfalso; omega)
            refine gJ_iincN (a := (j+1)) (b := 1) (lv2 := [(3, _), (6, _), (5, _), (4, _), (0, _), (1, _), (2, _)]) dX12_matches_109 rfl rfl rfl rfl ?_
            refine gJ_goto (tgt := 2) dX12_matches_112 (by decide) ?_
            refine gJ_ls (ih (j + 1) (by omega) ?_) ⟨rfl, rfl, rfl, rfl, trivial⟩
            intro i hi
            rcases Nat.lt_succ_iff_lt_or_eq.mp hi with h | rfl
            · exact hp i h
            · rw [hmN]; by_cases h_ : 64 ≤ mm <;> simp only [mMt, c35, c84, h_, ↓reduceIte, decide_true, decide_false] <;> first | rfl | omega
          · refine gJ_iconst (v := 1) dX12_matches_99 (by decide) ?_
            refine gJ_goto (tgt := 104) dX12_matches_100 (by decide) ?_
            refine gJ_icmp_neN (tgt := 109) (a := 1) (b := 1) (by first | with_reducible rfl | rfl) (by first | with_reducible rfl | rfl) (by omega) (by omega) dX12_matches_104 (by decide) (fun c_ => by exfalso; omega) (fun _ => ?_)
            refine gJ_iconst (v := 0) dX12_matches_107 (by decide) ?_
            refine gJ_zret dX12_matches_108 rfl (by first | exact gz0 | exact gz1 | exact gb01 _) ?_
            refine ⟨rfl, ?_⟩
            rw [mMat, hnn, all_f (j := j) (by omega) ?_]
            · rfl
            · rw [hmN]; by_cases h_ : 64 ≤ mm <;> simp only [mMt, c35, c84, h_, ↓reduceIte, decide_true, decide_false] <;> first | rfl | omega
  show gJ _ _ _ _ _ _ 0 [(0, _), (1, _), (2, _)] [] _
  refine gJ_iconst (v := 1) dX12_matches_0 (by decide) ?_
  refine gJ_istore_n (lv2 := [(3, _), (0, _), (1, _), (2, _)]) dX12_matches_1 rfl rfl rfl ?_
  exact gJ_ls (loop n 0 (by omega) (fun i hi => absurd hi (by omega))) ⟨rfl, rfl, rfl, rfl, trivial⟩
end MODEL
end
section
/-- what holds of the reference's row at any time -/
def mB (V : Nat → Int32) (i n : Nat) : Prop := ∃ x, x ≤ n ∧ V i = nI x
def mI (V : Nat → Int32) : Prop :=
  (∀ i, i < 36 → mB V i (if i % 3 = 1 then 7 else 3)) ∧ (∀ s, s < 12 → mB V (48 + s) 1) ∧
  (∀ r, r < 5 → mB V (60 + 10 * r) 1 ∧ mMs V (60 + 10 * r + 1) ∧ mB V (60 + 10 * r + 6) 2 ∧ mB V (60 + 10 * r + 8) 9999 ∧ mB V (60 + 10 * r + 9) 3) ∧
  (∀ k, k < 6 → mB V (110 + 8 * k) 1 ∧ mMs V (110 + 8 * k + 1)) ∧
  (∀ k, k < 4 → mB V (158 + 12 * k) 1 ∧ mMs V (158 + 12 * k + 1) ∧ mMs V (158 + 12 * k + 6) ∧ mB V (158 + 12 * k + 11) 7) ∧
  (∀ a, a < 60 → mB V (206 + 23 * a) 2 ∧ mB V (206 + 23 * a + 2) 20) ∧
  (∀ k, k < 128 → mB V (1586 + 2 * k) 1) ∧
  mB V 1842 60 ∧ mB V 1843 999 ∧ mB V 1844 999 ∧ mB V 1845 20 ∧ mB V 1846 7
def mHolds (V : Nat → Int32) (a : Nat) : Bool := !(decide (V (60 + 10 * (a / 12)) = 0)) && (!(decide (V (48 + a % 12) = 0)) && (mMat V a (60 + 10 * (a / 12) + 1) &&
  (if V (60 + 10 * (a / 12) + 6) = 0 then !(decide (V (60 + 10 * (a / 12) + 7) ≤ V (36 + a % 12))) else if V (60 + 10 * (a / 12) + 6) = 1 then !(decide (V (36 + a % 12) ≤ V (60 + 10 * (a / 12) + 7))) else decide (V (36 + a % 12) = V (60 + 10 * (a / 12) + 7)))))
def mSil (V : Nat → Int32) (a k : Nat) : Bool := decide (V (110 + 8 * k) = 1) && (!(decide (V 1847 < V (110 + 8 * k + 6))) && (!(decide (V (110 + 8 * k + 6) + V (110 + 8 * k + 7) ≤ V 1847)) && mMat V a (110 + 8 * k + 1)))
def mSilOf (V : Nat → Int32) (a : Nat) : Int32 := mFind 6 (mSil V a)
def mSame (V : Nat → Int32) (a b k l : Nat) : Bool := decide (V (158 + 12 * k + 11) >>> (nI l &&& 31) &&& 1 = 0) || decide (V (0 + 3 * (a % 12) + l) = V (0 + 3 * (b % 12) + l))
def mInhK (V : Nat → Int32) (a b k : Nat) : Bool := !(decide (V (158 + 12 * k) = 0)) && (mMat V b (158 + 12 * k + 1) && (mMat V a (158 + 12 * k + 6) && (List.range 3).all (mSame V a b k)))
def mInh (V : Nat → Int32) (a b : Nat) : Bool := (List.range 4).any (mInhK V a b)
def mInhP (V : Nat → Int32) (a b : Nat) : Bool := !(decide (b = a)) && (decide (V (206 + 23 * b) = 2) && mInh V a b)
def mInhOf (V : Nat → Int32) (a : Nat) : Int32 := if V (206 + 23 * a) = 2 then mFind 60 (mInhP V a) else -5
def mLate (V : Nat → Int32) (a j : Nat) : Bool := !(decide (V (206 + 23 * a + 3 + j) ≤ V 1847 - V 1844))
def mFlaps (V : Nat → Int32) (a : Nat) : Nat := (List.range (mN V (206 + 23 * a + 2))).countP (mLate V a)
def mFlapping (V : Nat → Int32) (a : Nat) : Bool := !(decide (nI (mFlaps V a) < V 1845))
def mAct (V : Nat → Int32) (a : Nat) : Bool := decide (V (206 + 23 * a) = 2) && (!(decide (0 ≤ mSilOf V a)) && (!(mFlapping V a) && !(decide (0 ≤ mInhOf V a))))
def mKey (V : Nat → Int32) (a : Nat) : Int32 := (32 : Int32) * V (0 + 3 * (a % 12)) * (V 1846 &&& 1) + (4 : Int32) * V (0 + 3 * (a % 12) + 1) * (V 1846 >>> ((1 : Int32) &&& 31) &&& 1) + V (0 + 3 * (a % 12) + 2) * (V 1846 >>> ((2 : Int32) &&& 31))
section MODEL
variable {G : gG} {M : gM} {m : Nat} {hi tn at_ fa : Int32} {V : Nat → Int32} {S : Nat → Int64}
theorem c12_isSilencedBy (hm : M.1 m = some (mO m hi tn at_ fa)) (hV : M.1 (m + 1) = some (gI 1999 V)) (hI : mI V) (a k : Nat) (ha : a < 60) (hk : k < 6) : gCon G kX12_isSilencedBy 1 0 0 M [.ref m, .int (nI a), .int (nI k)] (fun M2 v => M2 = M ∧ v = some (.int (gb (mSil V a k)))) := by
  refine gCon_of (by decide) (Nat.le_of_ble_eq_true rfl) ?_
  show gJ _ _ _ _ _ _ 0 [(0, _), (1, _), (2, _)] [] _
  refine gJ_bipush (v := 110) dX12_isSilencedBy_0 (by decide) ?_
  refine gJ_bipush (v := 8) dX12_isSilencedBy_2 (by decide) ?_
  refine gJ_iload_n dX12_isSilencedBy_4 rfl rfl ?_
  refine gJ_imulN (a := 8) (b := k) dX12_isSilencedBy_5 (by first | with_reducible rfl | rfl) (by first | with_reducible rfl | rfl) ?_
  refine gJ_iaddN (a := 110) (b := (8 * k)) dX12_isSilencedBy_6 (by first | with_reducible rfl | rfl) (by first | with_reducible rfl | rfl) ?_
  refine gJ_istore_n (lv2 := [(3, _), (0, _), (1, _), (2, _)]) dX12_isSilencedBy_7 rfl rfl rfl ?_
  refine gJ_aload_n dX12_isSilencedBy_8 rfl rfl ?_
  refine gJ_get fX12_9 dX12_isSilencedBy_9 (by assumption) rfl ?_
  refine gJ_iload_n dX12_isSilencedBy_12 rfl rfl ?_
  refine gJ_ialdN (j := (110 + (8 * k))) dX12_isSilencedBy_13 (by assumption) (by first | with_reducible rfl | rfl) (by omega) (by decide) ?_
  refine gJ_iconst (v := 1) dX12_isSilencedBy_14 (by decide) ?_
  refine gJ_icmp_ne (tgt := 83) dX12_isSilencedBy_15 (by decide) (fun c15 => ?_) (fun c15 => ?_)
  · refine gJ_iconst (v := 0) dX12_isSilencedBy_83 (by decide) ?_
    refine gJ_zret dX12_isSilencedBy_84 rfl (by first | exact gz0 | exact gz1 | exact gb01 _) ?_
    refine ⟨rfl, ?_⟩
    simp [mSil, *, gb]
  · refine gJ_aload_n dX12_isSilencedBy_18 rfl rfl ?_
    refine gJ_get fX12_9 dX12_isSilencedBy_19 (by assumption) rfl ?_
    refine gJ_iload_n dX12_isSilencedBy_22 rfl rfl ?_
    refine gJ_bipush (v := 6) dX12_isSilencedBy_23 (by decide) ?_
    refine gJ_iaddN (a := (110 + (8 * k))) (b := 6) dX12_isSilencedBy_25 (by first | with_reducible rfl | rfl) (by first | with_reducible rfl | rfl) ?_
    refine gJ_ialdN (j := ((110 + (8 * k)) + 6)) dX12_isSilencedBy_26 (by assumption) (by first | with_reducible rfl | rfl) (by omega) (by decide) ?_
    refine gJ_aload_n dX12_isSilencedBy_27 rfl rfl ?_
    refine gJ_get fX12_9 dX12_isSilencedBy_28 (by assumption) rfl ?_
    refine gJ_sipush (v := 1847) dX12_isSilencedBy_31 (by decide) ?_
    refine gJ_ialdN (j := 1847) dX12_isSilencedBy_34 (by assumption) (by first | with_reducible rfl | rfl) (by omega) (by decide) ?_
    refine gJ_icmp_gt (tgt := 83) dX12_isSilencedBy_35 (by decide) (fun c35 => ?_) (fun c35 => ?_)
    · refine gJ_iconst (v := 0) dX12_isSilencedBy_83 (by decide) ?_
      refine gJ_zret dX12_isSilencedBy_84 rfl (by first | exact gz0 | exact gz1 | exact gb01 _) ?_
      refine ⟨rfl, ?_⟩
      simp [mSil, *, gb]
    · refine gJ_aload_n dX12_isSilencedBy_38 rfl rfl ?_
      refine gJ_get fX12_9 dX12_isSilencedBy_39 (by assumption) rfl ?_
      refine gJ_sipush (v := 1847) dX12_isSilencedBy_42 (by decide) ?_
      refine gJ_ialdN (j := 1847) dX12_isSilencedBy_45 (by assumption) (by first | with_reducible rfl | rfl) (by omega) (by decide) ?_
      refine gJ_aload_n dX12_isSilencedBy_46 rfl rfl ?_
      refine gJ_get fX12_9 dX12_isSilencedBy_47 (by assumption) rfl ?_
      refine gJ_iload_n dX12_isSilencedBy_50 rfl rfl ?_
      refine gJ_bipush (v := 6) dX12_isSilencedBy_51 (by decide) ?_
      refine gJ_iaddN (a := (110 + (8 * k))) (b := 6) dX12_isSilencedBy_53 (by first | with_reducible rfl | rfl) (by first | with_reducible rfl | rfl) ?_
      refine gJ_ialdN (j := ((110 + (8 * k)) + 6)) dX12_isSilencedBy_54 (by assumption) (by first | with_reducible rfl | rfl) (by omega) (by decide) ?_
      refine gJ_aload_n dX12_isSilencedBy_55 rfl rfl ?_
      refine gJ_get fX12_9 dX12_isSilencedBy_56 (by assumption) rfl ?_
      refine gJ_iload_n dX12_isSilencedBy_59 rfl rfl ?_
      refine gJ_bipush (v := 7) dX12_isSilencedBy_60 (by decide) ?_
      refine gJ_iaddN (a := (110 + (8 * k))) (b := 7) dX12_isSilencedBy_62 (by first | with_reducible rfl | rfl) (by first | with_reducible rfl | rfl) ?_
      refine gJ_ialdN (j := ((110 + (8 * k)) + 7)) dX12_isSilencedBy_63 (by assumption) (by first | with_reducible rfl | rfl) (by omega) (by decide) ?_
      refine gJ_iadd dX12_isSilencedBy_64 ?_
      refine gJ_icmp_ge (tgt := 83) dX12_isSilencedBy_65 (by decide) (fun c65 => ?_) (fun c65 => ?_)
      · refine gJ_iconst (v := 0) dX12_isSilencedBy_83 (by decide) ?_
        refine gJ_zret dX12_isSilencedBy_84 rfl (by first | exact gz0 | exact gz1 | exact gb01 _) ?_
        refine ⟨rfl, ?_⟩
        simp [mSil, *, gb]
      · refine gJ_aload_n dX12_isSilencedBy_68 rfl rfl ?_
        refine gJ_iload_n dX12_isSilencedBy_69 rfl rfl ?_
        refine gJ_iload_n dX12_isSilencedBy_70 rfl rfl ?_
        refine gJ_iconst (v := 1) dX12_isSilencedBy_71 (by decide) ?_
        refine gJ_iaddN (a := (110 + (8 * k))) (b := 1) dX12_isSilencedBy_72 (by first | with_reducible rfl | rfl) (by first | with_reducible rfl | rfl) ?_
        refine gJ_callV (As := [_, _]) b_X12_matches lX12_98 i_X12_matches s_X12_matches dX12_isSilencedBy_73 (c12_matches hm hV a (110 + 8 * k + 1) ha (hI.2.2.2.1 k hk).2) (by assumption) rfl rfl (by decide) rfl (by decide) (fun M73 v_ h73 => ?_)
        obtain ⟨rfl, rfl⟩ := h73
        refine gJ_if_eqB (tgt := 83) dX12_isSilencedBy_76 (by decide) (fun c76 => ?_) (fun c76 => ?_)
        · refine gJ_iconst (v := 0) dX12_isSilencedBy_83 (by decide) ?_
          refine gJ_zret dX12_isSilencedBy_84 rfl (by first | exact gz0 | exact gz1 | exact gb01 _) ?_
          refine ⟨rfl, ?_⟩
          simp [mSil, *, gb]
        · refine gJ_iconst (v := 1) dX12_isSilencedBy_79 (by decide) ?_
          refine gJ_goto (tgt := 84) dX12_isSilencedBy_80 (by decide) ?_
          refine gJ_zret dX12_isSilencedBy_84 rfl (by first | exact gz0 | exact gz1 | exact gb01 _) ?_
          refine ⟨rfl, ?_⟩
          simp [mSil, *, gb]
theorem c12_silenceOf (hm : M.1 m = some (mO m hi tn at_ fa)) (hV : M.1 (m + 1) = some (gI 1999 V)) (hI : mI V) (a : Nat) (ha : a < 60) : gCon G kX12_silenceOf 2 0 0 M [.ref m, .int (nI a)] (fun M2 v => M2 = M ∧ v = some (.int (mSilOf V a))) := by
  refine gCon_of (by decide) (Nat.le_of_ble_eq_true rfl) ?_
  have loop : ∀ (q j : Nat), j + q = 7 → j ≤ 6 → (∀ i, i < j → mSil V a i = false) →
      gJ G kX12_silenceOf 2 0 0 M 2 [(2, .int (nI j)), (0, .ref m), (1, .int (nI a))] [] (gQ kX12_silenceOf (fun M2 v => M2 = M ∧ v = some (.int (mSilOf V a)))) := by
    intro q
    induction q with
    | zero => intro j h1 h2; exact absurd h1 (by omega)
    | succ q ih =>
      intro j hq hj hp
      refine gJ_iload_n dX12_silenceOf_2 rfl rfl ?_
      refine gJ_bipush (v := 6) dX12_silenceOf_3 (by decide) ?_
      refine gJ_icmp_geN (tgt := 25) (a := j) (b := 6) (by first | with_reducible rfl | rfl) (by first | with_reducible rfl | rfl) (by omega) (by omega) dX12_silenceOf_5 (by decide) (fun c5 => ?_) (fun c5 => ?_)
      · refine gJ_bipush (v := -5) dX12_silenceOf_25 (by decide) ?_
        refine gJ_iret dX12_silenceOf_27 rfl ?_
        refine ⟨rfl, ?_⟩
        rw [mSilOf, mFind_none (fun i hi => hp i (by omega))]
      · refine gJ_aload_n dX12_silenceOf_8 rfl rfl ?_
        refine gJ_iload_n dX12_silenceOf_9 rfl rfl ?_
        refine gJ_iload_n dX12_silenceOf_10 rfl rfl ?_
        refine gJ_callV (As := [_, _]) b_X12_isSilencedBy lX12_101 i_X12_isSilencedBy s_X12_isSilencedBy dX12_silenceOf_11 (c12_isSilencedBy hm hV hI a j ha (by omega)) (by assumption) rfl rfl (by decide) rfl (by decide) (fun M11 v_ h11 => ?_)
        obtain ⟨rfl, rfl⟩ := h11
        refine gJ_if_eqB (tgt := 19) dX12_silenceOf_14 (by decide) (fun c14 => ?_) (fun c14 => ?_)
        · refine gJ_iincN (a := j) (b := 1) (lv2 := [(2, _), (0, _), (1, _)]) dX12_silenceOf_19 rfl rfl rfl rfl ?_
          refine gJ_goto (tgt := 2) dX12_silenceOf_22 (by decide) ?_
          refine gJ_ls (ih (j + 1) (by omega) (by omega) ?_) ⟨rfl, rfl, rfl, trivial⟩
          intro i hi
          rcases Nat.lt_succ_iff_lt_or_eq.mp hi with h | rfl
          · exact hp i h
          · exact c14
        · refine gJ_iload_n dX12_silenceOf_17 rfl rfl ?_
          refine gJ_iret dX12_silenceOf_18 rfl ?_
          refine ⟨rfl, ?_⟩
          rw [mSilOf, mFind_hit (by omega) c14 hp]
  show gJ _ _ _ _ _ _ 0 [(0, _), (1, _)] [] _
  refine gJ_iconst (v := 0) dX12_silenceOf_0 (by decide) ?_
  refine gJ_istore_n (lv2 := [(2, _), (0, _), (1, _)]) dX12_silenceOf_1 rfl rfl rfl ?_
  exact gJ_ls (loop 7 0 (by omega) (by omega) (fun i hi => absurd hi (by omega))) ⟨rfl, rfl, rfl, trivial⟩
theorem c12_flaps (hm : M.1 m = some (mO m hi tn at_ fa)) (hV : M.1 (m + 1) = some (gI 1999 V)) (hI : mI V) (a : Nat) (ha : a < 60) : gCon G kX12_flaps 0 0 0 M [.ref m, .int (nI a)] (fun M2 v => M2 = M ∧ v = some (.int (nI (mFlaps V a)))) := by
  obtain ⟨n, hn, hVn⟩ := (hI.2.2.2.2.2.1 a ha).2
  have hnn := mN_of hVn (by omega)
  refine gCon_of (by decide) (Nat.le_of_ble_eq_true rfl) ?_
  have loop : ∀ (q j c : Nat), j + q = n + 1 → j ≤ n → c = (List.range j).countP (mLate V a) → c ≤ j →
      gJ G kX12_flaps 0 0 0 M 14 [(4, .int (nI j)), (3, .int (nI c)), (2, .int (nI (206 + 23 * a))), (0, .ref m), (1, .int (nI a))] [] (gQ kX12_flaps (fun M2 v => M2 = M ∧ v = some (.int (nI (mFlaps V a))))) := by
    intro q
    induction q with
    | zero => intro j c h1 h2; exact absurd h1 (by omega)
    | succ q ih =>
      intro j c hq hj hp hc
      refine gJ_iload dX12_flaps_14 rfl ?_
      refine gJ_aload_n dX12_flaps_16 rfl rfl ?_
      refine gJ_get fX12_9 dX12_flaps_17 (by assumption) rfl ?_
      refine gJ_iload_n dX12_flaps_20 rfl rfl ?_
      refine gJ_iconst (v := 2) dX12_flaps_21 (by decide) ?_
      refine gJ_iaddN (a := (206+23*a)) (b := 2) dX12_flaps_22 (by first | with_reducible rfl | rfl) (by first | with_reducible rfl | rfl) ?_
      refine gJ_ialdN (j := ((206+23*a) + 2)) dX12_flaps_23 (by assumption) (by first | with_reducible rfl | rfl) (by omega) (by decide) ?_
      rw [hVn]
      refine gJ_icmp_geN (tgt := 72) (a := j) (b := n) (by first | with_reducible rfl | rfl) (by first | with_reducible rfl | rfl) (by omega) (by omega) dX12_flaps_24 (by decide) (fun c24 => ?_) (fun c24 => ?_)
      · refine gJ_iload_n dX12_flaps_72 rfl rfl ?_
        refine gJ_iret dX12_flaps_73 rfl ?_
        refine ⟨rfl, ?_⟩
        rw [mFlaps, hnn, hp, show j = n by omega]
      · refine gJ_iload_n dX12_flaps_27 rfl rfl ?_
        refine gJ_aload_n dX12_flaps_28 rfl rfl ?_
        refine gJ_get fX12_9 dX12_flaps_29 (by assumption) rfl ?_
        refine gJ_iload_n dX12_flaps_32 rfl rfl ?_
        refine gJ_iconst (v := 3) dX12_flaps_33 (by decide) ?_
        refine gJ_iaddN (a := (206+23*a)) (b := 3) dX12_flaps_34 (by first | with_reducible rfl | rfl) (by first | with_reducible rfl | rfl) ?_
        refine gJ_iload dX12_flaps_35 rfl ?_
        refine gJ_iaddN (a := ((206+23*a) + 3)) (b := j) dX12_flaps_37 (by first | with_reducible rfl | rfl) (by first | with_reducible rfl | rfl) ?_
        refine gJ_ialdN (j := (((206+23*a) + 3) + j)) dX12_flaps_38 (by assumption) (by first | with_reducible rfl | rfl) (by omega) (by decide) ?_
        refine gJ_aload_n dX12_flaps_39 rfl rfl ?_
        refine gJ_get fX12_9 dX12_flaps_40 (by assumption) rfl ?_
        refine gJ_sipush (v := 1847) dX12_flaps_43 (by decide) ?_
        refine gJ_ialdN (j := 1847) dX12_flaps_46 (by assumption) (by first | with_reducible rfl | rfl) (by omega) (by decide) ?_
        refine gJ_aload_n dX12_flaps_47 rfl rfl ?_
        refine gJ_get fX12_9 dX12_flaps_48 (by assumption) rfl ?_
        refine gJ_sipush (v := 1844) dX12_flaps_51 (by decide) ?_
        refine gJ_ialdN (j := 1844) dX12_flaps_54 (by assumption) (by first | with_reducible rfl | rfl) (by omega) (by decide) ?_
        refine gJ_isub dX12_flaps_55 ?_
        refine gJ_icmp_le (tgt := 63) dX12_flaps_56 (by decide) (fun c56 => ?_) (fun c56 => ?_)
        · refine gJ_iconst (v := 0) dX12_flaps_63 (by decide) ?_
          refine gJ_iaddN (a := c) (b := 0) dX12_flaps_64 (by first | with_reducible rfl | rfl) (by first | with_reducible rfl | rfl) ?_
          refine gJ_istore_n (lv2 := [(3, _), (4, _), (2, _), (0, _), (1, _)]) dX12_flaps_65 rfl rfl rfl ?_
          refine gJ_iincN (a := j) (b := 1) (lv2 := [(4, _), (3, _), (2, _), (0, _), (1, _)]) dX12_flaps_66 rfl rfl rfl rfl ?_
          refine gJ_goto (tgt := 14) dX12_flaps_69 (by decide) ?_
          refine gJ_ls (ih (j + 1) _ (by omega) (by omega) ?_ (by omega)) ⟨rfl, rfl, rfl, rfl, rfl, trivial⟩
          rw [List.range_succ, List.countP_append, ← hp]
          simp [mLate, c56]
        · refine gJ_iconst (v := 1) dX12_flaps_59 (by decide) ?_
          refine gJ_goto (tgt := 64) dX12_flaps_60 (by decide) ?_
          refine gJ_iaddN (a := c) (b := 1) dX12_flaps_64 (by first | with_reducible rfl | rfl) (by first | with_reducible rfl | rfl) ?_
          refine gJ_istore_n (lv2 := [(3, _), (4, _), (2, _), (0, _), (1, _)]) dX12_flaps_65 rfl rfl rfl ?_
          refine gJ_iincN (a := j) (b := 1) (lv2 := [(4, _), (3, _), (2, _), (0, _), (1, _)]) dX12_flaps_66 rfl rfl rfl rfl ?_
          refine gJ_goto (tgt := 14) dX12_flaps_69 (by decide) ?_
          refine gJ_ls (ih (j + 1) _ (by omega) (by omega) ?_ (by omega)) ⟨rfl, rfl, rfl, rfl, rfl, trivial⟩
          rw [List.range_succ, List.countP_append, ← hp]
          simp [mLate, c56]
  show gJ _ _ _ _ _ _ 0 [(0, _), (1, _)] [] _
  refine gJ_sipush (v := 206) dX12_flaps_0 (by decide) ?_
  refine gJ_bipush (v := 23) dX12_flaps_3 (by decide) ?_
  refine gJ_iload_n dX12_flaps_5 rfl rfl ?_
  refine gJ_imulN (a := 23) (b := a) dX12_flaps_6 (by first | with_reducible rfl | rfl) (by first | with_reducible rfl | rfl) ?_
  refine gJ_iaddN (a := 206) (b := (23 * a)) dX12_flaps_7 (by first | with_reducible rfl | rfl) (by first | with_reducible rfl | rfl) ?_
  refine gJ_istore_n (lv2 := [(2, _), (0, _), (1, _)]) dX12_flaps_8 rfl rfl rfl ?_
  refine gJ_iconst (v := 0) dX12_flaps_9 (by decide) ?_
  refine gJ_istore_n (lv2 := [(3, _), (2, _), (0, _), (1, _)]) dX12_flaps_10 rfl rfl rfl ?_
  refine gJ_iconst (v := 0) dX12_flaps_11 (by decide) ?_
  refine gJ_istore (lv2 := [(4, _), (3, _), (2, _), (0, _), (1, _)]) dX12_flaps_12 rfl rfl ?_
  exact gJ_ls (loop (n + 1) 0 0 (by omega) (by omega) rfl (by omega)) ⟨rfl, rfl, rfl, rfl, rfl, trivial⟩
theorem mFlaps_le (V : Nat → Int32) (a : Nat) (hI : mI V) (ha : a < 60) : mFlaps V a ≤ 20 := by
  obtain ⟨n, hn, hVn⟩ := (hI.2.2.2.2.2.1 a ha).2
  have h := List.countP_le_length (p := mLate V a) (l := List.range (mN V (206 + 23 * a + 2)))
  rw [List.length_range, mN_of hVn (by omega)] at h
  unfold mFlaps
  rw [mN_of hVn (by omega)]
  omega
theorem c12_isFlapping (hm : M.1 m = some (mO m hi tn at_ fa)) (hV : M.1 (m + 1) = some (gI 1999 V)) (hI : mI V) (a : Nat) (ha : a < 60) : gCon G kX12_isFlapping 1 0 0 M [.ref m, .int (nI a)] (fun M2 v => M2 = M ∧ v = some (.int (gb (mFlapping V a)))) := by
  refine gCon_of (by decide) (Nat.le_of_ble_eq_true rfl) ?_
  show gJ _ _ _ _ _ _ 0 [(0, _), (1, _)] [] _
  refine gJ_aload_n dX12_isFlapping_0 rfl rfl ?_
  refine gJ_iload_n dX12_isFlapping_1 rfl rfl ?_
  refine gJ_callV (As := [_]) b_X12_flaps lX12_110 i_X12_flaps s_X12_flaps dX12_isFlapping_2 (c12_flaps hm hV hI a ha) (by assumption) rfl rfl (by decide) rfl (by decide) (fun M2 v_ h2 => ?_)
  obtain ⟨rfl, rfl⟩ := h2
  refine gJ_aload_n dX12_isFlapping_5 rfl rfl ?_
  refine gJ_get fX12_9 dX12_isFlapping_6 (by assumption) rfl ?_
  refine gJ_sipush (v := 1845) dX12_isFlapping_9 (by decide) ?_
  refine gJ_ialdN (j := 1845) dX12_isFlapping_12 (by assumption) (by first | with_reducible rfl | rfl) (by omega) (by decide) ?_
  refine gJ_icmp_lt (tgt := 20) dX12_isFlapping_13 (by decide) (fun c13 => ?_) (fun c13 => ?_)
  · refine gJ_iconst (v := 0) dX12_isFlapping_20 (by decide) ?_
    refine gJ_zret dX12_isFlapping_21 rfl (by first | exact gz0 | exact gz1 | exact gb01 _) ?_
    refine ⟨rfl, ?_⟩
    simp [mFlapping, c13, gb]
  · refine gJ_iconst (v := 1) dX12_isFlapping_16 (by decide) ?_
    refine gJ_goto (tgt := 21) dX12_isFlapping_17 (by decide) ?_
    refine gJ_zret dX12_isFlapping_21 rfl (by first | exact gz0 | exact gz1 | exact gb01 _) ?_
    refine ⟨rfl, ?_⟩
    simp [mFlapping, c13, gb]
end MODEL
end
