section
-- ===== PART A: goes FIRST, ahead of the names: the tables' words, and 'selects' of the private methods out of them =====
/-- a private method of a class that the tables say can be made, by its rows of tables_1 -/
def lw_okq (q : MethodName × Nat) : Prop := (q.1.cls ≠ "java/lang/invoke/MethodHandle" ∧ q.1.cls ≠ "java/lang/invoke/VarHandle") ∧ Cond.instantiable q.1.cls q.2 ∈ tables_1 ∧ Cond.privateMethod q.1 ∈ tables_1 ∧ Cond.instanceMethod q.1 ∈ tables_1
theorem lw_p0 : lw_okq (⟨"FeatherVotes", "finding", "(I)I"⟩, 8) := ⟨⟨by decide +kernel, by decide +kernel⟩, List.mem_of_getElem? (i := 18) (by decide +kernel), List.mem_of_getElem? (i := 241) (by decide +kernel), List.mem_of_getElem? (i := 242) (by decide +kernel)⟩
theorem lw_p1 : lw_okq (⟨"FeatherVotes$State", "againstIt", "(LFeatherVotes$Motion;)I"⟩, 8) := ⟨⟨by decide +kernel, by decide +kernel⟩, List.mem_of_getElem? (i := 26) (by decide +kernel), List.mem_of_getElem? (i := 338) (by decide +kernel), List.mem_of_getElem? (i := 339) (by decide +kernel)⟩
theorem lw_p2 : lw_okq (⟨"FeatherVotes$State", "crowsAmong", "(I)I"⟩, 8) := ⟨⟨by decide +kernel, by decide +kernel⟩, List.mem_of_getElem? (i := 26) (by decide +kernel), List.mem_of_getElem? (i := 343) (by decide +kernel), List.mem_of_getElem? (i := 344) (by decide +kernel)⟩
theorem lw_p3 : lw_okq (⟨"FeatherVotes$State", "droppedBy", "(LFeatherVotes$Motion;I)I"⟩, 8) := ⟨⟨by decide +kernel, by decide +kernel⟩, List.mem_of_getElem? (i := 26) (by decide +kernel), List.mem_of_getElem? (i := 368) (by decide +kernel), List.mem_of_getElem? (i := 369) (by decide +kernel)⟩
theorem lw_p4 : lw_okq (⟨"FeatherVotes$State", "letFall", "(LFeatherVotes$Motion;I)I"⟩, 8) := ⟨⟨by decide +kernel, by decide +kernel⟩, List.mem_of_getElem? (i := 26) (by decide +kernel), List.mem_of_getElem? (i := 398) (by decide +kernel), List.mem_of_getElem? (i := 399) (by decide +kernel)⟩
theorem lw_p5 : lw_okq (⟨"FeatherVotes$State", "enact", "(I)V"⟩, 8) := ⟨⟨by decide +kernel, by decide +kernel⟩, List.mem_of_getElem? (i := 26) (by decide +kernel), List.mem_of_getElem? (i := 403) (by decide +kernel), List.mem_of_getElem? (i := 404) (by decide +kernel)⟩
theorem lw_p6 : lw_okq (⟨"FeatherVotes", "tryWants", "(II)Z"⟩, 8) := ⟨⟨by decide +kernel, by decide +kernel⟩, List.mem_of_getElem? (i := 18) (by decide +kernel), List.mem_of_getElem? (i := 480) (by decide +kernel), List.mem_of_getElem? (i := 481) (by decide +kernel)⟩
theorem lw_p7 : lw_okq (⟨"FeatherVotes", "isAgenda", "(I)Z"⟩, 8) := ⟨⟨by decide +kernel, by decide +kernel⟩, List.mem_of_getElem? (i := 18) (by decide +kernel), List.mem_of_getElem? (i := 528) (by decide +kernel), List.mem_of_getElem? (i := 529) (by decide +kernel)⟩
theorem lw_p8 : lw_okq (⟨"FeatherVotes$Orders", "listMembers", "(I)V"⟩, 6) := ⟨⟨by decide +kernel, by decide +kernel⟩, List.mem_of_getElem? (i := 161) (by decide +kernel), List.mem_of_getElem? (i := 540) (by decide +kernel), List.mem_of_getElem? (i := 541) (by decide +kernel)⟩
theorem lw_p9 : lw_okq (⟨"FeatherVotes$Orders", "weigh", "(ILFeatherVotes$State;)V"⟩, 6) := ⟨⟨by decide +kernel, by decide +kernel⟩, List.mem_of_getElem? (i := 161) (by decide +kernel), List.mem_of_getElem? (i := 551) (by decide +kernel), List.mem_of_getElem? (i := 552) (by decide +kernel)⟩
theorem lw_p10 : lw_okq (⟨"FeatherVotes$Orders", "stepOrder", "()Z"⟩, 6) := ⟨⟨by decide +kernel, by decide +kernel⟩, List.mem_of_getElem? (i := 161) (by decide +kernel), List.mem_of_getElem? (i := 557) (by decide +kernel), List.mem_of_getElem? (i := 558) (by decide +kernel)⟩
theorem lw_p11 : lw_okq (⟨"FeatherVotes$Orders", "swap", "(II)V"⟩, 6) := ⟨⟨by decide +kernel, by decide +kernel⟩, List.mem_of_getElem? (i := 161) (by decide +kernel), List.mem_of_getElem? (i := 561) (by decide +kernel), List.mem_of_getElem? (i := 562) (by decide +kernel)⟩
theorem lw_p12 : lw_okq (⟨"FeatherVotes$Tape", "split", "()V"⟩, 7) := ⟨⟨by decide +kernel, by decide +kernel⟩, List.mem_of_getElem? (i := 130) (by decide +kernel), List.mem_of_getElem? (i := 643) (by decide +kernel), List.mem_of_getElem? (i := 644) (by decide +kernel)⟩
theorem lw_p13 : lw_okq (⟨"FeatherVotes$Tape", "sortAt", "(I)I"⟩, 7) := ⟨⟨by decide +kernel, by decide +kernel⟩, List.mem_of_getElem? (i := 130) (by decide +kernel), List.mem_of_getElem? (i := 647) (by decide +kernel), List.mem_of_getElem? (i := 648) (by decide +kernel)⟩
theorem lw_p14 : lw_okq (⟨"FeatherVotes$Tape", "addToken", "(III)V"⟩, 7) := ⟨⟨by decide +kernel, by decide +kernel⟩, List.mem_of_getElem? (i := 130) (by decide +kernel), List.mem_of_getElem? (i := 654) (by decide +kernel), List.mem_of_getElem? (i := 655) (by decide +kernel)⟩
theorem lw_p15 : lw_okq (⟨"FeatherVotes$Tape", "readItem", "(LFeatherVotes$State;)Z"⟩, 7) := ⟨⟨by decide +kernel, by decide +kernel⟩, List.mem_of_getElem? (i := 130) (by decide +kernel), List.mem_of_getElem? (i := 658) (by decide +kernel), List.mem_of_getElem? (i := 659) (by decide +kernel)⟩
def lw_privs_1 : List (MethodName × Nat) := [(⟨"FeatherVotes", "finding", "(I)I"⟩, 8), (⟨"FeatherVotes$State", "againstIt", "(LFeatherVotes$Motion;)I"⟩, 8), (⟨"FeatherVotes$State", "crowsAmong", "(I)I"⟩, 8), (⟨"FeatherVotes$State", "droppedBy", "(LFeatherVotes$Motion;I)I"⟩, 8), (⟨"FeatherVotes$State", "letFall", "(LFeatherVotes$Motion;I)I"⟩, 8), (⟨"FeatherVotes$State", "enact", "(I)V"⟩, 8), (⟨"FeatherVotes", "tryWants", "(II)Z"⟩, 8), (⟨"FeatherVotes", "isAgenda", "(I)Z"⟩, 8), (⟨"FeatherVotes$Orders", "listMembers", "(I)V"⟩, 6), (⟨"FeatherVotes$Orders", "weigh", "(ILFeatherVotes$State;)V"⟩, 6), (⟨"FeatherVotes$Orders", "stepOrder", "()Z"⟩, 6), (⟨"FeatherVotes$Orders", "swap", "(II)V"⟩, 6), (⟨"FeatherVotes$Tape", "split", "()V"⟩, 7), (⟨"FeatherVotes$Tape", "sortAt", "(I)I"⟩, 7), (⟨"FeatherVotes$Tape", "addToken", "(III)V"⟩, 7), (⟨"FeatherVotes$Tape", "readItem", "(LFeatherVotes$State;)Z"⟩, 7)]
theorem lw_r1 : ∀ q ∈ lw_privs_1, lw_okq q := List.forall_mem_cons.mpr ⟨lw_p0, List.forall_mem_cons.mpr ⟨lw_p1, List.forall_mem_cons.mpr ⟨lw_p2, List.forall_mem_cons.mpr ⟨lw_p3, List.forall_mem_cons.mpr ⟨lw_p4, List.forall_mem_cons.mpr ⟨lw_p5, List.forall_mem_cons.mpr ⟨lw_p6, List.forall_mem_cons.mpr ⟨lw_p7, List.forall_mem_cons.mpr ⟨lw_p8, List.forall_mem_cons.mpr ⟨lw_p9, List.forall_mem_cons.mpr ⟨lw_p10, List.forall_mem_cons.mpr ⟨lw_p11, List.forall_mem_cons.mpr ⟨lw_p12, List.forall_mem_cons.mpr ⟨lw_p13, List.forall_mem_cons.mpr ⟨lw_p14, List.forall_mem_cons.mpr ⟨lw_p15, fun _ h => absurd h List.not_mem_nil⟩⟩⟩⟩⟩⟩⟩⟩⟩⟩⟩⟩⟩⟩⟩⟩
theorem lw_p16 : lw_okq (⟨"FeatherVotes$Tape", "kindHere", "()I"⟩, 7) := ⟨⟨by decide +kernel, by decide +kernel⟩, List.mem_of_getElem? (i := 130) (by decide +kernel), List.mem_of_getElem? (i := 662) (by decide +kernel), List.mem_of_getElem? (i := 663) (by decide +kernel)⟩
theorem lw_p17 : lw_okq (⟨"FeatherVotes$Tape", "isWord", "(Ljava/lang/String;)Z"⟩, 7) := ⟨⟨by decide +kernel, by decide +kernel⟩, List.mem_of_getElem? (i := 130) (by decide +kernel), List.mem_of_getElem? (i := 676) (by decide +kernel), List.mem_of_getElem? (i := 677) (by decide +kernel)⟩
theorem lw_p18 : lw_okq (⟨"FeatherVotes$Tape", "readBird", "(LFeatherVotes$State;I)Z"⟩, 7) := ⟨⟨by decide +kernel, by decide +kernel⟩, List.mem_of_getElem? (i := 130) (by decide +kernel), List.mem_of_getElem? (i := 728) (by decide +kernel), List.mem_of_getElem? (i := 729) (by decide +kernel)⟩
theorem lw_p19 : lw_okq (⟨"FeatherVotes$Tape", "advance", "()V"⟩, 7) := ⟨⟨by decide +kernel, by decide +kernel⟩, List.mem_of_getElem? (i := 130) (by decide +kernel), List.mem_of_getElem? (i := 733) (by decide +kernel), List.mem_of_getElem? (i := 734) (by decide +kernel)⟩
theorem lw_p20 : lw_okq (⟨"FeatherVotes$Tape", "readFeathers", "(LFeatherVotes$Bird;)Z"⟩, 7) := ⟨⟨by decide +kernel, by decide +kernel⟩, List.mem_of_getElem? (i := 130) (by decide +kernel), List.mem_of_getElem? (i := 737) (by decide +kernel), List.mem_of_getElem? (i := 738) (by decide +kernel)⟩
theorem lw_p21 : lw_okq (⟨"FeatherVotes$Tape", "takeWord", "(Ljava/lang/String;)Z"⟩, 7) := ⟨⟨by decide +kernel, by decide +kernel⟩, List.mem_of_getElem? (i := 130) (by decide +kernel), List.mem_of_getElem? (i := 742) (by decide +kernel), List.mem_of_getElem? (i := 743) (by decide +kernel)⟩
theorem lw_p22 : lw_okq (⟨"FeatherVotes$Tape", "takeNumber", "(I)I"⟩, 7) := ⟨⟨by decide +kernel, by decide +kernel⟩, List.mem_of_getElem? (i := 130) (by decide +kernel), List.mem_of_getElem? (i := 746) (by decide +kernel), List.mem_of_getElem? (i := 747) (by decide +kernel)⟩
theorem lw_p23 : lw_okq (⟨"FeatherVotes$Tape", "readBirdFeature", "(LFeatherVotes$Bird;Ljava/lang/String;I)Z"⟩, 7) := ⟨⟨by decide +kernel, by decide +kernel⟩, List.mem_of_getElem? (i := 130) (by decide +kernel), List.mem_of_getElem? (i := 752) (by decide +kernel), List.mem_of_getElem? (i := 753) (by decide +kernel)⟩
theorem lw_p24 : lw_okq (⟨"FeatherVotes$Tape", "readMotion", "(LFeatherVotes$State;)Z"⟩, 7) := ⟨⟨by decide +kernel, by decide +kernel⟩, List.mem_of_getElem? (i := 130) (by decide +kernel), List.mem_of_getElem? (i := 760) (by decide +kernel), List.mem_of_getElem? (i := 761) (by decide +kernel)⟩
theorem lw_p25 : lw_okq (⟨"FeatherVotes$Tape", "readMotionFeature", "(LFeatherVotes$Motion;Ljava/lang/String;II)Z"⟩, 7) := ⟨⟨by decide +kernel, by decide +kernel⟩, List.mem_of_getElem? (i := 130) (by decide +kernel), List.mem_of_getElem? (i := 767) (by decide +kernel), List.mem_of_getElem? (i := 768) (by decide +kernel)⟩
theorem lw_p26 : lw_okq (⟨"FeatherVotes$Tape", "readSeason", "(LFeatherVotes$State;)Z"⟩, 7) := ⟨⟨by decide +kernel, by decide +kernel⟩, List.mem_of_getElem? (i := 130) (by decide +kernel), List.mem_of_getElem? (i := 776) (by decide +kernel), List.mem_of_getElem? (i := 777) (by decide +kernel)⟩
theorem lw_p27 : lw_okq (⟨"FeatherVotesModel", "no", "(I)I"⟩, 25) := ⟨⟨by decide +kernel, by decide +kernel⟩, List.mem_of_getElem? (i := 853) (by decide +kernel), List.mem_of_getElem? (i := 943) (by decide +kernel), List.mem_of_getElem? (i := 944) (by decide +kernel)⟩
theorem lw_p28 : lw_okq (⟨"FeatherVotesModel", "addsBird", "(I)V"⟩, 25) := ⟨⟨by decide +kernel, by decide +kernel⟩, List.mem_of_getElem? (i := 853) (by decide +kernel), List.mem_of_getElem? (i := 948) (by decide +kernel), List.mem_of_getElem? (i := 949) (by decide +kernel)⟩
theorem lw_p29 : lw_okq (⟨"FeatherVotesModel", "puts", "(III)V"⟩, 25) := ⟨⟨by decide +kernel, by decide +kernel⟩, List.mem_of_getElem? (i := 853) (by decide +kernel), List.mem_of_getElem? (i := 952) (by decide +kernel), List.mem_of_getElem? (i := 953) (by decide +kernel)⟩
theorem lw_p30 : lw_okq (⟨"FeatherVotesModel", "isBird", "(I)Z"⟩, 25) := ⟨⟨by decide +kernel, by decide +kernel⟩, List.mem_of_getElem? (i := 853) (by decide +kernel), List.mem_of_getElem? (i := 960) (by decide +kernel), List.mem_of_getElem? (i := 961) (by decide +kernel)⟩
theorem lw_p31 : lw_okq (⟨"FeatherVotesModel", "get", "(II)I"⟩, 25) := ⟨⟨by decide +kernel, by decide +kernel⟩, List.mem_of_getElem? (i := 853) (by decide +kernel), List.mem_of_getElem? (i := 964) (by decide +kernel), List.mem_of_getElem? (i := 965) (by decide +kernel)⟩
def lw_privs_2 : List (MethodName × Nat) := [(⟨"FeatherVotes$Tape", "kindHere", "()I"⟩, 7), (⟨"FeatherVotes$Tape", "isWord", "(Ljava/lang/String;)Z"⟩, 7), (⟨"FeatherVotes$Tape", "readBird", "(LFeatherVotes$State;I)Z"⟩, 7), (⟨"FeatherVotes$Tape", "advance", "()V"⟩, 7), (⟨"FeatherVotes$Tape", "readFeathers", "(LFeatherVotes$Bird;)Z"⟩, 7), (⟨"FeatherVotes$Tape", "takeWord", "(Ljava/lang/String;)Z"⟩, 7), (⟨"FeatherVotes$Tape", "takeNumber", "(I)I"⟩, 7), (⟨"FeatherVotes$Tape", "readBirdFeature", "(LFeatherVotes$Bird;Ljava/lang/String;I)Z"⟩, 7), (⟨"FeatherVotes$Tape", "readMotion", "(LFeatherVotes$State;)Z"⟩, 7), (⟨"FeatherVotes$Tape", "readMotionFeature", "(LFeatherVotes$Motion;Ljava/lang/String;II)Z"⟩, 7), (⟨"FeatherVotes$Tape", "readSeason", "(LFeatherVotes$State;)Z"⟩, 7), (⟨"FeatherVotesModel", "no", "(I)I"⟩, 25), (⟨"FeatherVotesModel", "addsBird", "(I)V"⟩, 25), (⟨"FeatherVotesModel", "puts", "(III)V"⟩, 25), (⟨"FeatherVotesModel", "isBird", "(I)Z"⟩, 25), (⟨"FeatherVotesModel", "get", "(II)I"⟩, 25)]
theorem lw_r2 : ∀ q ∈ lw_privs_2, lw_okq q := List.forall_mem_cons.mpr ⟨lw_p16, List.forall_mem_cons.mpr ⟨lw_p17, List.forall_mem_cons.mpr ⟨lw_p18, List.forall_mem_cons.mpr ⟨lw_p19, List.forall_mem_cons.mpr ⟨lw_p20, List.forall_mem_cons.mpr ⟨lw_p21, List.forall_mem_cons.mpr ⟨lw_p22, List.forall_mem_cons.mpr ⟨lw_p23, List.forall_mem_cons.mpr ⟨lw_p24, List.forall_mem_cons.mpr ⟨lw_p25, List.forall_mem_cons.mpr ⟨lw_p26, List.forall_mem_cons.mpr ⟨lw_p27, List.forall_mem_cons.mpr ⟨lw_p28, List.forall_mem_cons.mpr ⟨lw_p29, List.forall_mem_cons.mpr ⟨lw_p30, List.forall_mem_cons.mpr ⟨lw_p31, fun _ h => absurd h List.not_mem_nil⟩⟩⟩⟩⟩⟩⟩⟩⟩⟩⟩⟩⟩⟩⟩⟩
theorem lw_p32 : lw_okq (⟨"FeatherVotesModel", "feathers", "(I)I"⟩, 25) := ⟨⟨by decide +kernel, by decide +kernel⟩, List.mem_of_getElem? (i := 853) (by decide +kernel), List.mem_of_getElem? (i := 968) (by decide +kernel), List.mem_of_getElem? (i := 969) (by decide +kernel)⟩
theorem lw_p33 : lw_okq (⟨"FeatherVotesModel", "doesFly", "(I)Z"⟩, 25) := ⟨⟨by decide +kernel, by decide +kernel⟩, List.mem_of_getElem? (i := 853) (by decide +kernel), List.mem_of_getElem? (i := 972) (by decide +kernel), List.mem_of_getElem? (i := 973) (by decide +kernel)⟩
theorem lw_p34 : lw_okq (⟨"FeatherVotesModel", "addsMotion", "(I)V"⟩, 25) := ⟨⟨by decide +kernel, by decide +kernel⟩, List.mem_of_getElem? (i := 853) (by decide +kernel), List.mem_of_getElem? (i := 984) (by decide +kernel), List.mem_of_getElem? (i := 985) (by decide +kernel)⟩
theorem lw_p35 : lw_okq (⟨"FeatherVotesModel", "puts1", "(III)V"⟩, 25) := ⟨⟨by decide +kernel, by decide +kernel⟩, List.mem_of_getElem? (i := 853) (by decide +kernel), List.mem_of_getElem? (i := 988) (by decide +kernel), List.mem_of_getElem? (i := 989) (by decide +kernel)⟩
theorem lw_p36 : lw_okq (⟨"FeatherVotesModel", "isMotion", "(I)Z"⟩, 25) := ⟨⟨by decide +kernel, by decide +kernel⟩, List.mem_of_getElem? (i := 853) (by decide +kernel), List.mem_of_getElem? (i := 996) (by decide +kernel), List.mem_of_getElem? (i := 997) (by decide +kernel)⟩
theorem lw_p37 : lw_okq (⟨"FeatherVotesModel", "of1", "(II)I"⟩, 25) := ⟨⟨by decide +kernel, by decide +kernel⟩, List.mem_of_getElem? (i := 853) (by decide +kernel), List.mem_of_getElem? (i := 1000) (by decide +kernel), List.mem_of_getElem? (i := 1001) (by decide +kernel)⟩
theorem lw_p38 : lw_okq (⟨"FeatherVotesModel", "greatest", "(I)I"⟩, 25) := ⟨⟨by decide +kernel, by decide +kernel⟩, List.mem_of_getElem? (i := 853) (by decide +kernel), List.mem_of_getElem? (i := 1008) (by decide +kernel), List.mem_of_getElem? (i := 1009) (by decide +kernel)⟩
theorem lw_p39 : lw_okq (⟨"FeatherVotesModel", "allBirds", "()I"⟩, 25) := ⟨⟨by decide +kernel, by decide +kernel⟩, List.mem_of_getElem? (i := 853) (by decide +kernel), List.mem_of_getElem? (i := 1012) (by decide +kernel), List.mem_of_getElem? (i := 1013) (by decide +kernel)⟩
theorem lw_p40 : lw_okq (⟨"FeatherVotesModel", "dropsBy", "(III)I"⟩, 25) := ⟨⟨by decide +kernel, by decide +kernel⟩, List.mem_of_getElem? (i := 853) (by decide +kernel), List.mem_of_getElem? (i := 1020) (by decide +kernel), List.mem_of_getElem? (i := 1021) (by decide +kernel)⟩
theorem lw_p41 : lw_okq (⟨"FeatherVotesModel", "crowsBeside", "(II)I"⟩, 25) := ⟨⟨by decide +kernel, by decide +kernel⟩, List.mem_of_getElem? (i := 853) (by decide +kernel), List.mem_of_getElem? (i := 1024) (by decide +kernel), List.mem_of_getElem? (i := 1025) (by decide +kernel)⟩
theorem lw_p42 : lw_okq (⟨"FeatherVotesModel", "sideBy", "(IIZ)I"⟩, 25) := ⟨⟨by decide +kernel, by decide +kernel⟩, List.mem_of_getElem? (i := 853) (by decide +kernel), List.mem_of_getElem? (i := 1038) (by decide +kernel), List.mem_of_getElem? (i := 1039) (by decide +kernel)⟩
theorem lw_p43 : lw_okq (⟨"FeatherVotesModel", "passesNow", "(I)Z"⟩, 25) := ⟨⟨by decide +kernel, by decide +kernel⟩, List.mem_of_getElem? (i := 853) (by decide +kernel), List.mem_of_getElem? (i := 1046) (by decide +kernel), List.mem_of_getElem? (i := 1047) (by decide +kernel)⟩
theorem lw_p44 : lw_okq (⟨"FeatherVotesModel", "passesBy", "(II)Z"⟩, 25) := ⟨⟨by decide +kernel, by decide +kernel⟩, List.mem_of_getElem? (i := 853) (by decide +kernel), List.mem_of_getElem? (i := 1050) (by decide +kernel), List.mem_of_getElem? (i := 1051) (by decide +kernel)⟩
theorem lw_p45 : lw_okq (⟨"FeatherVotesModel", "votes", "(I)Z"⟩, 25) := ⟨⟨by decide +kernel, by decide +kernel⟩, List.mem_of_getElem? (i := 853) (by decide +kernel), List.mem_of_getElem? (i := 1058) (by decide +kernel), List.mem_of_getElem? (i := 1059) (by decide +kernel)⟩
theorem lw_p46 : lw_okq (⟨"FeatherVotesModel", "comesEffect", "(I)V"⟩, 25) := ⟨⟨by decide +kernel, by decide +kernel⟩, List.mem_of_getElem? (i := 853) (by decide +kernel), List.mem_of_getElem? (i := 1062) (by decide +kernel), List.mem_of_getElem? (i := 1063) (by decide +kernel)⟩
theorem lw_p47 : lw_okq (⟨"FeatherVotesModel", "goesSeason", "()V"⟩, 25) := ⟨⟨by decide +kernel, by decide +kernel⟩, List.mem_of_getElem? (i := 853) (by decide +kernel), List.mem_of_getElem? (i := 1071) (by decide +kernel), List.mem_of_getElem? (i := 1072) (by decide +kernel)⟩
def lw_privs_3 : List (MethodName × Nat) := [(⟨"FeatherVotesModel", "feathers", "(I)I"⟩, 25), (⟨"FeatherVotesModel", "doesFly", "(I)Z"⟩, 25), (⟨"FeatherVotesModel", "addsMotion", "(I)V"⟩, 25), (⟨"FeatherVotesModel", "puts1", "(III)V"⟩, 25), (⟨"FeatherVotesModel", "isMotion", "(I)Z"⟩, 25), (⟨"FeatherVotesModel", "of1", "(II)I"⟩, 25), (⟨"FeatherVotesModel", "greatest", "(I)I"⟩, 25), (⟨"FeatherVotesModel", "allBirds", "()I"⟩, 25), (⟨"FeatherVotesModel", "dropsBy", "(III)I"⟩, 25), (⟨"FeatherVotesModel", "crowsBeside", "(II)I"⟩, 25), (⟨"FeatherVotesModel", "sideBy", "(IIZ)I"⟩, 25), (⟨"FeatherVotesModel", "passesNow", "(I)Z"⟩, 25), (⟨"FeatherVotesModel", "passesBy", "(II)Z"⟩, 25), (⟨"FeatherVotesModel", "votes", "(I)Z"⟩, 25), (⟨"FeatherVotesModel", "comesEffect", "(I)V"⟩, 25), (⟨"FeatherVotesModel", "goesSeason", "()V"⟩, 25)]
theorem lw_r3 : ∀ q ∈ lw_privs_3, lw_okq q := List.forall_mem_cons.mpr ⟨lw_p32, List.forall_mem_cons.mpr ⟨lw_p33, List.forall_mem_cons.mpr ⟨lw_p34, List.forall_mem_cons.mpr ⟨lw_p35, List.forall_mem_cons.mpr ⟨lw_p36, List.forall_mem_cons.mpr ⟨lw_p37, List.forall_mem_cons.mpr ⟨lw_p38, List.forall_mem_cons.mpr ⟨lw_p39, List.forall_mem_cons.mpr ⟨lw_p40, List.forall_mem_cons.mpr ⟨lw_p41, List.forall_mem_cons.mpr ⟨lw_p42, List.forall_mem_cons.mpr ⟨lw_p43, List.forall_mem_cons.mpr ⟨lw_p44, List.forall_mem_cons.mpr ⟨lw_p45, List.forall_mem_cons.mpr ⟨lw_p46, List.forall_mem_cons.mpr ⟨lw_p47, fun _ h => absurd h List.not_mem_nil⟩⟩⟩⟩⟩⟩⟩⟩⟩⟩⟩⟩⟩⟩⟩⟩
theorem lw_p48 : lw_okq (⟨"FeatherVotesModel", "allFeathers", "()I"⟩, 25) := ⟨⟨by decide +kernel, by decide +kernel⟩, List.mem_of_getElem? (i := 853) (by decide +kernel), List.mem_of_getElem? (i := 1075) (by decide +kernel), List.mem_of_getElem? (i := 1076) (by decide +kernel)⟩
theorem lw_p49 : lw_okq (⟨"FeatherVotesModel", "laws", "()I"⟩, 25) := ⟨⟨by decide +kernel, by decide +kernel⟩, List.mem_of_getElem? (i := 853) (by decide +kernel), List.mem_of_getElem? (i := 1083) (by decide +kernel), List.mem_of_getElem? (i := 1084) (by decide +kernel)⟩
theorem lw_p50 : lw_okq (⟨"FeatherVotesModel", "flying", "()I"⟩, 25) := ⟨⟨by decide +kernel, by decide +kernel⟩, List.mem_of_getElem? (i := 853) (by decide +kernel), List.mem_of_getElem? (i := 1087) (by decide +kernel), List.mem_of_getElem? (i := 1088) (by decide +kernel)⟩
theorem lw_p51 : lw_okq (⟨"FeatherVotesModel", "setsAside", "()V"⟩, 25) := ⟨⟨by decide +kernel, by decide +kernel⟩, List.mem_of_getElem? (i := 853) (by decide +kernel), List.mem_of_getElem? (i := 1099) (by decide +kernel), List.mem_of_getElem? (i := 1100) (by decide +kernel)⟩
theorem lw_p52 : lw_okq (⟨"FeatherVotesModel", "laysBack", "()V"⟩, 25) := ⟨⟨by decide +kernel, by decide +kernel⟩, List.mem_of_getElem? (i := 853) (by decide +kernel), List.mem_of_getElem? (i := 1103) (by decide +kernel), List.mem_of_getElem? (i := 1104) (by decide +kernel)⟩
theorem lw_p53 : lw_okq (⟨"FeatherVotesModel", "droppedAll", "(I)I"⟩, 25) := ⟨⟨by decide +kernel, by decide +kernel⟩, List.mem_of_getElem? (i := 853) (by decide +kernel), List.mem_of_getElem? (i := 1138) (by decide +kernel), List.mem_of_getElem? (i := 1139) (by decide +kernel)⟩
theorem lw_p54 : lw_okq (⟨"FeatherVotesModel", "isSet", "(I)Z"⟩, 25) := ⟨⟨by decide +kernel, by decide +kernel⟩, List.mem_of_getElem? (i := 853) (by decide +kernel), List.mem_of_getElem? (i := 1154) (by decide +kernel), List.mem_of_getElem? (i := 1155) (by decide +kernel)⟩
theorem lw_p55 : lw_okq (⟨"FeatherVotesModel", "findsOrder", "(I)V"⟩, 25) := ⟨⟨by decide +kernel, by decide +kernel⟩, List.mem_of_getElem? (i := 853) (by decide +kernel), List.mem_of_getElem? (i := 1158) (by decide +kernel), List.mem_of_getElem? (i := 1159) (by decide +kernel)⟩
theorem lw_p56 : lw_okq (⟨"FeatherVotesModel", "laysOrder", "(I)I"⟩, 25) := ⟨⟨by decide +kernel, by decide +kernel⟩, List.mem_of_getElem? (i := 853) (by decide +kernel), List.mem_of_getElem? (i := 1162) (by decide +kernel), List.mem_of_getElem? (i := 1163) (by decide +kernel)⟩
theorem lw_p57 : lw_okq (⟨"FeatherVotesModel", "nextOrder", "(I)Z"⟩, 25) := ⟨⟨by decide +kernel, by decide +kernel⟩, List.mem_of_getElem? (i := 853) (by decide +kernel), List.mem_of_getElem? (i := 1166) (by decide +kernel), List.mem_of_getElem? (i := 1167) (by decide +kernel)⟩
theorem lw_p58 : lw_okq (⟨"FeatherVotesModel", "swaps", "(II)V"⟩, 25) := ⟨⟨by decide +kernel, by decide +kernel⟩, List.mem_of_getElem? (i := 853) (by decide +kernel), List.mem_of_getElem? (i := 1170) (by decide +kernel), List.mem_of_getElem? (i := 1171) (by decide +kernel)⟩
theorem lw_p59 : lw_okq (⟨"FeatherVotesModel", "wrongSheet", "(I)I"⟩, 25) := ⟨⟨by decide +kernel, by decide +kernel⟩, List.mem_of_getElem? (i := 853) (by decide +kernel), List.mem_of_getElem? (i := 1198) (by decide +kernel), List.mem_of_getElem? (i := 1199) (by decide +kernel)⟩
theorem lw_p60 : lw_okq (⟨"FeatherVotesModel", "isTold", "(III)Z"⟩, 25) := ⟨⟨by decide +kernel, by decide +kernel⟩, List.mem_of_getElem? (i := 853) (by decide +kernel), List.mem_of_getElem? (i := 1205) (by decide +kernel), List.mem_of_getElem? (i := 1206) (by decide +kernel)⟩
theorem lw_p61 : lw_okq (⟨"FeatherVotesModel", "draw", "()I"⟩, 25) := ⟨⟨by decide +kernel, by decide +kernel⟩, List.mem_of_getElem? (i := 853) (by decide +kernel), List.mem_of_getElem? (i := 1217) (by decide +kernel), List.mem_of_getElem? (i := 1218) (by decide +kernel)⟩
theorem lw_p62 : lw_okq (⟨"FeatherVotesModel", "nextToken", "()V"⟩, 25) := ⟨⟨by decide +kernel, by decide +kernel⟩, List.mem_of_getElem? (i := 853) (by decide +kernel), List.mem_of_getElem? (i := 1238) (by decide +kernel), List.mem_of_getElem? (i := 1239) (by decide +kernel)⟩
theorem lw_p63 : lw_okq (⟨"FeatherVotesModel", "readsItem", "()Z"⟩, 25) := ⟨⟨by decide +kernel, by decide +kernel⟩, List.mem_of_getElem? (i := 853) (by decide +kernel), List.mem_of_getElem? (i := 1253) (by decide +kernel), List.mem_of_getElem? (i := 1254) (by decide +kernel)⟩
def lw_privs_4 : List (MethodName × Nat) := [(⟨"FeatherVotesModel", "allFeathers", "()I"⟩, 25), (⟨"FeatherVotesModel", "laws", "()I"⟩, 25), (⟨"FeatherVotesModel", "flying", "()I"⟩, 25), (⟨"FeatherVotesModel", "setsAside", "()V"⟩, 25), (⟨"FeatherVotesModel", "laysBack", "()V"⟩, 25), (⟨"FeatherVotesModel", "droppedAll", "(I)I"⟩, 25), (⟨"FeatherVotesModel", "isSet", "(I)Z"⟩, 25), (⟨"FeatherVotesModel", "findsOrder", "(I)V"⟩, 25), (⟨"FeatherVotesModel", "laysOrder", "(I)I"⟩, 25), (⟨"FeatherVotesModel", "nextOrder", "(I)Z"⟩, 25), (⟨"FeatherVotesModel", "swaps", "(II)V"⟩, 25), (⟨"FeatherVotesModel", "wrongSheet", "(I)I"⟩, 25), (⟨"FeatherVotesModel", "isTold", "(III)Z"⟩, 25), (⟨"FeatherVotesModel", "draw", "()I"⟩, 25), (⟨"FeatherVotesModel", "nextToken", "()V"⟩, 25), (⟨"FeatherVotesModel", "readsItem", "()Z"⟩, 25)]
theorem lw_r4 : ∀ q ∈ lw_privs_4, lw_okq q := List.forall_mem_cons.mpr ⟨lw_p48, List.forall_mem_cons.mpr ⟨lw_p49, List.forall_mem_cons.mpr ⟨lw_p50, List.forall_mem_cons.mpr ⟨lw_p51, List.forall_mem_cons.mpr ⟨lw_p52, List.forall_mem_cons.mpr ⟨lw_p53, List.forall_mem_cons.mpr ⟨lw_p54, List.forall_mem_cons.mpr ⟨lw_p55, List.forall_mem_cons.mpr ⟨lw_p56, List.forall_mem_cons.mpr ⟨lw_p57, List.forall_mem_cons.mpr ⟨lw_p58, List.forall_mem_cons.mpr ⟨lw_p59, List.forall_mem_cons.mpr ⟨lw_p60, List.forall_mem_cons.mpr ⟨lw_p61, List.forall_mem_cons.mpr ⟨lw_p62, List.forall_mem_cons.mpr ⟨lw_p63, fun _ h => absurd h List.not_mem_nil⟩⟩⟩⟩⟩⟩⟩⟩⟩⟩⟩⟩⟩⟩⟩⟩
theorem lw_p64 : lw_okq (⟨"FeatherVotesModel", "wordOf", "([C)I"⟩, 25) := ⟨⟨by decide +kernel, by decide +kernel⟩, List.mem_of_getElem? (i := 853) (by decide +kernel), List.mem_of_getElem? (i := 1257) (by decide +kernel), List.mem_of_getElem? (i := 1258) (by decide +kernel)⟩
theorem lw_p65 : lw_okq (⟨"FeatherVotesModel", "readsBird", "(I)Z"⟩, 25) := ⟨⟨by decide +kernel, by decide +kernel⟩, List.mem_of_getElem? (i := 853) (by decide +kernel), List.mem_of_getElem? (i := 1261) (by decide +kernel), List.mem_of_getElem? (i := 1262) (by decide +kernel)⟩
theorem lw_p66 : lw_okq (⟨"FeatherVotesModel", "takesNumber", "(II)I"⟩, 25) := ⟨⟨by decide +kernel, by decide +kernel⟩, List.mem_of_getElem? (i := 853) (by decide +kernel), List.mem_of_getElem? (i := 1265) (by decide +kernel), List.mem_of_getElem? (i := 1266) (by decide +kernel)⟩
theorem lw_p67 : lw_okq (⟨"FeatherVotesModel", "readsMotion", "()Z"⟩, 25) := ⟨⟨by decide +kernel, by decide +kernel⟩, List.mem_of_getElem? (i := 853) (by decide +kernel), List.mem_of_getElem? (i := 1269) (by decide +kernel), List.mem_of_getElem? (i := 1270) (by decide +kernel)⟩
def lw_privs_5 : List (MethodName × Nat) := [(⟨"FeatherVotesModel", "wordOf", "([C)I"⟩, 25), (⟨"FeatherVotesModel", "readsBird", "(I)Z"⟩, 25), (⟨"FeatherVotesModel", "takesNumber", "(II)I"⟩, 25), (⟨"FeatherVotesModel", "readsMotion", "()Z"⟩, 25)]
theorem lw_r5 : ∀ q ∈ lw_privs_5, lw_okq q := List.forall_mem_cons.mpr ⟨lw_p64, List.forall_mem_cons.mpr ⟨lw_p65, List.forall_mem_cons.mpr ⟨lw_p66, List.forall_mem_cons.mpr ⟨lw_p67, fun _ h => absurd h List.not_mem_nil⟩⟩⟩⟩
def lw_privs : List (MethodName × Nat) := lw_privs_1 ++ (lw_privs_2 ++ (lw_privs_3 ++ (lw_privs_4 ++ (lw_privs_5))))
def lw_tbl : List Cond := k2_sels lw_privs ++ tables_1
theorem lw_privs_ok : ∀ q ∈ lw_privs, lw_okq q := by
  show ∀ q ∈ lw_privs_1 ++ (lw_privs_2 ++ (lw_privs_3 ++ (lw_privs_4 ++ (lw_privs_5)))), lw_okq q
  exact List.forall_mem_append.mpr ⟨lw_r1, List.forall_mem_append.mpr ⟨lw_r2, List.forall_mem_append.mpr ⟨lw_r3, List.forall_mem_append.mpr ⟨lw_r4, lw_r5⟩⟩⟩⟩
end
section
def RX0 : String := "FeatherVotes$Bird"
def TX0 : u_T := fun k => match k with
  | 0 => ("FeatherVotes$Bird", "kind", "I", false)
  | 1 => ("FeatherVotes$Bird", "keeps", "I", false)
  | 2 => ("FeatherVotes$Bird", "grows", "I", false)
  | _ => ("FeatherVotes$Bird", "feathers", "[I", true)
def tyX0 : Nat → FieldType := fun k => match k with
  | 0 => .int
  | 1 => .int
  | 2 => .int
  | _ => .array .int
theorem nmX0 : ∀ a, a < 4 → ∀ b, b < 4 → a ≠ b → (TX0 a).2.1 ≠ (TX0 b).2.1 := by decide +kernel
theorem tyX0_ok : ∀ k, k < 4 → parseFieldDescriptor (TX0 k).2.2.1 = some (tyX0 k) := by decide +kernel
abbrev cX0_init : ByteArray := prog_2_method_1_code
def yX0_init : MethodName := ⟨RX0, "<init>", "()V"⟩
abbrev cX0_hatch : ByteArray := prog_2_method_2_code
def yX0_hatch : MethodName := ⟨RX0, "hatch", "(I)V"⟩
abbrev cX0_become : ByteArray := prog_2_method_3_code
def yX0_become : MethodName := ⟨RX0, "become", "(LFeatherVotes$Bird;)V"⟩
abbrev cX0_mostOf : ByteArray := prog_2_method_4_code
def yX0_mostOf : MethodName := ⟨RX0, "mostOf", "(I)I"⟩
abbrev cX0_feature : ByteArray := prog_2_method_5_code
def yX0_feature : MethodName := ⟨RX0, "feature", "(I)I"⟩
abbrev cX0_setFeature : ByteArray := prog_2_method_6_code
def yX0_setFeature : MethodName := ⟨RX0, "setFeature", "(II)V"⟩
abbrev cX0_allFeathers : ByteArray := prog_2_method_7_code
def yX0_allFeathers : MethodName := ⟨RX0, "allFeathers", "()I"⟩
abbrev cX0_canFly : ByteArray := prog_2_method_8_code
def yX0_canFly : MethodName := ⟨RX0, "canFly", "()Z"⟩
abbrev cX0_isA : ByteArray := prog_2_method_9_code
def yX0_isA : MethodName := ⟨RX0, "isA", "(I)Z"⟩
abbrev cX0_grow : ByteArray := prog_2_method_10_code
def yX0_grow : MethodName := ⟨RX0, "grow", "(I)V"⟩
abbrev cX0_dropFor : ByteArray := prog_2_method_11_code
def yX0_dropFor : MethodName := ⟨RX0, "dropFor", "(LFeatherVotes$Motion;I)I"⟩
def RX1 : String := "FeatherVotes$Motion"
def TX1 : u_T := fun k => match k with
  | 0 => ("FeatherVotes$Motion", "colour", "I", false)
  | 1 => ("FeatherVotes$Motion", "quorum", "I", false)
  | 2 => ("FeatherVotes$Motion", "wants", "I", false)
  | 3 => ("FeatherVotes$Motion", "effect", "I", false)
  | _ => ("FeatherVotes$Motion", "law", "I", false)
def tyX1 : Nat → FieldType := fun k => match k with
  | 0 => .int
  | 1 => .int
  | 2 => .int
  | 3 => .int
  | _ => .int
theorem nmX1 : ∀ a, a < 5 → ∀ b, b < 5 → a ≠ b → (TX1 a).2.1 ≠ (TX1 b).2.1 := by decide +kernel
theorem tyX1_ok : ∀ k, k < 5 → parseFieldDescriptor (TX1 k).2.2.1 = some (tyX1 k) := by decide +kernel
abbrev cX1_init : ByteArray := prog_3_method_1_code
def yX1_init : MethodName := ⟨RX1, "<init>", "()V"⟩
abbrev cX1_begin : ByteArray := prog_3_method_2_code
def yX1_begin : MethodName := ⟨RX1, "begin", "(I)V"⟩
abbrev cX1_become : ByteArray := prog_3_method_3_code
def yX1_become : MethodName := ⟨RX1, "become", "(LFeatherVotes$Motion;)V"⟩
abbrev cX1_mostOf : ByteArray := prog_3_method_4_code
def yX1_mostOf : MethodName := ⟨RX1, "mostOf", "(II)I"⟩
abbrev cX1_feature : ByteArray := prog_3_method_5_code
def yX1_feature : MethodName := ⟨RX1, "feature", "(I)I"⟩
abbrev cX1_setFeature : ByteArray := prog_3_method_6_code
def yX1_setFeature : MethodName := ⟨RX1, "setFeature", "(II)V"⟩
abbrev cX1_isCarriedBy : ByteArray := prog_3_method_7_code
def yX1_isCarriedBy : MethodName := ⟨RX1, "isCarriedBy", "(II)Z"⟩
def RX2 : String := "FeatherVotes$Orders"
def TX2 : u_T := fun k => match k with
  | 0 => ("FeatherVotes$Orders", "best", "[I", true)
  | 1 => ("FeatherVotes$Orders", "mostPassing", "I", false)
  | 2 => ("FeatherVotes$Orders", "bestCount", "I", false)
  | 3 => ("FeatherVotes$Orders", "feathersLeft", "I", false)
  | 4 => ("FeatherVotes$Orders", "order", "[I", true)
  | _ => ("FeatherVotes$Orders", "size", "I", false)
def tyX2 : Nat → FieldType := fun k => match k with
  | 0 => .array .int
  | 1 => .int
  | 2 => .int
  | 3 => .int
  | 4 => .array .int
  | _ => .int
theorem nmX2 : ∀ a, a < 6 → ∀ b, b < 6 → a ≠ b → (TX2 a).2.1 ≠ (TX2 b).2.1 := by decide +kernel
theorem tyX2_ok : ∀ k, k < 6 → parseFieldDescriptor (TX2 k).2.2.1 = some (tyX2 k) := by decide +kernel
abbrev cX2_init : ByteArray := prog_4_method_1_code
def yX2_init : MethodName := ⟨RX2, "<init>", "()V"⟩
abbrev cX2_seek : ByteArray := prog_4_method_2_code
def yX2_seek : MethodName := ⟨RX2, "seek", "(LFeatherVotes$State;LFeatherVotes$State;I)V"⟩
abbrev cX2_listMembers : ByteArray := prog_4_method_3_code
def yX2_listMembers : MethodName := ⟨RX2, "listMembers", "(I)V"⟩
abbrev cX2_weigh : ByteArray := prog_4_method_4_code
def yX2_weigh : MethodName := ⟨RX2, "weigh", "(ILFeatherVotes$State;)V"⟩
abbrev cX2_stepOrder : ByteArray := prog_4_method_5_code
def yX2_stepOrder : MethodName := ⟨RX2, "stepOrder", "()Z"⟩
abbrev cX2_swap : ByteArray := prog_4_method_6_code
def yX2_swap : MethodName := ⟨RX2, "swap", "(II)V"⟩
def RX3 : String := "FeatherVotes$Sheet"
def TX3 : u_T := fun k => match k with
  | 0 => ("FeatherVotes$Sheet", "bits", "I", false)
  | 1 => ("FeatherVotes$Sheet", "size", "I", false)
  | _ => ("FeatherVotes$Sheet", "numbers", "[I", true)
def tyX3 : Nat → FieldType := fun k => match k with
  | 0 => .int
  | 1 => .int
  | _ => .array .int
theorem nmX3 : ∀ a, a < 3 → ∀ b, b < 3 → a ≠ b → (TX3 a).2.1 ≠ (TX3 b).2.1 := by decide +kernel
theorem tyX3_ok : ∀ k, k < 3 → parseFieldDescriptor (TX3 k).2.2.1 = some (tyX3 k) := by decide +kernel
abbrev cX3_init : ByteArray := prog_5_method_1_code
def yX3_init : MethodName := ⟨RX3, "<init>", "()V"⟩
abbrev cX3_hasBits : ByteArray := prog_5_method_2_code
def yX3_hasBits : MethodName := ⟨RX3, "hasBits", "(I)Z"⟩
abbrev cX3_begin : ByteArray := prog_5_method_3_code
def yX3_begin : MethodName := ⟨RX3, "begin", "(II)V"⟩
abbrev cX3_isMissing : ByteArray := prog_5_method_4_code
def yX3_isMissing : MethodName := ⟨RX3, "isMissing", "()Z"⟩
abbrev cX3_put : ByteArray := prog_5_method_5_code
def yX3_put : MethodName := ⟨RX3, "put", "(II)V"⟩
abbrev cX3_allows : ByteArray := prog_5_method_6_code
def yX3_allows : MethodName := ⟨RX3, "allows", "(II)Z"⟩
abbrev cX3_hasRange : ByteArray := prog_5_method_7_code
def yX3_hasRange : MethodName := ⟨RX3, "hasRange", "(II)Z"⟩
def RX4 : String := "FeatherVotes$State"
def TX4 : u_T := fun k => match k with
  | 0 => ("FeatherVotes$State", "birds", "[LFeatherVotes$Bird;", true)
  | 1 => ("FeatherVotes$State", "motions", "[LFeatherVotes$Motion;", true)
  | 2 => ("FeatherVotes$State", "foot", "[I", true)
  | 3 => ("FeatherVotes$State", "spots", "[I", true)
  | 4 => ("FeatherVotes$State", "birdCount", "I", false)
  | 5 => ("FeatherVotes$State", "motionCount", "I", false)
  | 6 => ("FeatherVotes$State", "season", "I", false)
  | _ => ("FeatherVotes$State", "z", "I", false)
def tyX4 : Nat → FieldType := fun k => match k with
  | 0 => .array (.object "FeatherVotes$Bird")
  | 1 => .array (.object "FeatherVotes$Motion")
  | 2 => .array .int
  | 3 => .array .int
  | 4 => .int
  | 5 => .int
  | 6 => .int
  | _ => .int
theorem nmX4 : ∀ a, a < 8 → ∀ b, b < 8 → a ≠ b → (TX4 a).2.1 ≠ (TX4 b).2.1 := by decide +kernel
theorem tyX4_ok : ∀ k, k < 8 → parseFieldDescriptor (TX4 k).2.2.1 = some (tyX4 k) := by decide +kernel
abbrev cX4_init : ByteArray := prog_6_method_1_code
def yX4_init : MethodName := ⟨RX4, "<init>", "()V"⟩
abbrev cX4_become : ByteArray := prog_6_method_2_code
def yX4_become : MethodName := ⟨RX4, "become", "(LFeatherVotes$State;)V"⟩
abbrev cX4_hasBird : ByteArray := prog_6_method_3_code
def yX4_hasBird : MethodName := ⟨RX4, "hasBird", "(I)Z"⟩
abbrev cX4_hasMotion : ByteArray := prog_6_method_4_code
def yX4_hasMotion : MethodName := ⟨RX4, "hasMotion", "(I)Z"⟩
abbrev cX4_allBirds : ByteArray := prog_6_method_5_code
def yX4_allBirds : MethodName := ⟨RX4, "allBirds", "()I"⟩
abbrev cX4_allMotions : ByteArray := prog_6_method_6_code
def yX4_allMotions : MethodName := ⟨RX4, "allMotions", "()I"⟩
abbrev cX4_addBird : ByteArray := prog_6_method_7_code
def yX4_addBird : MethodName := ⟨RX4, "addBird", "(I)I"⟩
abbrev cX4_addMotion : ByteArray := prog_6_method_8_code
def yX4_addMotion : MethodName := ⟨RX4, "addMotion", "(I)I"⟩
abbrev cX4_allFeathers : ByteArray := prog_6_method_9_code
def yX4_allFeathers : MethodName := ⟨RX4, "allFeathers", "()I"⟩
abbrev cX4_laws : ByteArray := prog_6_method_10_code
def yX4_laws : MethodName := ⟨RX4, "laws", "()I"⟩
abbrev cX4_flyers : ByteArray := prog_6_method_11_code
def yX4_flyers : MethodName := ⟨RX4, "flyers", "()I"⟩
abbrev cX4_spotsTaken : ByteArray := prog_6_method_12_code
def yX4_spotsTaken : MethodName := ⟨RX4, "spotsTaken", "()I"⟩
abbrev cX4_passSeason : ByteArray := prog_6_method_13_code
def yX4_passSeason : MethodName := ⟨RX4, "passSeason", "()V"⟩
abbrev cX4_draw : ByteArray := prog_6_method_14_code
def yX4_draw : MethodName := ⟨RX4, "draw", "()I"⟩
abbrev cX4_crowsAmong : ByteArray := prog_6_method_15_code
def yX4_crowsAmong : MethodName := ⟨RX4, "crowsAmong", "(I)I"⟩
abbrev cX4_isIn : ByteArray := prog_6_method_16_code
def yX4_isIn : MethodName := ⟨RX4, "isIn", "(II)Z"⟩
abbrev cX4_againstIt : ByteArray := prog_6_method_17_code
def yX4_againstIt : MethodName := ⟨RX4, "againstIt", "(LFeatherVotes$Motion;)I"⟩
abbrev cX4_dropOf : ByteArray := prog_6_method_18_code
def yX4_dropOf : MethodName := ⟨RX4, "dropOf", "(ILFeatherVotes$Motion;)I"⟩
abbrev cX4_droppedFor : ByteArray := prog_6_method_19_code
def yX4_droppedFor : MethodName := ⟨RX4, "droppedFor", "(LFeatherVotes$Motion;)I"⟩
abbrev cX4_droppedAgainst : ByteArray := prog_6_method_20_code
def yX4_droppedAgainst : MethodName := ⟨RX4, "droppedAgainst", "(LFeatherVotes$Motion;)I"⟩
abbrev cX4_droppedInAll : ByteArray := prog_6_method_21_code
def yX4_droppedInAll : MethodName := ⟨RX4, "droppedInAll", "(LFeatherVotes$Motion;)I"⟩
abbrev cX4_droppedBy : ByteArray := prog_6_method_22_code
def yX4_droppedBy : MethodName := ⟨RX4, "droppedBy", "(LFeatherVotes$Motion;I)I"⟩
abbrev cX4_wouldPass : ByteArray := prog_6_method_23_code
def yX4_wouldPass : MethodName := ⟨RX4, "wouldPass", "(LFeatherVotes$Motion;)Z"⟩
abbrev cX4_passingNow : ByteArray := prog_6_method_24_code
def yX4_passingNow : MethodName := ⟨RX4, "passingNow", "()I"⟩
abbrev cX4_castVote : ByteArray := prog_6_method_25_code
def yX4_castVote : MethodName := ⟨RX4, "castVote", "(LFeatherVotes$Motion;)Z"⟩
abbrev cX4_letFall : ByteArray := prog_6_method_26_code
def yX4_letFall : MethodName := ⟨RX4, "letFall", "(LFeatherVotes$Motion;I)I"⟩
abbrev cX4_enact : ByteArray := prog_6_method_27_code
def yX4_enact : MethodName := ⟨RX4, "enact", "(I)V"⟩
abbrev cX4_castVotes : ByteArray := prog_6_method_28_code
def yX4_castVotes : MethodName := ⟨RX4, "castVotes", "([II)I"⟩
def RX5 : String := "FeatherVotes$Tape"
def TX5 : u_T := fun k => match k with
  | 0 => ("FeatherVotes$Tape", "length", "I", false)
  | 1 => ("FeatherVotes$Tape", "bytes", "[I", true)
  | 2 => ("FeatherVotes$Tape", "sorts", "[I", true)
  | 3 => ("FeatherVotes$Tape", "starts", "[I", true)
  | 4 => ("FeatherVotes$Tape", "ends", "[I", true)
  | 5 => ("FeatherVotes$Tape", "tokens", "I", false)
  | _ => ("FeatherVotes$Tape", "at", "I", false)
def tyX5 : Nat → FieldType := fun k => match k with
  | 0 => .int
  | 1 => .array .int
  | 2 => .array .int
  | 3 => .array .int
  | 4 => .array .int
  | 5 => .int
  | _ => .int
theorem nmX5 : ∀ a, a < 7 → ∀ b, b < 7 → a ≠ b → (TX5 a).2.1 ≠ (TX5 b).2.1 := by decide +kernel
theorem tyX5_ok : ∀ k, k < 7 → parseFieldDescriptor (TX5 k).2.2.1 = some (tyX5 k) := by decide +kernel
abbrev cX5_init : ByteArray := prog_7_method_1_code
def yX5_init : MethodName := ⟨RX5, "<init>", "()V"⟩
abbrev cX5_add : ByteArray := prog_7_method_2_code
def yX5_add : MethodName := ⟨RX5, "add", "(I)V"⟩
abbrev cX5_readInto : ByteArray := prog_7_method_3_code
def yX5_readInto : MethodName := ⟨RX5, "readInto", "(LFeatherVotes$State;)I"⟩
abbrev cX5_split : ByteArray := prog_7_method_4_code
def yX5_split : MethodName := ⟨RX5, "split", "()V"⟩
abbrev cX5_addToken : ByteArray := prog_7_method_5_code
def yX5_addToken : MethodName := ⟨RX5, "addToken", "(III)V"⟩
abbrev cX5_sortAt : ByteArray := prog_7_method_6_code
def yX5_sortAt : MethodName := ⟨RX5, "sortAt", "(I)I"⟩
abbrev cX5_isLong : ByteArray := prog_7_method_7_code
def yX5_isLong : MethodName := ⟨RX5, "isLong", "(I)Z"⟩
abbrev cX5_advance : ByteArray := prog_7_method_8_code
def yX5_advance : MethodName := ⟨RX5, "advance", "()V"⟩
abbrev cX5_isWord : ByteArray := prog_7_method_9_code
def yX5_isWord : MethodName := ⟨RX5, "isWord", "(Ljava/lang/String;)Z"⟩
abbrev cX5_takeWord : ByteArray := prog_7_method_10_code
def yX5_takeWord : MethodName := ⟨RX5, "takeWord", "(Ljava/lang/String;)Z"⟩
abbrev cX5_takeNumber : ByteArray := prog_7_method_11_code
def yX5_takeNumber : MethodName := ⟨RX5, "takeNumber", "(I)I"⟩
abbrev cX5_readItem : ByteArray := prog_7_method_12_code
def yX5_readItem : MethodName := ⟨RX5, "readItem", "(LFeatherVotes$State;)Z"⟩
abbrev cX5_kindHere : ByteArray := prog_7_method_13_code
def yX5_kindHere : MethodName := ⟨RX5, "kindHere", "()I"⟩
abbrev cX5_nameOf : ByteArray := prog_7_method_14_code
def yX5_nameOf : MethodName := ⟨RX5, "nameOf", "(I)Ljava/lang/String;"⟩
abbrev cX5_readBird : ByteArray := prog_7_method_15_code
def yX5_readBird : MethodName := ⟨RX5, "readBird", "(LFeatherVotes$State;I)Z"⟩
abbrev cX5_readFeathers : ByteArray := prog_7_method_16_code
def yX5_readFeathers : MethodName := ⟨RX5, "readFeathers", "(LFeatherVotes$Bird;)Z"⟩
abbrev cX5_readBirdFeature : ByteArray := prog_7_method_17_code
def yX5_readBirdFeature : MethodName := ⟨RX5, "readBirdFeature", "(LFeatherVotes$Bird;Ljava/lang/String;I)Z"⟩
abbrev cX5_readMotion : ByteArray := prog_7_method_18_code
def yX5_readMotion : MethodName := ⟨RX5, "readMotion", "(LFeatherVotes$State;)Z"⟩
abbrev cX5_readMotionFeature : ByteArray := prog_7_method_19_code
def yX5_readMotionFeature : MethodName := ⟨RX5, "readMotionFeature", "(LFeatherVotes$Motion;Ljava/lang/String;II)Z"⟩
abbrev cX5_readSeason : ByteArray := prog_7_method_20_code
def yX5_readSeason : MethodName := ⟨RX5, "readSeason", "(LFeatherVotes$State;)Z"⟩
def RX6 : String := "FeatherVotes"
def TX6 : u_T := fun k => match k with
  | 0 => ("FeatherVotes", "here", "LFeatherVotes$State;", true)
  | 1 => ("FeatherVotes", "trial", "LFeatherVotes$State;", true)
  | 2 => ("FeatherVotes", "kept", "LFeatherVotes$State;", true)
  | 3 => ("FeatherVotes", "isKept", "Z", false)
  | 4 => ("FeatherVotes", "tape", "LFeatherVotes$Tape;", true)
  | 5 => ("FeatherVotes", "sheets", "[LFeatherVotes$Sheet;", true)
  | 6 => ("FeatherVotes", "orders", "LFeatherVotes$Orders;", true)
  | _ => ("FeatherVotes", "findings", "[I", true)
def tyX6 : Nat → FieldType := fun k => match k with
  | 0 => .object "FeatherVotes$State"
  | 1 => .object "FeatherVotes$State"
  | 2 => .object "FeatherVotes$State"
  | 3 => .boolean
  | 4 => .object "FeatherVotes$Tape"
  | 5 => .array (.object "FeatherVotes$Sheet")
  | 6 => .object "FeatherVotes$Orders"
  | _ => .array .int
theorem nmX6 : ∀ a, a < 8 → ∀ b, b < 8 → a ≠ b → (TX6 a).2.1 ≠ (TX6 b).2.1 := by decide +kernel
theorem tyX6_ok : ∀ k, k < 8 → parseFieldDescriptor (TX6 k).2.2.1 = some (tyX6 k) := by decide +kernel
abbrev cX6_init : ByteArray := prog_1_method_1_code
def yX6_init : MethodName := ⟨RX6, "<init>", "()V"⟩
abbrev cX6_bird : ByteArray := prog_1_method_2_code
def yX6_bird : MethodName := ⟨RX6, "bird", "(I)I"⟩
abbrev cX6_of : ByteArray := prog_1_method_3_code
def yX6_of : MethodName := ⟨RX6, "of", "(II)I"⟩
abbrev cX6_change : ByteArray := prog_1_method_4_code
def yX6_change : MethodName := ⟨RX6, "change", "(III)I"⟩
abbrev cX6_motion : ByteArray := prog_1_method_5_code
def yX6_motion : MethodName := ⟨RX6, "motion", "(I)I"⟩
abbrev cX6_told : ByteArray := prog_1_method_6_code
def yX6_told : MethodName := ⟨RX6, "told", "(II)I"⟩
abbrev cX6_tell : ByteArray := prog_1_method_7_code
def yX6_tell : MethodName := ⟨RX6, "tell", "(III)I"⟩
abbrev cX6_drops : ByteArray := prog_1_method_8_code
def yX6_drops : MethodName := ⟨RX6, "drops", "(II)I"⟩
abbrev cX6_side : ByteArray := prog_1_method_9_code
def yX6_side : MethodName := ⟨RX6, "side", "(II)I"⟩
abbrev cX6_passes : ByteArray := prog_1_method_10_code
def yX6_passes : MethodName := ⟨RX6, "passes", "(I)I"⟩
abbrev cX6_vote : ByteArray := prog_1_method_11_code
def yX6_vote : MethodName := ⟨RX6, "vote", "(I)I"⟩
abbrev cX6_seasons : ByteArray := prog_1_method_12_code
def yX6_seasons : MethodName := ⟨RX6, "seasons", "(I)I"⟩
abbrev cX6_now : ByteArray := prog_1_method_13_code
def yX6_now : MethodName := ⟨RX6, "now", "(I)I"⟩
abbrev cX6_clears : ByteArray := prog_1_method_14_code
def yX6_clears : MethodName := ⟨RX6, "clears", "()I"⟩
abbrev cX6_when : ByteArray := prog_1_method_15_code
def yX6_when : MethodName := ⟨RX6, "when", "(I)I"⟩
abbrev cX6_flies : ByteArray := prog_1_method_16_code
def yX6_flies : MethodName := ⟨RX6, "flies", "(I)I"⟩
abbrev cX6_plucked : ByteArray := prog_1_method_17_code
def yX6_plucked : MethodName := ⟨RX6, "plucked", "(I)I"⟩
abbrev cX6_hinges : ByteArray := prog_1_method_18_code
def yX6_hinges : MethodName := ⟨RX6, "hinges", "(I)I"⟩
abbrev cX6_sets : ByteArray := prog_1_method_19_code
def yX6_sets : MethodName := ⟨RX6, "sets", "(I)I"⟩
abbrev cX6_power : ByteArray := prog_1_method_20_code
def yX6_power : MethodName := ⟨RX6, "power", "(II)I"⟩
abbrev cX6_won : ByteArray := prog_1_method_21_code
def yX6_won : MethodName := ⟨RX6, "won", "(I)I"⟩
abbrev cX6_colour : ByteArray := prog_1_method_22_code
def yX6_colour : MethodName := ⟨RX6, "colour", "(I)I"⟩
abbrev cX6_kindFor : ByteArray := prog_1_method_23_code
def yX6_kindFor : MethodName := ⟨RX6, "kindFor", "(I)I"⟩
abbrev cX6_quorum : ByteArray := prog_1_method_24_code
def yX6_quorum : MethodName := ⟨RX6, "quorum", "(I)I"⟩
abbrev cX6_agenda : ByteArray := prog_1_method_25_code
def yX6_agenda : MethodName := ⟨RX6, "agenda", "(I)I"⟩
abbrev cX6_ith : ByteArray := prog_1_method_26_code
def yX6_ith : MethodName := ⟨RX6, "ith", "(II)I"⟩
abbrev cX6_ways : ByteArray := prog_1_method_27_code
def yX6_ways : MethodName := ⟨RX6, "ways", "(I)I"⟩
abbrev cX6_left : ByteArray := prog_1_method_28_code
def yX6_left : MethodName := ⟨RX6, "left", "(I)I"⟩
abbrev cX6_wind : ByteArray := prog_1_method_29_code
def yX6_wind : MethodName := ⟨RX6, "wind", "(III)J"⟩
abbrev cX6_fits : ByteArray := prog_1_method_30_code
def yX6_fits : MethodName := ⟨RX6, "fits", "(I)I"⟩
abbrev cX6_stolen : ByteArray := prog_1_method_31_code
def yX6_stolen : MethodName := ⟨RX6, "stolen", "(II)I"⟩
abbrev cX6_years : ByteArray := prog_1_method_32_code
def yX6_years : MethodName := ⟨RX6, "years", "(I)I"⟩
abbrev cX6_seed : ByteArray := prog_1_method_33_code
def yX6_seed : MethodName := ⟨RX6, "seed", "(I)I"⟩
abbrev cX6_feed : ByteArray := prog_1_method_34_code
def yX6_feed : MethodName := ⟨RX6, "feed", "(II)I"⟩
abbrev cX6_wipe : ByteArray := prog_1_method_35_code
def yX6_wipe : MethodName := ⟨RX6, "wipe", "()I"⟩
abbrev cX6_text : ByteArray := prog_1_method_36_code
def yX6_text : MethodName := ⟨RX6, "text", "()I"⟩
abbrev cX6_hold : ByteArray := prog_1_method_37_code
def yX6_hold : MethodName := ⟨RX6, "hold", "(II)I"⟩
abbrev cX6_as : ByteArray := prog_1_method_38_code
def yX6_as : MethodName := ⟨RX6, "as", "(II)I"⟩
abbrev cX6_sheet : ByteArray := prog_1_method_39_code
def yX6_sheet : MethodName := ⟨RX6, "sheet", "(III)I"⟩
abbrev cX6_write : ByteArray := prog_1_method_40_code
def yX6_write : MethodName := ⟨RX6, "write", "(III)I"⟩
abbrev cX6_copy : ByteArray := prog_1_method_41_code
def yX6_copy : MethodName := ⟨RX6, "copy", "(IIIII)I"⟩
abbrev cX6_load : ByteArray := prog_1_method_42_code
def yX6_load : MethodName := ⟨RX6, "load", "(I)I"⟩
abbrev cX6_judge : ByteArray := prog_1_method_43_code
def yX6_judge : MethodName := ⟨RX6, "judge", "(I)I"⟩
abbrev cX6_image : ByteArray := prog_1_method_44_code
def yX6_image : MethodName := ⟨RX6, "image", "()I"⟩
abbrev cX6_undo : ByteArray := prog_1_method_45_code
def yX6_undo : MethodName := ⟨RX6, "undo", "()I"⟩
abbrev cX6_tear : ByteArray := prog_1_method_46_code
def yX6_tear : MethodName := ⟨RX6, "tear", "()I"⟩
abbrev cX6_count : ByteArray := prog_1_method_47_code
def yX6_count : MethodName := ⟨RX6, "count", "(I)I"⟩
abbrev cX6_status : ByteArray := prog_1_method_48_code
def yX6_status : MethodName := ⟨RX6, "status", "(I)I"⟩
abbrev cX6_finding : ByteArray := prog_1_method_49_code
def yX6_finding : MethodName := ⟨RX6, "finding", "(I)I"⟩
abbrev cX6_isUpTo : ByteArray := prog_1_method_50_code
def yX6_isUpTo : MethodName := ⟨RX6, "isUpTo", "(II)Z"⟩
abbrev cX6_isAgenda : ByteArray := prog_1_method_51_code
def yX6_isAgenda : MethodName := ⟨RX6, "isAgenda", "(I)Z"⟩
abbrev cX6_tryWants : ByteArray := prog_1_method_52_code
def yX6_tryWants : MethodName := ⟨RX6, "tryWants", "(II)Z"⟩
abbrev cX6_isRobbed : ByteArray := prog_1_method_53_code
def yX6_isRobbed : MethodName := ⟨RX6, "isRobbed", "(LFeatherVotes$Bird;ILFeatherVotes$Sheet;)Z"⟩
abbrev cX6_commonDivisor : ByteArray := prog_1_method_54_code
def yX6_commonDivisor : MethodName := ⟨RX6, "commonDivisor", "(II)I"⟩
abbrev cX6_powerOf : ByteArray := prog_1_method_55_code
def yX6_powerOf : MethodName := ⟨RX6, "powerOf", "(II)J"⟩
def RX7 : String := "FeatherVotesModel"
def TX7 : u_T := fun k => match k with
  | 0 => ("FeatherVotesModel", "s", "[I", true)
  | 1 => ("FeatherVotesModel", "kept", "[I", true)
  | 2 => ("FeatherVotesModel", "aside", "[I", true)
  | 3 => ("FeatherVotesModel", "isKept", "Z", false)
  | 4 => ("FeatherVotesModel", "found", "[I", true)
  | 5 => ("FeatherVotesModel", "dropped", "[I", true)
  | 6 => ("FeatherVotesModel", "order", "[I", true)
  | 7 => ("FeatherVotesModel", "best", "[I", true)
  | 8 => ("FeatherVotesModel", "bestMany", "I", false)
  | 9 => ("FeatherVotesModel", "bestWays", "I", false)
  | 10 => ("FeatherVotesModel", "bestLeft", "I", false)
  | 11 => ("FeatherVotesModel", "tape", "[I", true)
  | 12 => ("FeatherVotesModel", "taped", "I", false)
  | 13 => ("FeatherVotesModel", "token", "I", false)
  | 14 => ("FeatherVotesModel", "begun", "I", false)
  | 15 => ("FeatherVotesModel", "ended", "I", false)
  | 16 => ("FeatherVotesModel", "value", "J", false)
  | 17 => ("FeatherVotesModel", "letters", "[C", true)
  | 18 => ("FeatherVotesModel", "more1", "[C", true)
  | 19 => ("FeatherVotesModel", "others", "[C", true)
  | 20 => ("FeatherVotesModel", "more2", "[C", true)
  | 21 => ("FeatherVotesModel", "widths", "[I", true)
  | 22 => ("FeatherVotesModel", "sizes", "[I", true)
  | 23 => ("FeatherVotesModel", "cells", "[I", true)
  | _ => ("FeatherVotesModel", "carried", "[I", true)
def tyX7 : Nat → FieldType := fun k => match k with
  | 0 => .array .int
  | 1 => .array .int
  | 2 => .array .int
  | 3 => .boolean
  | 4 => .array .int
  | 5 => .array .int
  | 6 => .array .int
  | 7 => .array .int
  | 8 => .int
  | 9 => .int
  | 10 => .int
  | 11 => .array .int
  | 12 => .int
  | 13 => .int
  | 14 => .int
  | 15 => .int
  | 16 => .long
  | 17 => .array .char
  | 18 => .array .char
  | 19 => .array .char
  | 20 => .array .char
  | 21 => .array .int
  | 22 => .array .int
  | 23 => .array .int
  | _ => .array .int
theorem nmX7 : ∀ a, a < 25 → ∀ b, b < 25 → a ≠ b → (TX7 a).2.1 ≠ (TX7 b).2.1 := by decide +kernel
theorem tyX7_ok : ∀ k, k < 25 → parseFieldDescriptor (TX7 k).2.2.1 = some (tyX7 k) := by decide +kernel
abbrev cX7_init : ByteArray := prog_9_method_1_code
def yX7_init : MethodName := ⟨RX7, "<init>", "()V"⟩
abbrev cX7_no : ByteArray := prog_9_method_2_code
def yX7_no : MethodName := ⟨RX7, "no", "(I)I"⟩
abbrev cX7_in1 : ByteArray := prog_9_method_3_code
def yX7_in1 : MethodName := ⟨RX7, "in1", "(III)Z"⟩
abbrev cX7_less : ByteArray := prog_9_method_4_code
def yX7_less : MethodName := ⟨RX7, "less", "(II)I"⟩
abbrev cX7_bits : ByteArray := prog_9_method_5_code
def yX7_bits : MethodName := ⟨RX7, "bits", "(I)I"⟩
abbrev cX7_isIn : ByteArray := prog_9_method_6_code
def yX7_isIn : MethodName := ⟨RX7, "isIn", "(II)Z"⟩
abbrev cX7_isBird : ByteArray := prog_9_method_7_code
def yX7_isBird : MethodName := ⟨RX7, "isBird", "(I)Z"⟩
abbrev cX7_isMotion : ByteArray := prog_9_method_8_code
def yX7_isMotion : MethodName := ⟨RX7, "isMotion", "(I)Z"⟩
abbrev cX7_get : ByteArray := prog_9_method_9_code
def yX7_get : MethodName := ⟨RX7, "get", "(II)I"⟩
abbrev cX7_puts : ByteArray := prog_9_method_10_code
def yX7_puts : MethodName := ⟨RX7, "puts", "(III)V"⟩
abbrev cX7_of1 : ByteArray := prog_9_method_11_code
def yX7_of1 : MethodName := ⟨RX7, "of1", "(II)I"⟩
abbrev cX7_puts1 : ByteArray := prog_9_method_12_code
def yX7_puts1 : MethodName := ⟨RX7, "puts1", "(III)V"⟩
abbrev cX7_allBirds : ByteArray := prog_9_method_13_code
def yX7_allBirds : MethodName := ⟨RX7, "allBirds", "()I"⟩
abbrev cX7_setsAside : ByteArray := prog_9_method_14_code
def yX7_setsAside : MethodName := ⟨RX7, "setsAside", "()V"⟩
abbrev cX7_laysBack : ByteArray := prog_9_method_15_code
def yX7_laysBack : MethodName := ⟨RX7, "laysBack", "()V"⟩
abbrev cX7_feathers : ByteArray := prog_9_method_16_code
def yX7_feathers : MethodName := ⟨RX7, "feathers", "(I)I"⟩
abbrev cX7_allFeathers : ByteArray := prog_9_method_17_code
def yX7_allFeathers : MethodName := ⟨RX7, "allFeathers", "()I"⟩
abbrev cX7_doesFly : ByteArray := prog_9_method_18_code
def yX7_doesFly : MethodName := ⟨RX7, "doesFly", "(I)Z"⟩
abbrev cX7_flying : ByteArray := prog_9_method_19_code
def yX7_flying : MethodName := ⟨RX7, "flying", "()I"⟩
abbrev cX7_crowsBeside : ByteArray := prog_9_method_20_code
def yX7_crowsBeside : MethodName := ⟨RX7, "crowsBeside", "(II)I"⟩
abbrev cX7_dropsBy : ByteArray := prog_9_method_21_code
def yX7_dropsBy : MethodName := ⟨RX7, "dropsBy", "(III)I"⟩
abbrev cX7_sideBy : ByteArray := prog_9_method_22_code
def yX7_sideBy : MethodName := ⟨RX7, "sideBy", "(IIZ)I"⟩
abbrev cX7_passesBy : ByteArray := prog_9_method_23_code
def yX7_passesBy : MethodName := ⟨RX7, "passesBy", "(II)Z"⟩
abbrev cX7_passesNow : ByteArray := prog_9_method_24_code
def yX7_passesNow : MethodName := ⟨RX7, "passesNow", "(I)Z"⟩
abbrev cX7_droppedAll : ByteArray := prog_9_method_25_code
def yX7_droppedAll : MethodName := ⟨RX7, "droppedAll", "(I)I"⟩
abbrev cX7_comesEffect : ByteArray := prog_9_method_26_code
def yX7_comesEffect : MethodName := ⟨RX7, "comesEffect", "(I)V"⟩
abbrev cX7_votes : ByteArray := prog_9_method_27_code
def yX7_votes : MethodName := ⟨RX7, "votes", "(I)Z"⟩
abbrev cX7_goesSeason : ByteArray := prog_9_method_28_code
def yX7_goesSeason : MethodName := ⟨RX7, "goesSeason", "()V"⟩
abbrev cX7_addsBird : ByteArray := prog_9_method_29_code
def yX7_addsBird : MethodName := ⟨RX7, "addsBird", "(I)V"⟩
abbrev cX7_addsMotion : ByteArray := prog_9_method_30_code
def yX7_addsMotion : MethodName := ⟨RX7, "addsMotion", "(I)V"⟩
abbrev cX7_bird : ByteArray := prog_9_method_31_code
def yX7_bird : MethodName := ⟨RX7, "bird", "(I)I"⟩
abbrev cX7_of : ByteArray := prog_9_method_32_code
def yX7_of : MethodName := ⟨RX7, "of", "(II)I"⟩
abbrev cX7_change : ByteArray := prog_9_method_33_code
def yX7_change : MethodName := ⟨RX7, "change", "(III)I"⟩
abbrev cX7_motion : ByteArray := prog_9_method_34_code
def yX7_motion : MethodName := ⟨RX7, "motion", "(I)I"⟩
abbrev cX7_told : ByteArray := prog_9_method_35_code
def yX7_told : MethodName := ⟨RX7, "told", "(II)I"⟩
abbrev cX7_greatest : ByteArray := prog_9_method_36_code
def yX7_greatest : MethodName := ⟨RX7, "greatest", "(I)I"⟩
abbrev cX7_tell : ByteArray := prog_9_method_37_code
def yX7_tell : MethodName := ⟨RX7, "tell", "(III)I"⟩
abbrev cX7_drops : ByteArray := prog_9_method_38_code
def yX7_drops : MethodName := ⟨RX7, "drops", "(II)I"⟩
abbrev cX7_side : ByteArray := prog_9_method_39_code
def yX7_side : MethodName := ⟨RX7, "side", "(II)I"⟩
abbrev cX7_passes : ByteArray := prog_9_method_40_code
def yX7_passes : MethodName := ⟨RX7, "passes", "(I)I"⟩
abbrev cX7_vote : ByteArray := prog_9_method_41_code
def yX7_vote : MethodName := ⟨RX7, "vote", "(I)I"⟩
abbrev cX7_seasons : ByteArray := prog_9_method_42_code
def yX7_seasons : MethodName := ⟨RX7, "seasons", "(I)I"⟩
abbrev cX7_laws : ByteArray := prog_9_method_43_code
def yX7_laws : MethodName := ⟨RX7, "laws", "()I"⟩
abbrev cX7_now : ByteArray := prog_9_method_44_code
def yX7_now : MethodName := ⟨RX7, "now", "(I)I"⟩
abbrev cX7_clears : ByteArray := prog_9_method_45_code
def yX7_clears : MethodName := ⟨RX7, "clears", "()I"⟩
abbrev cX7_when : ByteArray := prog_9_method_46_code
def yX7_when : MethodName := ⟨RX7, "when", "(I)I"⟩
abbrev cX7_flies : ByteArray := prog_9_method_47_code
def yX7_flies : MethodName := ⟨RX7, "flies", "(I)I"⟩
abbrev cX7_plucked : ByteArray := prog_9_method_48_code
def yX7_plucked : MethodName := ⟨RX7, "plucked", "(I)I"⟩
abbrev cX7_hinges : ByteArray := prog_9_method_49_code
def yX7_hinges : MethodName := ⟨RX7, "hinges", "(I)I"⟩
abbrev cX7_sets : ByteArray := prog_9_method_50_code
def yX7_sets : MethodName := ⟨RX7, "sets", "(I)I"⟩
abbrev cX7_power : ByteArray := prog_9_method_51_code
def yX7_power : MethodName := ⟨RX7, "power", "(II)I"⟩
abbrev cX7_won : ByteArray := prog_9_method_52_code
def yX7_won : MethodName := ⟨RX7, "won", "(I)I"⟩
abbrev cX7_colour : ByteArray := prog_9_method_53_code
def yX7_colour : MethodName := ⟨RX7, "colour", "(I)I"⟩
abbrev cX7_kindFor : ByteArray := prog_9_method_54_code
def yX7_kindFor : MethodName := ⟨RX7, "kindFor", "(I)I"⟩
abbrev cX7_quorum : ByteArray := prog_9_method_55_code
def yX7_quorum : MethodName := ⟨RX7, "quorum", "(I)I"⟩
abbrev cX7_isSet : ByteArray := prog_9_method_56_code
def yX7_isSet : MethodName := ⟨RX7, "isSet", "(I)Z"⟩
abbrev cX7_laysOrder : ByteArray := prog_9_method_57_code
def yX7_laysOrder : MethodName := ⟨RX7, "laysOrder", "(I)I"⟩
abbrev cX7_nextOrder : ByteArray := prog_9_method_58_code
def yX7_nextOrder : MethodName := ⟨RX7, "nextOrder", "(I)Z"⟩
abbrev cX7_swaps : ByteArray := prog_9_method_59_code
def yX7_swaps : MethodName := ⟨RX7, "swaps", "(II)V"⟩
abbrev cX7_findsOrder : ByteArray := prog_9_method_60_code
def yX7_findsOrder : MethodName := ⟨RX7, "findsOrder", "(I)V"⟩
abbrev cX7_agenda : ByteArray := prog_9_method_61_code
def yX7_agenda : MethodName := ⟨RX7, "agenda", "(I)I"⟩
abbrev cX7_ith : ByteArray := prog_9_method_62_code
def yX7_ith : MethodName := ⟨RX7, "ith", "(II)I"⟩
abbrev cX7_ways : ByteArray := prog_9_method_63_code
def yX7_ways : MethodName := ⟨RX7, "ways", "(I)I"⟩
abbrev cX7_left : ByteArray := prog_9_method_64_code
def yX7_left : MethodName := ⟨RX7, "left", "(I)I"⟩
abbrev cX7_power1 : ByteArray := prog_9_method_65_code
def yX7_power1 : MethodName := ⟨RX7, "power1", "(JI)J"⟩
abbrev cX7_wind : ByteArray := prog_9_method_66_code
def yX7_wind : MethodName := ⟨RX7, "wind", "(III)J"⟩
abbrev cX7_isSheet : ByteArray := prog_9_method_67_code
def yX7_isSheet : MethodName := ⟨RX7, "isSheet", "(I)Z"⟩
abbrev cX7_wrongSheet : ByteArray := prog_9_method_68_code
def yX7_wrongSheet : MethodName := ⟨RX7, "wrongSheet", "(I)I"⟩
abbrev cX7_isTold : ByteArray := prog_9_method_69_code
def yX7_isTold : MethodName := ⟨RX7, "isTold", "(III)Z"⟩
abbrev cX7_fits : ByteArray := prog_9_method_70_code
def yX7_fits : MethodName := ⟨RX7, "fits", "(I)I"⟩
abbrev cX7_stolen : ByteArray := prog_9_method_71_code
def yX7_stolen : MethodName := ⟨RX7, "stolen", "(II)I"⟩
abbrev cX7_draw : ByteArray := prog_9_method_72_code
def yX7_draw : MethodName := ⟨RX7, "draw", "()I"⟩
abbrev cX7_years : ByteArray := prog_9_method_73_code
def yX7_years : MethodName := ⟨RX7, "years", "(I)I"⟩
abbrev cX7_seed : ByteArray := prog_9_method_74_code
def yX7_seed : MethodName := ⟨RX7, "seed", "(I)I"⟩
abbrev cX7_feed : ByteArray := prog_9_method_75_code
def yX7_feed : MethodName := ⟨RX7, "feed", "(II)I"⟩
abbrev cX7_wipe : ByteArray := prog_9_method_76_code
def yX7_wipe : MethodName := ⟨RX7, "wipe", "()I"⟩
abbrev cX7_isLetter : ByteArray := prog_9_method_77_code
def yX7_isLetter : MethodName := ⟨RX7, "isLetter", "(I)Z"⟩
abbrev cX7_isDigit : ByteArray := prog_9_method_78_code
def yX7_isDigit : MethodName := ⟨RX7, "isDigit", "(I)Z"⟩
abbrev cX7_nextToken : ByteArray := prog_9_method_79_code
def yX7_nextToken : MethodName := ⟨RX7, "nextToken", "()V"⟩
abbrev cX7_wordOf : ByteArray := prog_9_method_80_code
def yX7_wordOf : MethodName := ⟨RX7, "wordOf", "([C)I"⟩
abbrev cX7_takesNumber : ByteArray := prog_9_method_81_code
def yX7_takesNumber : MethodName := ⟨RX7, "takesNumber", "(II)I"⟩
abbrev cX7_readsBird : ByteArray := prog_9_method_82_code
def yX7_readsBird : MethodName := ⟨RX7, "readsBird", "(I)Z"⟩
abbrev cX7_readsMotion : ByteArray := prog_9_method_83_code
def yX7_readsMotion : MethodName := ⟨RX7, "readsMotion", "()Z"⟩
abbrev cX7_readsItem : ByteArray := prog_9_method_84_code
def yX7_readsItem : MethodName := ⟨RX7, "readsItem", "()Z"⟩
abbrev cX7_text : ByteArray := prog_9_method_85_code
def yX7_text : MethodName := ⟨RX7, "text", "()I"⟩
abbrev cX7_isSpot : ByteArray := prog_9_method_86_code
def yX7_isSpot : MethodName := ⟨RX7, "isSpot", "(I)Z"⟩
abbrev cX7_hold : ByteArray := prog_9_method_87_code
def yX7_hold : MethodName := ⟨RX7, "hold", "(II)I"⟩
abbrev cX7_above : ByteArray := prog_9_method_88_code
def yX7_above : MethodName := ⟨RX7, "above", "(I)I"⟩
abbrev cX7_as : ByteArray := prog_9_method_89_code
def yX7_as : MethodName := ⟨RX7, "as", "(II)I"⟩
abbrev cX7_sheet : ByteArray := prog_9_method_90_code
def yX7_sheet : MethodName := ⟨RX7, "sheet", "(III)I"⟩
abbrev cX7_write : ByteArray := prog_9_method_91_code
def yX7_write : MethodName := ⟨RX7, "write", "(III)I"⟩
abbrev cX7_copy : ByteArray := prog_9_method_92_code
def yX7_copy : MethodName := ⟨RX7, "copy", "(IIIII)I"⟩
abbrev cX7_load : ByteArray := prog_9_method_93_code
def yX7_load : MethodName := ⟨RX7, "load", "(I)I"⟩
abbrev cX7_judge : ByteArray := prog_9_method_94_code
def yX7_judge : MethodName := ⟨RX7, "judge", "(I)I"⟩
abbrev cX7_image : ByteArray := prog_9_method_95_code
def yX7_image : MethodName := ⟨RX7, "image", "()I"⟩
abbrev cX7_undo : ByteArray := prog_9_method_96_code
def yX7_undo : MethodName := ⟨RX7, "undo", "()I"⟩
abbrev cX7_tear : ByteArray := prog_9_method_97_code
def yX7_tear : MethodName := ⟨RX7, "tear", "()I"⟩
abbrev cX7_count : ByteArray := prog_9_method_98_code
def yX7_count : MethodName := ⟨RX7, "count", "(I)I"⟩
abbrev cX7_status : ByteArray := prog_9_method_99_code
def yX7_status : MethodName := ⟨RX7, "status", "(I)I"⟩
def RJx145de : String := "java/io/Serializable"
def TJx145de : u_T := fun k => match k with
  | _ => ("", "", "", false)
def RJx9f9b0 : String := "java/lang/CharSequence"
def TJx9f9b0 : u_T := fun k => match k with
  | _ => ("", "", "", false)
def RJxb160c : String := "java/lang/Comparable"
def TJxb160c : u_T := fun k => match k with
  | _ => ("", "", "", false)
def RJ6 : String := "java/lang/Integer"
def TJ6 : u_T := fun k => match k with
  | _ => ("", "", "", false)
def tyJ6 : Nat → FieldType := fun k => match k with
  | _ => .int
theorem nmJ6 : ∀ a, a < 0 → ∀ b, b < 0 → a ≠ b → (TJ6 a).2.1 ≠ (TJ6 b).2.1 := by decide +kernel
theorem tyJ6_ok : ∀ k, k < 0 → parseFieldDescriptor (TJ6 k).2.2.1 = some (tyJ6 k) := by decide +kernel
abbrev cJ6_bitCount_0f7a4 : ByteArray := prog_10_method_49_code
def yJ6_bitCount_0f7a4 : MethodName := ⟨RJ6, "bitCount", "(I)I"⟩
def RJ9 : String := "java/lang/Math"
def TJ9 : u_T := fun k => match k with
  | _ => ("", "", "", false)
def tyJ9 : Nat → FieldType := fun k => match k with
  | _ => .int
theorem nmJ9 : ∀ a, a < 0 → ∀ b, b < 0 → a ≠ b → (TJ9 a).2.1 ≠ (TJ9 b).2.1 := by decide +kernel
theorem tyJ9_ok : ∀ k, k < 0 → parseFieldDescriptor (TJ9 k).2.2.1 = some (tyJ9 k) := by decide +kernel
abbrev cJ9_max_7cf53 : ByteArray := prog_11_method_65_code
def yJ9_max_7cf53 : MethodName := ⟨RJ9, "max", "(II)I"⟩
abbrev cJ9_min_7cf53 : ByteArray := prog_11_method_69_code
def yJ9_min_7cf53 : MethodName := ⟨RJ9, "min", "(II)I"⟩
def RJ0 : String := "java/lang/String"
def TJ0 : u_T := fun k => match k with
  | _ => ("", "", "", false)
def tyJ0 : Nat → FieldType := fun k => match k with
  | _ => .int
theorem nmJ0 : ∀ a, a < 0 → ∀ b, b < 0 → a ≠ b → (TJ0 a).2.1 ≠ (TJ0 b).2.1 := by decide +kernel
theorem tyJ0_ok : ∀ k, k < 0 → parseFieldDescriptor (TJ0 k).2.2.1 = some (tyJ0 k) := by decide +kernel
abbrev cJ0_length_8abf5 : ByteArray := prog_12_method_54_code
def yJ0_length_8abf5 : MethodName := ⟨RJ0, "length", "()I"⟩
abbrev cJ0_charAt_5068e : ByteArray := prog_12_method_56_code
def yJ0_charAt_5068e : MethodName := ⟨RJ0, "charAt", "(I)C"⟩
abbrev cJ0_coder_7d493 : ByteArray := prog_12_method_152_code
def yJ0_coder_7d493 : MethodName := ⟨RJ0, "coder", "()B"⟩
abbrev cJ0_isLatin1_aae02 : ByteArray := prog_12_method_154_code
def yJ0_isLatin1_aae02 : MethodName := ⟨RJ0, "isLatin1", "()Z"⟩
abbrev cJ0_checkIndex_df160 : ByteArray := prog_12_method_155_code
def yJ0_checkIndex_df160 : MethodName := ⟨RJ0, "checkIndex", "(II)V"⟩
def RJ1 : String := "java/lang/StringLatin1"
def TJ1 : u_T := fun k => match k with
  | _ => ("", "", "", false)
def tyJ1 : Nat → FieldType := fun k => match k with
  | _ => .int
theorem nmJ1 : ∀ a, a < 0 → ∀ b, b < 0 → a ≠ b → (TJ1 a).2.1 ≠ (TJ1 b).2.1 := by decide +kernel
theorem tyJ1_ok : ∀ k, k < 0 → parseFieldDescriptor (TJ1 k).2.2.1 = some (tyJ1 k) := by decide +kernel
abbrev cJ1_charAt_3b067 : ByteArray := prog_13_method_2_code
def yJ1_charAt_3b067 : MethodName := ⟨RJ1, "charAt", "([BI)C"⟩
def RJ2 : String := "java/lang/StringUTF16"
def TJ2 : u_T := fun k => match k with
  | _ => ("", "", "", false)
def tyJ2 : Nat → FieldType := fun k => match k with
  | _ => .int
theorem nmJ2 : ∀ a, a < 0 → ∀ b, b < 0 → a ≠ b → (TJ2 a).2.1 ≠ (TJ2 b).2.1 := by decide +kernel
theorem tyJ2_ok : ∀ k, k < 0 → parseFieldDescriptor (TJ2 k).2.2.1 = some (tyJ2 k) := by decide +kernel
abbrev cJ2_getChar_3b067 : ByteArray := prog_14_method_5_code
def yJ2_getChar_3b067 : MethodName := ⟨RJ2, "getChar", "([BI)C"⟩
abbrev cJ2_length_9d52b : ByteArray := prog_14_method_6_code
def yJ2_length_9d52b : MethodName := ⟨RJ2, "length", "([B)I"⟩
abbrev cJ2_charAt_3b067 : ByteArray := prog_14_method_83_code
def yJ2_charAt_3b067 : MethodName := ⟨RJ2, "charAt", "([BI)C"⟩
abbrev cJ2_checkIndex_2214a : ByteArray := prog_14_method_91_code
def yJ2_checkIndex_2214a : MethodName := ⟨RJ2, "checkIndex", "(I[B)V"⟩
def RJ10 : String := "java/lang/System"
def TJ10 : u_T := fun k => match k with
  | _ => ("", "", "", false)
def tyJ10 : Nat → FieldType := fun k => match k with
  | _ => .int
theorem nmJ10 : ∀ a, a < 0 → ∀ b, b < 0 → a ≠ b → (TJ10 a).2.1 ≠ (TJ10 b).2.1 := by decide +kernel
theorem tyJ10_ok : ∀ k, k < 0 → parseFieldDescriptor (TJ10 k).2.2.1 = some (tyJ10 k) := by decide +kernel
def RJxfd54e : String := "java/lang/constant/Constable"
def TJxfd54e : u_T := fun k => match k with
  | _ => ("", "", "", false)
def RJx3cf43 : String := "java/lang/constant/ConstantDesc"
def TJx3cf43 : u_T := fun k => match k with
  | _ => ("", "", "", false)
def RJ7 : String := "java/util/Arrays"
def TJ7 : u_T := fun k => match k with
  | _ => ("", "", "", false)
def tyJ7 : Nat → FieldType := fun k => match k with
  | _ => .int
theorem nmJ7 : ∀ a, a < 0 → ∀ b, b < 0 → a ≠ b → (TJ7 a).2.1 ≠ (TJ7 b).2.1 := by decide +kernel
theorem tyJ7_ok : ∀ k, k < 0 → parseFieldDescriptor (TJ7 k).2.2.1 = some (tyJ7 k) := by decide +kernel
abbrev cJ7_fill_53178 : ByteArray := prog_16_method_103_code
def yJ7_fill_53178 : MethodName := ⟨RJ7, "fill", "([II)V"⟩
def RJ3 : String := "jdk/internal/util/Preconditions"
def TJ3 : u_T := fun k => match k with
  | _ => ("", "", "", false)
def tyJ3 : Nat → FieldType := fun k => match k with
  | _ => .int
theorem nmJ3 : ∀ a, a < 0 → ∀ b, b < 0 → a ≠ b → (TJ3 a).2.1 ≠ (TJ3 b).2.1 := by decide +kernel
theorem tyJ3_ok : ∀ k, k < 0 → parseFieldDescriptor (TJ3 k).2.2.1 = some (tyJ3 k) := by decide +kernel
abbrev cJ3_checkIndex_8e157 : ByteArray := prog_17_method_11_code
def yJ3_checkIndex_8e157 : MethodName := ⟨RJ3, "checkIndex", "(IILjava/util/function/BiFunction;)I"⟩
def RL : String := "FeatherVotesLaw"
abbrev cL_law : ByteArray := code
def yL_law : MethodName := ⟨RL, "law", "([I)Z"⟩
abbrev vwCl : List vw_C := [(RX0, TX0, 4), (RX1, TX1, 5), (RX2, TX2, 6), (RX3, TX3, 3), (RX4, TX4, 8), (RX5, TX5, 7), (RX6, TX6, 8), (RX7, TX7, 25)]
end
section
theorem dX0_init_0 : decode cX0_init 0 = .ok (.aload_n 0, 1) := by decide +kernel
theorem dX0_init_1 : decode cX0_init 1 = .ok (.invokespecial 3, 3) := by decide +kernel
theorem dX0_init_4 : decode cX0_init 4 = .ok (.aload_n 0, 1) := by decide +kernel
theorem dX0_init_5 : decode cX0_init 5 = .ok (.iconst 4, 1) := by decide +kernel
theorem dX0_init_6 : decode cX0_init 6 = .ok (.newarray .int, 2) := by decide +kernel
theorem dX0_init_8 : decode cX0_init 8 = .ok (.putfield 9, 3) := by decide +kernel
theorem dX0_init_11 : decode cX0_init 11 = .ok (.return_, 1) := by decide +kernel
theorem dX0_hatch_0 : decode cX0_hatch 0 = .ok (.aload_n 0, 1) := by decide +kernel
theorem dX0_hatch_1 : decode cX0_hatch 1 = .ok (.iload_n 1, 1) := by decide +kernel
theorem dX0_hatch_2 : decode cX0_hatch 2 = .ok (.putfield 15, 3) := by decide +kernel
theorem dX0_hatch_5 : decode cX0_hatch 5 = .ok (.aload_n 0, 1) := by decide +kernel
theorem dX0_hatch_6 : decode cX0_hatch 6 = .ok (.iconst 2, 1) := by decide +kernel
theorem dX0_hatch_7 : decode cX0_hatch 7 = .ok (.putfield 19, 3) := by decide +kernel
theorem dX0_hatch_10 : decode cX0_hatch 10 = .ok (.aload_n 0, 1) := by decide +kernel
theorem dX0_hatch_11 : decode cX0_hatch 11 = .ok (.iconst 1, 1) := by decide +kernel
theorem dX0_hatch_12 : decode cX0_hatch 12 = .ok (.putfield 22, 3) := by decide +kernel
theorem dX0_hatch_15 : decode cX0_hatch 15 = .ok (.aload_n 0, 1) := by decide +kernel
theorem dX0_hatch_16 : decode cX0_hatch 16 = .ok (.getfield 9, 3) := by decide +kernel
theorem dX0_hatch_19 : decode cX0_hatch 19 = .ok (.iconst 0, 1) := by decide +kernel
theorem dX0_hatch_20 : decode cX0_hatch 20 = .ok (.invokestatic 25, 3) := by decide +kernel
theorem dX0_hatch_23 : decode cX0_hatch 23 = .ok (.return_, 1) := by decide +kernel
theorem dX0_become_0 : decode cX0_become 0 = .ok (.aload_n 0, 1) := by decide +kernel
theorem dX0_become_1 : decode cX0_become 1 = .ok (.aload_n 1, 1) := by decide +kernel
theorem dX0_become_2 : decode cX0_become 2 = .ok (.getfield 15, 3) := by decide +kernel
theorem dX0_become_5 : decode cX0_become 5 = .ok (.putfield 15, 3) := by decide +kernel
theorem dX0_become_8 : decode cX0_become 8 = .ok (.aload_n 0, 1) := by decide +kernel
theorem dX0_become_9 : decode cX0_become 9 = .ok (.aload_n 1, 1) := by decide +kernel
theorem dX0_become_10 : decode cX0_become 10 = .ok (.getfield 19, 3) := by decide +kernel
theorem dX0_become_13 : decode cX0_become 13 = .ok (.putfield 19, 3) := by decide +kernel
theorem dX0_become_16 : decode cX0_become 16 = .ok (.aload_n 0, 1) := by decide +kernel
theorem dX0_become_17 : decode cX0_become 17 = .ok (.aload_n 1, 1) := by decide +kernel
theorem dX0_become_18 : decode cX0_become 18 = .ok (.getfield 22, 3) := by decide +kernel
theorem dX0_become_21 : decode cX0_become 21 = .ok (.putfield 22, 3) := by decide +kernel
theorem dX0_become_24 : decode cX0_become 24 = .ok (.aload_n 1, 1) := by decide +kernel
theorem dX0_become_25 : decode cX0_become 25 = .ok (.getfield 9, 3) := by decide +kernel
theorem dX0_become_28 : decode cX0_become 28 = .ok (.iconst 0, 1) := by decide +kernel
theorem dX0_become_29 : decode cX0_become 29 = .ok (.aload_n 0, 1) := by decide +kernel
theorem dX0_become_30 : decode cX0_become 30 = .ok (.getfield 9, 3) := by decide +kernel
theorem dX0_become_33 : decode cX0_become 33 = .ok (.iconst 0, 1) := by decide +kernel
theorem dX0_become_34 : decode cX0_become 34 = .ok (.iconst 4, 1) := by decide +kernel
theorem dX0_become_35 : decode cX0_become 35 = .ok (.invokestatic 31, 3) := by decide +kernel
theorem dX0_become_38 : decode cX0_become 38 = .ok (.return_, 1) := by decide +kernel
theorem dX0_mostOf_0 : decode cX0_mostOf 0 = .ok (.iload_n 0, 1) := by decide +kernel
theorem dX0_mostOf_1 : decode cX0_mostOf 1 = .ok (.tableswitch 36 0 2 #[27, 30, 33], 27) := by decide +kernel
theorem dX0_mostOf_28 : decode cX0_mostOf 28 = .ok (.bipush 6, 2) := by decide +kernel
theorem dX0_mostOf_30 : decode cX0_mostOf 30 = .ok (.ireturn, 1) := by decide +kernel
theorem dX0_mostOf_31 : decode cX0_mostOf 31 = .ok (.bipush 99, 2) := by decide +kernel
theorem dX0_mostOf_33 : decode cX0_mostOf 33 = .ok (.ireturn, 1) := by decide +kernel
theorem dX0_mostOf_34 : decode cX0_mostOf 34 = .ok (.bipush 9, 2) := by decide +kernel
theorem dX0_mostOf_36 : decode cX0_mostOf 36 = .ok (.ireturn, 1) := by decide +kernel
theorem dX0_mostOf_37 : decode cX0_mostOf 37 = .ok (.bipush 99, 2) := by decide +kernel
theorem dX0_mostOf_39 : decode cX0_mostOf 39 = .ok (.ireturn, 1) := by decide +kernel
theorem dX0_feature_0 : decode cX0_feature 0 = .ok (.iload_n 1, 1) := by decide +kernel
theorem dX0_feature_1 : decode cX0_feature 1 = .ok (.tableswitch 84 0 8 #[51, 56, 61, 84, 84, 84, 84, 66, 71], 51) := by decide +kernel
theorem dX0_feature_52 : decode cX0_feature 52 = .ok (.aload_n 0, 1) := by decide +kernel
theorem dX0_feature_53 : decode cX0_feature 53 = .ok (.getfield 15, 3) := by decide +kernel
theorem dX0_feature_56 : decode cX0_feature 56 = .ok (.ireturn, 1) := by decide +kernel
theorem dX0_feature_57 : decode cX0_feature 57 = .ok (.aload_n 0, 1) := by decide +kernel
theorem dX0_feature_58 : decode cX0_feature 58 = .ok (.getfield 19, 3) := by decide +kernel
theorem dX0_feature_61 : decode cX0_feature 61 = .ok (.ireturn, 1) := by decide +kernel
theorem dX0_feature_62 : decode cX0_feature 62 = .ok (.aload_n 0, 1) := by decide +kernel
theorem dX0_feature_63 : decode cX0_feature 63 = .ok (.getfield 22, 3) := by decide +kernel
theorem dX0_feature_66 : decode cX0_feature 66 = .ok (.ireturn, 1) := by decide +kernel
theorem dX0_feature_67 : decode cX0_feature 67 = .ok (.aload_n 0, 1) := by decide +kernel
theorem dX0_feature_68 : decode cX0_feature 68 = .ok (.invokevirtual 37, 3) := by decide +kernel
theorem dX0_feature_71 : decode cX0_feature 71 = .ok (.ireturn, 1) := by decide +kernel
theorem dX0_feature_72 : decode cX0_feature 72 = .ok (.aload_n 0, 1) := by decide +kernel
theorem dX0_feature_73 : decode cX0_feature 73 = .ok (.invokevirtual 41, 3) := by decide +kernel
theorem dX0_feature_76 : decode cX0_feature 76 = .ok (.ifCond .eq 7, 3) := by decide +kernel
theorem dX0_feature_79 : decode cX0_feature 79 = .ok (.iconst 1, 1) := by decide +kernel
theorem dX0_feature_80 : decode cX0_feature 80 = .ok (.goto 4, 3) := by decide +kernel
theorem dX0_feature_83 : decode cX0_feature 83 = .ok (.iconst 0, 1) := by decide +kernel
theorem dX0_feature_84 : decode cX0_feature 84 = .ok (.ireturn, 1) := by decide +kernel
theorem dX0_feature_85 : decode cX0_feature 85 = .ok (.iload_n 1, 1) := by decide +kernel
theorem dX0_feature_86 : decode cX0_feature 86 = .ok (.iconst 3, 1) := by decide +kernel
theorem dX0_feature_87 : decode cX0_feature 87 = .ok (.isub, 1) := by decide +kernel
theorem dX0_feature_88 : decode cX0_feature 88 = .ok (.istore_n 2, 1) := by decide +kernel
theorem dX0_feature_89 : decode cX0_feature 89 = .ok (.iload_n 2, 1) := by decide +kernel
theorem dX0_feature_90 : decode cX0_feature 90 = .ok (.iconst 3, 1) := by decide +kernel
theorem dX0_feature_91 : decode cX0_feature 91 = .ok (.invokestatic 45, 3) := by decide +kernel
theorem dX0_feature_94 : decode cX0_feature 94 = .ok (.ifCond .eq 12, 3) := by decide +kernel
theorem dX0_feature_97 : decode cX0_feature 97 = .ok (.aload_n 0, 1) := by decide +kernel
theorem dX0_feature_98 : decode cX0_feature 98 = .ok (.getfield 9, 3) := by decide +kernel
theorem dX0_feature_101 : decode cX0_feature 101 = .ok (.iload_n 2, 1) := by decide +kernel
theorem dX0_feature_102 : decode cX0_feature 102 = .ok (.iaload, 1) := by decide +kernel
theorem dX0_feature_103 : decode cX0_feature 103 = .ok (.goto 4, 3) := by decide +kernel
theorem dX0_feature_106 : decode cX0_feature 106 = .ok (.iconst 0, 1) := by decide +kernel
theorem dX0_feature_107 : decode cX0_feature 107 = .ok (.ireturn, 1) := by decide +kernel
theorem dX0_setFeature_0 : decode cX0_setFeature 0 = .ok (.iload_n 1, 1) := by decide +kernel
theorem dX0_setFeature_1 : decode cX0_setFeature 1 = .ok (.iconst 3, 1) := by decide +kernel
theorem dX0_setFeature_2 : decode cX0_setFeature 2 = .ok (.isub, 1) := by decide +kernel
theorem dX0_setFeature_3 : decode cX0_setFeature 3 = .ok (.istore_n 3, 1) := by decide +kernel
theorem dX0_setFeature_4 : decode cX0_setFeature 4 = .ok (.iload_n 1, 1) := by decide +kernel
theorem dX0_setFeature_5 : decode cX0_setFeature 5 = .ok (.ifCond .ne 11, 3) := by decide +kernel
theorem dX0_setFeature_8 : decode cX0_setFeature 8 = .ok (.aload_n 0, 1) := by decide +kernel
theorem dX0_setFeature_9 : decode cX0_setFeature 9 = .ok (.iload_n 2, 1) := by decide +kernel
theorem dX0_setFeature_10 : decode cX0_setFeature 10 = .ok (.putfield 15, 3) := by decide +kernel
theorem dX0_setFeature_13 : decode cX0_setFeature 13 = .ok (.goto 44, 3) := by decide +kernel
theorem dX0_setFeature_16 : decode cX0_setFeature 16 = .ok (.iload_n 1, 1) := by decide +kernel
theorem dX0_setFeature_17 : decode cX0_setFeature 17 = .ok (.iconst 1, 1) := by decide +kernel
theorem dX0_setFeature_18 : decode cX0_setFeature 18 = .ok (.if_icmp .ne 11, 3) := by decide +kernel
theorem dX0_setFeature_21 : decode cX0_setFeature 21 = .ok (.aload_n 0, 1) := by decide +kernel
theorem dX0_setFeature_22 : decode cX0_setFeature 22 = .ok (.iload_n 2, 1) := by decide +kernel
theorem dX0_setFeature_23 : decode cX0_setFeature 23 = .ok (.putfield 19, 3) := by decide +kernel
theorem dX0_setFeature_26 : decode cX0_setFeature 26 = .ok (.goto 31, 3) := by decide +kernel
theorem dX0_setFeature_29 : decode cX0_setFeature 29 = .ok (.iload_n 1, 1) := by decide +kernel
theorem dX0_setFeature_30 : decode cX0_setFeature 30 = .ok (.iconst 2, 1) := by decide +kernel
theorem dX0_setFeature_31 : decode cX0_setFeature 31 = .ok (.if_icmp .ne 11, 3) := by decide +kernel
theorem dX0_setFeature_34 : decode cX0_setFeature 34 = .ok (.aload_n 0, 1) := by decide +kernel
theorem dX0_setFeature_35 : decode cX0_setFeature 35 = .ok (.iload_n 2, 1) := by decide +kernel
theorem dX0_setFeature_36 : decode cX0_setFeature 36 = .ok (.putfield 22, 3) := by decide +kernel
theorem dX0_setFeature_39 : decode cX0_setFeature 39 = .ok (.goto 18, 3) := by decide +kernel
theorem dX0_setFeature_42 : decode cX0_setFeature 42 = .ok (.iload_n 3, 1) := by decide +kernel
theorem dX0_setFeature_43 : decode cX0_setFeature 43 = .ok (.iconst 3, 1) := by decide +kernel
theorem dX0_setFeature_44 : decode cX0_setFeature 44 = .ok (.invokestatic 45, 3) := by decide +kernel
theorem dX0_setFeature_47 : decode cX0_setFeature 47 = .ok (.ifCond .eq 10, 3) := by decide +kernel
theorem dX0_setFeature_50 : decode cX0_setFeature 50 = .ok (.aload_n 0, 1) := by decide +kernel
theorem dX0_setFeature_51 : decode cX0_setFeature 51 = .ok (.getfield 9, 3) := by decide +kernel
theorem dX0_setFeature_54 : decode cX0_setFeature 54 = .ok (.iload_n 3, 1) := by decide +kernel
theorem dX0_setFeature_55 : decode cX0_setFeature 55 = .ok (.iload_n 2, 1) := by decide +kernel
theorem dX0_setFeature_56 : decode cX0_setFeature 56 = .ok (.iastore, 1) := by decide +kernel
theorem dX0_setFeature_57 : decode cX0_setFeature 57 = .ok (.return_, 1) := by decide +kernel
theorem dX0_allFeathers_0 : decode cX0_allFeathers 0 = .ok (.iconst 0, 1) := by decide +kernel
theorem dX0_allFeathers_1 : decode cX0_allFeathers 1 = .ok (.istore_n 1, 1) := by decide +kernel
theorem dX0_allFeathers_2 : decode cX0_allFeathers 2 = .ok (.iconst 0, 1) := by decide +kernel
theorem dX0_allFeathers_3 : decode cX0_allFeathers 3 = .ok (.istore_n 2, 1) := by decide +kernel
theorem dX0_allFeathers_4 : decode cX0_allFeathers 4 = .ok (.iload_n 2, 1) := by decide +kernel
theorem dX0_allFeathers_5 : decode cX0_allFeathers 5 = .ok (.iconst 4, 1) := by decide +kernel
theorem dX0_allFeathers_6 : decode cX0_allFeathers 6 = .ok (.if_icmp .ge 18, 3) := by decide +kernel
theorem dX0_allFeathers_9 : decode cX0_allFeathers 9 = .ok (.iload_n 1, 1) := by decide +kernel
theorem dX0_allFeathers_10 : decode cX0_allFeathers 10 = .ok (.aload_n 0, 1) := by decide +kernel
theorem dX0_allFeathers_11 : decode cX0_allFeathers 11 = .ok (.getfield 9, 3) := by decide +kernel
theorem dX0_allFeathers_14 : decode cX0_allFeathers 14 = .ok (.iload_n 2, 1) := by decide +kernel
theorem dX0_allFeathers_15 : decode cX0_allFeathers 15 = .ok (.iaload, 1) := by decide +kernel
theorem dX0_allFeathers_16 : decode cX0_allFeathers 16 = .ok (.iadd, 1) := by decide +kernel
theorem dX0_allFeathers_17 : decode cX0_allFeathers 17 = .ok (.istore_n 1, 1) := by decide +kernel
theorem dX0_allFeathers_18 : decode cX0_allFeathers 18 = .ok (.iinc 2 1, 3) := by decide +kernel
theorem dX0_allFeathers_21 : decode cX0_allFeathers 21 = .ok (.goto (-17), 3) := by decide +kernel
theorem dX0_allFeathers_24 : decode cX0_allFeathers 24 = .ok (.iload_n 1, 1) := by decide +kernel
theorem dX0_allFeathers_25 : decode cX0_allFeathers 25 = .ok (.ireturn, 1) := by decide +kernel
theorem dX0_canFly_0 : decode cX0_canFly 0 = .ok (.aload_n 0, 1) := by decide +kernel
theorem dX0_canFly_1 : decode cX0_canFly 1 = .ok (.invokevirtual 37, 3) := by decide +kernel
theorem dX0_canFly_4 : decode cX0_canFly 4 = .ok (.aload_n 0, 1) := by decide +kernel
theorem dX0_canFly_5 : decode cX0_canFly 5 = .ok (.getfield 19, 3) := by decide +kernel
theorem dX0_canFly_8 : decode cX0_canFly 8 = .ok (.if_icmp .lt 7, 3) := by decide +kernel
theorem dX0_canFly_11 : decode cX0_canFly 11 = .ok (.iconst 1, 1) := by decide +kernel
theorem dX0_canFly_12 : decode cX0_canFly 12 = .ok (.goto 4, 3) := by decide +kernel
theorem dX0_canFly_15 : decode cX0_canFly 15 = .ok (.iconst 0, 1) := by decide +kernel
theorem dX0_canFly_16 : decode cX0_canFly 16 = .ok (.ireturn, 1) := by decide +kernel
theorem dX0_isA_0 : decode cX0_isA 0 = .ok (.aload_n 0, 1) := by decide +kernel
theorem dX0_isA_1 : decode cX0_isA 1 = .ok (.getfield 15, 3) := by decide +kernel
theorem dX0_isA_4 : decode cX0_isA 4 = .ok (.istore_n 2, 1) := by decide +kernel
theorem dX0_isA_5 : decode cX0_isA 5 = .ok (.iconst 0, 1) := by decide +kernel
theorem dX0_isA_6 : decode cX0_isA 6 = .ok (.istore_n 3, 1) := by decide +kernel
theorem dX0_isA_7 : decode cX0_isA 7 = .ok (.iload_n 3, 1) := by decide +kernel
theorem dX0_isA_8 : decode cX0_isA 8 = .ok (.bipush 7, 2) := by decide +kernel
theorem dX0_isA_10 : decode cX0_isA 10 = .ok (.if_icmp .ge 32, 3) := by decide +kernel
theorem dX0_isA_13 : decode cX0_isA 13 = .ok (.iload_n 2, 1) := by decide +kernel
theorem dX0_isA_14 : decode cX0_isA 14 = .ok (.ifCond .lt 28, 3) := by decide +kernel
theorem dX0_isA_17 : decode cX0_isA 17 = .ok (.iload_n 2, 1) := by decide +kernel
theorem dX0_isA_18 : decode cX0_isA 18 = .ok (.bipush 7, 2) := by decide +kernel
theorem dX0_isA_20 : decode cX0_isA 20 = .ok (.if_icmp .ge 22, 3) := by decide +kernel
theorem dX0_isA_23 : decode cX0_isA 23 = .ok (.iload_n 2, 1) := by decide +kernel
theorem dX0_isA_24 : decode cX0_isA 24 = .ok (.iload_n 1, 1) := by decide +kernel
theorem dX0_isA_25 : decode cX0_isA 25 = .ok (.if_icmp .ne 5, 3) := by decide +kernel
theorem dX0_isA_28 : decode cX0_isA 28 = .ok (.iconst 1, 1) := by decide +kernel
theorem dX0_isA_29 : decode cX0_isA 29 = .ok (.ireturn, 1) := by decide +kernel
theorem dX0_isA_30 : decode cX0_isA 30 = .ok (.getstatic 49, 3) := by decide +kernel
theorem dX0_isA_33 : decode cX0_isA 33 = .ok (.iload_n 2, 1) := by decide +kernel
theorem dX0_isA_34 : decode cX0_isA 34 = .ok (.iaload, 1) := by decide +kernel
theorem dX0_isA_35 : decode cX0_isA 35 = .ok (.istore_n 2, 1) := by decide +kernel
theorem dX0_isA_36 : decode cX0_isA 36 = .ok (.iinc 3 1, 3) := by decide +kernel
theorem dX0_isA_39 : decode cX0_isA 39 = .ok (.goto (-32), 3) := by decide +kernel
theorem dX0_isA_42 : decode cX0_isA 42 = .ok (.iconst 0, 1) := by decide +kernel
theorem dX0_isA_43 : decode cX0_isA 43 = .ok (.ireturn, 1) := by decide +kernel
theorem dX0_grow_0 : decode cX0_grow 0 = .ok (.aload_n 0, 1) := by decide +kernel
theorem dX0_grow_1 : decode cX0_grow 1 = .ok (.getfield 9, 3) := by decide +kernel
theorem dX0_grow_4 : decode cX0_grow 4 = .ok (.iload_n 1, 1) := by decide +kernel
theorem dX0_grow_5 : decode cX0_grow 5 = .ok (.bipush 99, 2) := by decide +kernel
theorem dX0_grow_7 : decode cX0_grow 7 = .ok (.aload_n 0, 1) := by decide +kernel
theorem dX0_grow_8 : decode cX0_grow 8 = .ok (.getfield 9, 3) := by decide +kernel
theorem dX0_grow_11 : decode cX0_grow 11 = .ok (.iload_n 1, 1) := by decide +kernel
theorem dX0_grow_12 : decode cX0_grow 12 = .ok (.iaload, 1) := by decide +kernel
theorem dX0_grow_13 : decode cX0_grow 13 = .ok (.aload_n 0, 1) := by decide +kernel
theorem dX0_grow_14 : decode cX0_grow 14 = .ok (.getfield 22, 3) := by decide +kernel
theorem dX0_grow_17 : decode cX0_grow 17 = .ok (.iadd, 1) := by decide +kernel
theorem dX0_grow_18 : decode cX0_grow 18 = .ok (.invokestatic 52, 3) := by decide +kernel
theorem dX0_grow_21 : decode cX0_grow 21 = .ok (.iastore, 1) := by decide +kernel
theorem dX0_grow_22 : decode cX0_grow 22 = .ok (.return_, 1) := by decide +kernel
theorem dX0_dropFor_0 : decode cX0_dropFor 0 = .ok (.aload_n 0, 1) := by decide +kernel
theorem dX0_dropFor_1 : decode cX0_dropFor 1 = .ok (.getfield 15, 3) := by decide +kernel
theorem dX0_dropFor_4 : decode cX0_dropFor 4 = .ok (.tableswitch 130 1 6 #[40, 56, 61, 68, 77, 97], 40) := by decide +kernel
theorem dX0_dropFor_44 : decode cX0_dropFor 44 = .ok (.aload_n 1, 1) := by decide +kernel
theorem dX0_dropFor_45 : decode cX0_dropFor 45 = .ok (.getfield 58, 3) := by decide +kernel
theorem dX0_dropFor_48 : decode cX0_dropFor 48 = .ok (.ifCond .ne 7, 3) := by decide +kernel
theorem dX0_dropFor_51 : decode cX0_dropFor 51 = .ok (.iconst 1, 1) := by decide +kernel
theorem dX0_dropFor_52 : decode cX0_dropFor 52 = .ok (.goto 4, 3) := by decide +kernel
theorem dX0_dropFor_55 : decode cX0_dropFor 55 = .ok (.iconst 0, 1) := by decide +kernel
theorem dX0_dropFor_56 : decode cX0_dropFor 56 = .ok (.istore_n 3, 1) := by decide +kernel
theorem dX0_dropFor_57 : decode cX0_dropFor 57 = .ok (.goto 79, 3) := by decide +kernel
theorem dX0_dropFor_60 : decode cX0_dropFor 60 = .ok (.iload_n 2, 1) := by decide +kernel
theorem dX0_dropFor_61 : decode cX0_dropFor 61 = .ok (.istore_n 3, 1) := by decide +kernel
theorem dX0_dropFor_62 : decode cX0_dropFor 62 = .ok (.goto 74, 3) := by decide +kernel
theorem dX0_dropFor_65 : decode cX0_dropFor 65 = .ok (.iconst 2, 1) := by decide +kernel
theorem dX0_dropFor_66 : decode cX0_dropFor 66 = .ok (.iload_n 2, 1) := by decide +kernel
theorem dX0_dropFor_67 : decode cX0_dropFor 67 = .ok (.imul, 1) := by decide +kernel
theorem dX0_dropFor_68 : decode cX0_dropFor 68 = .ok (.istore_n 3, 1) := by decide +kernel
theorem dX0_dropFor_69 : decode cX0_dropFor 69 = .ok (.goto 67, 3) := by decide +kernel
theorem dX0_dropFor_72 : decode cX0_dropFor 72 = .ok (.iconst 2, 1) := by decide +kernel
theorem dX0_dropFor_73 : decode cX0_dropFor 73 = .ok (.iload_n 2, 1) := by decide +kernel
theorem dX0_dropFor_74 : decode cX0_dropFor 74 = .ok (.imul, 1) := by decide +kernel
theorem dX0_dropFor_75 : decode cX0_dropFor 75 = .ok (.iconst 1, 1) := by decide +kernel
theorem dX0_dropFor_76 : decode cX0_dropFor 76 = .ok (.iadd, 1) := by decide +kernel
theorem dX0_dropFor_77 : decode cX0_dropFor 77 = .ok (.istore_n 3, 1) := by decide +kernel
theorem dX0_dropFor_78 : decode cX0_dropFor 78 = .ok (.goto 58, 3) := by decide +kernel
theorem dX0_dropFor_81 : decode cX0_dropFor 81 = .ok (.aload_n 0, 1) := by decide +kernel
theorem dX0_dropFor_82 : decode cX0_dropFor 82 = .ok (.invokevirtual 37, 3) := by decide +kernel
theorem dX0_dropFor_85 : decode cX0_dropFor 85 = .ok (.aload_n 0, 1) := by decide +kernel
theorem dX0_dropFor_86 : decode cX0_dropFor 86 = .ok (.getfield 19, 3) := by decide +kernel
theorem dX0_dropFor_89 : decode cX0_dropFor 89 = .ok (.if_icmp .le 7, 3) := by decide +kernel
theorem dX0_dropFor_92 : decode cX0_dropFor 92 = .ok (.iconst 1, 1) := by decide +kernel
theorem dX0_dropFor_93 : decode cX0_dropFor 93 = .ok (.goto 4, 3) := by decide +kernel
theorem dX0_dropFor_96 : decode cX0_dropFor 96 = .ok (.iconst 0, 1) := by decide +kernel
theorem dX0_dropFor_97 : decode cX0_dropFor 97 = .ok (.istore_n 3, 1) := by decide +kernel
theorem dX0_dropFor_98 : decode cX0_dropFor 98 = .ok (.goto 38, 3) := by decide +kernel
theorem dX0_dropFor_101 : decode cX0_dropFor 101 = .ok (.aload_n 0, 1) := by decide +kernel
theorem dX0_dropFor_102 : decode cX0_dropFor 102 = .ok (.invokevirtual 37, 3) := by decide +kernel
theorem dX0_dropFor_105 : decode cX0_dropFor 105 = .ok (.aload_n 0, 1) := by decide +kernel
theorem dX0_dropFor_106 : decode cX0_dropFor 106 = .ok (.getfield 19, 3) := by decide +kernel
theorem dX0_dropFor_109 : decode cX0_dropFor 109 = .ok (.if_icmp .le 7, 3) := by decide +kernel
theorem dX0_dropFor_112 : decode cX0_dropFor 112 = .ok (.iconst 1, 1) := by decide +kernel
theorem dX0_dropFor_113 : decode cX0_dropFor 113 = .ok (.goto 4, 3) := by decide +kernel
theorem dX0_dropFor_116 : decode cX0_dropFor 116 = .ok (.iconst 0, 1) := by decide +kernel
theorem dX0_dropFor_117 : decode cX0_dropFor 117 = .ok (.aload_n 1, 1) := by decide +kernel
theorem dX0_dropFor_118 : decode cX0_dropFor 118 = .ok (.getfield 63, 3) := by decide +kernel
theorem dX0_dropFor_121 : decode cX0_dropFor 121 = .ok (.ifCond .ne 7, 3) := by decide +kernel
theorem dX0_dropFor_124 : decode cX0_dropFor 124 = .ok (.iconst 1, 1) := by decide +kernel
theorem dX0_dropFor_125 : decode cX0_dropFor 125 = .ok (.goto 4, 3) := by decide +kernel
theorem dX0_dropFor_128 : decode cX0_dropFor 128 = .ok (.iconst 0, 1) := by decide +kernel
theorem dX0_dropFor_129 : decode cX0_dropFor 129 = .ok (.iadd, 1) := by decide +kernel
theorem dX0_dropFor_130 : decode cX0_dropFor 130 = .ok (.istore_n 3, 1) := by decide +kernel
theorem dX0_dropFor_131 : decode cX0_dropFor 131 = .ok (.goto 5, 3) := by decide +kernel
theorem dX0_dropFor_134 : decode cX0_dropFor 134 = .ok (.iconst 1, 1) := by decide +kernel
theorem dX0_dropFor_135 : decode cX0_dropFor 135 = .ok (.istore_n 3, 1) := by decide +kernel
theorem dX0_dropFor_136 : decode cX0_dropFor 136 = .ok (.aload_n 0, 1) := by decide +kernel
theorem dX0_dropFor_137 : decode cX0_dropFor 137 = .ok (.getfield 9, 3) := by decide +kernel
theorem dX0_dropFor_140 : decode cX0_dropFor 140 = .ok (.aload_n 1, 1) := by decide +kernel
theorem dX0_dropFor_141 : decode cX0_dropFor 141 = .ok (.getfield 58, 3) := by decide +kernel
theorem dX0_dropFor_144 : decode cX0_dropFor 144 = .ok (.iaload, 1) := by decide +kernel
theorem dX0_dropFor_145 : decode cX0_dropFor 145 = .ok (.iload_n 3, 1) := by decide +kernel
theorem dX0_dropFor_146 : decode cX0_dropFor 146 = .ok (.invokestatic 52, 3) := by decide +kernel
theorem dX0_dropFor_149 : decode cX0_dropFor 149 = .ok (.ireturn, 1) := by decide +kernel
theorem dX1_init_0 : decode cX1_init 0 = .ok (.aload_n 0, 1) := by decide +kernel
theorem dX1_init_1 : decode cX1_init 1 = .ok (.invokespecial 3, 3) := by decide +kernel
theorem dX1_init_4 : decode cX1_init 4 = .ok (.return_, 1) := by decide +kernel
theorem dX1_begin_0 : decode cX1_begin 0 = .ok (.aload_n 0, 1) := by decide +kernel
theorem dX1_begin_1 : decode cX1_begin 1 = .ok (.iload_n 1, 1) := by decide +kernel
theorem dX1_begin_2 : decode cX1_begin 2 = .ok (.putfield 9, 3) := by decide +kernel
theorem dX1_begin_5 : decode cX1_begin 5 = .ok (.aload_n 0, 1) := by decide +kernel
theorem dX1_begin_6 : decode cX1_begin 6 = .ok (.iconst 1, 1) := by decide +kernel
theorem dX1_begin_7 : decode cX1_begin 7 = .ok (.putfield 15, 3) := by decide +kernel
theorem dX1_begin_10 : decode cX1_begin 10 = .ok (.aload_n 0, 1) := by decide +kernel
theorem dX1_begin_11 : decode cX1_begin 11 = .ok (.iconst 0, 1) := by decide +kernel
theorem dX1_begin_12 : decode cX1_begin 12 = .ok (.putfield 18, 3) := by decide +kernel
theorem dX1_begin_15 : decode cX1_begin 15 = .ok (.aload_n 0, 1) := by decide +kernel
theorem dX1_begin_16 : decode cX1_begin 16 = .ok (.iconst 0, 1) := by decide +kernel
theorem dX1_begin_17 : decode cX1_begin 17 = .ok (.putfield 21, 3) := by decide +kernel
theorem dX1_begin_20 : decode cX1_begin 20 = .ok (.aload_n 0, 1) := by decide +kernel
theorem dX1_begin_21 : decode cX1_begin 21 = .ok (.iconst 0, 1) := by decide +kernel
theorem dX1_begin_22 : decode cX1_begin 22 = .ok (.putfield 24, 3) := by decide +kernel
theorem dX1_begin_25 : decode cX1_begin 25 = .ok (.return_, 1) := by decide +kernel
theorem dX1_become_0 : decode cX1_become 0 = .ok (.aload_n 0, 1) := by decide +kernel
theorem dX1_become_1 : decode cX1_become 1 = .ok (.aload_n 1, 1) := by decide +kernel
theorem dX1_become_2 : decode cX1_become 2 = .ok (.getfield 9, 3) := by decide +kernel
theorem dX1_become_5 : decode cX1_become 5 = .ok (.putfield 9, 3) := by decide +kernel
theorem dX1_become_8 : decode cX1_become 8 = .ok (.aload_n 0, 1) := by decide +kernel
theorem dX1_become_9 : decode cX1_become 9 = .ok (.aload_n 1, 1) := by decide +kernel
theorem dX1_become_10 : decode cX1_become 10 = .ok (.getfield 15, 3) := by decide +kernel
theorem dX1_become_13 : decode cX1_become 13 = .ok (.putfield 15, 3) := by decide +kernel
theorem dX1_become_16 : decode cX1_become 16 = .ok (.aload_n 0, 1) := by decide +kernel
theorem dX1_become_17 : decode cX1_become 17 = .ok (.aload_n 1, 1) := by decide +kernel
theorem dX1_become_18 : decode cX1_become 18 = .ok (.getfield 18, 3) := by decide +kernel
theorem dX1_become_21 : decode cX1_become 21 = .ok (.putfield 18, 3) := by decide +kernel
theorem dX1_become_24 : decode cX1_become 24 = .ok (.aload_n 0, 1) := by decide +kernel
theorem dX1_become_25 : decode cX1_become 25 = .ok (.aload_n 1, 1) := by decide +kernel
theorem dX1_become_26 : decode cX1_become 26 = .ok (.getfield 21, 3) := by decide +kernel
theorem dX1_become_29 : decode cX1_become 29 = .ok (.putfield 21, 3) := by decide +kernel
theorem dX1_become_32 : decode cX1_become 32 = .ok (.aload_n 0, 1) := by decide +kernel
theorem dX1_become_33 : decode cX1_become 33 = .ok (.aload_n 1, 1) := by decide +kernel
theorem dX1_become_34 : decode cX1_become 34 = .ok (.getfield 24, 3) := by decide +kernel
theorem dX1_become_37 : decode cX1_become 37 = .ok (.putfield 24, 3) := by decide +kernel
theorem dX1_become_40 : decode cX1_become 40 = .ok (.return_, 1) := by decide +kernel
theorem dX1_mostOf_0 : decode cX1_mostOf 0 = .ok (.iload_n 0, 1) := by decide +kernel
theorem dX1_mostOf_1 : decode cX1_mostOf 1 = .ok (.tableswitch 40 0 3 #[31, 33, 36, 38], 31) := by decide +kernel
theorem dX1_mostOf_32 : decode cX1_mostOf 32 = .ok (.iconst 3, 1) := by decide +kernel
theorem dX1_mostOf_33 : decode cX1_mostOf 33 = .ok (.ireturn, 1) := by decide +kernel
theorem dX1_mostOf_34 : decode cX1_mostOf 34 = .ok (.bipush 99, 2) := by decide +kernel
theorem dX1_mostOf_36 : decode cX1_mostOf 36 = .ok (.ireturn, 1) := by decide +kernel
theorem dX1_mostOf_37 : decode cX1_mostOf 37 = .ok (.iload_n 1, 1) := by decide +kernel
theorem dX1_mostOf_38 : decode cX1_mostOf 38 = .ok (.ireturn, 1) := by decide +kernel
theorem dX1_mostOf_39 : decode cX1_mostOf 39 = .ok (.iconst 4, 1) := by decide +kernel
theorem dX1_mostOf_40 : decode cX1_mostOf 40 = .ok (.ireturn, 1) := by decide +kernel
theorem dX1_mostOf_41 : decode cX1_mostOf 41 = .ok (.iconst 1, 1) := by decide +kernel
theorem dX1_mostOf_42 : decode cX1_mostOf 42 = .ok (.ireturn, 1) := by decide +kernel
theorem dX1_feature_0 : decode cX1_feature 0 = .ok (.iload_n 1, 1) := by decide +kernel
theorem dX1_feature_1 : decode cX1_feature 1 = .ok (.tableswitch 51 0 3 #[31, 36, 41, 46], 31) := by decide +kernel
theorem dX1_feature_32 : decode cX1_feature 32 = .ok (.aload_n 0, 1) := by decide +kernel
theorem dX1_feature_33 : decode cX1_feature 33 = .ok (.getfield 9, 3) := by decide +kernel
theorem dX1_feature_36 : decode cX1_feature 36 = .ok (.ireturn, 1) := by decide +kernel
theorem dX1_feature_37 : decode cX1_feature 37 = .ok (.aload_n 0, 1) := by decide +kernel
theorem dX1_feature_38 : decode cX1_feature 38 = .ok (.getfield 15, 3) := by decide +kernel
theorem dX1_feature_41 : decode cX1_feature 41 = .ok (.ireturn, 1) := by decide +kernel
theorem dX1_feature_42 : decode cX1_feature 42 = .ok (.aload_n 0, 1) := by decide +kernel
theorem dX1_feature_43 : decode cX1_feature 43 = .ok (.getfield 18, 3) := by decide +kernel
theorem dX1_feature_46 : decode cX1_feature 46 = .ok (.ireturn, 1) := by decide +kernel
theorem dX1_feature_47 : decode cX1_feature 47 = .ok (.aload_n 0, 1) := by decide +kernel
theorem dX1_feature_48 : decode cX1_feature 48 = .ok (.getfield 21, 3) := by decide +kernel
theorem dX1_feature_51 : decode cX1_feature 51 = .ok (.ireturn, 1) := by decide +kernel
theorem dX1_feature_52 : decode cX1_feature 52 = .ok (.aload_n 0, 1) := by decide +kernel
theorem dX1_feature_53 : decode cX1_feature 53 = .ok (.getfield 24, 3) := by decide +kernel
theorem dX1_feature_56 : decode cX1_feature 56 = .ok (.ireturn, 1) := by decide +kernel
theorem dX1_setFeature_0 : decode cX1_setFeature 0 = .ok (.iload_n 1, 1) := by decide +kernel
theorem dX1_setFeature_1 : decode cX1_setFeature 1 = .ok (.tableswitch 63 0 3 #[31, 39, 47, 55], 31) := by decide +kernel
theorem dX1_setFeature_32 : decode cX1_setFeature 32 = .ok (.aload_n 0, 1) := by decide +kernel
theorem dX1_setFeature_33 : decode cX1_setFeature 33 = .ok (.iload_n 2, 1) := by decide +kernel
theorem dX1_setFeature_34 : decode cX1_setFeature 34 = .ok (.putfield 9, 3) := by decide +kernel
theorem dX1_setFeature_37 : decode cX1_setFeature 37 = .ok (.goto 32, 3) := by decide +kernel
theorem dX1_setFeature_40 : decode cX1_setFeature 40 = .ok (.aload_n 0, 1) := by decide +kernel
theorem dX1_setFeature_41 : decode cX1_setFeature 41 = .ok (.iload_n 2, 1) := by decide +kernel
theorem dX1_setFeature_42 : decode cX1_setFeature 42 = .ok (.putfield 15, 3) := by decide +kernel
theorem dX1_setFeature_45 : decode cX1_setFeature 45 = .ok (.goto 24, 3) := by decide +kernel
theorem dX1_setFeature_48 : decode cX1_setFeature 48 = .ok (.aload_n 0, 1) := by decide +kernel
theorem dX1_setFeature_49 : decode cX1_setFeature 49 = .ok (.iload_n 2, 1) := by decide +kernel
theorem dX1_setFeature_50 : decode cX1_setFeature 50 = .ok (.putfield 18, 3) := by decide +kernel
theorem dX1_setFeature_53 : decode cX1_setFeature 53 = .ok (.goto 16, 3) := by decide +kernel
theorem dX1_setFeature_56 : decode cX1_setFeature 56 = .ok (.aload_n 0, 1) := by decide +kernel
theorem dX1_setFeature_57 : decode cX1_setFeature 57 = .ok (.iload_n 2, 1) := by decide +kernel
theorem dX1_setFeature_58 : decode cX1_setFeature 58 = .ok (.putfield 21, 3) := by decide +kernel
theorem dX1_setFeature_61 : decode cX1_setFeature 61 = .ok (.goto 8, 3) := by decide +kernel
theorem dX1_setFeature_64 : decode cX1_setFeature 64 = .ok (.aload_n 0, 1) := by decide +kernel
theorem dX1_setFeature_65 : decode cX1_setFeature 65 = .ok (.iload_n 2, 1) := by decide +kernel
theorem dX1_setFeature_66 : decode cX1_setFeature 66 = .ok (.putfield 24, 3) := by decide +kernel
theorem dX1_setFeature_69 : decode cX1_setFeature 69 = .ok (.return_, 1) := by decide +kernel
theorem dX1_isCarriedBy_0 : decode cX1_isCarriedBy 0 = .ok (.iload_n 1, 1) := by decide +kernel
theorem dX1_isCarriedBy_1 : decode cX1_isCarriedBy 1 = .ok (.iload_n 2, 1) := by decide +kernel
theorem dX1_isCarriedBy_2 : decode cX1_isCarriedBy 2 = .ok (.if_icmp .le 17, 3) := by decide +kernel
theorem dX1_isCarriedBy_5 : decode cX1_isCarriedBy 5 = .ok (.iload_n 1, 1) := by decide +kernel
theorem dX1_isCarriedBy_6 : decode cX1_isCarriedBy 6 = .ok (.iload_n 2, 1) := by decide +kernel
theorem dX1_isCarriedBy_7 : decode cX1_isCarriedBy 7 = .ok (.iadd, 1) := by decide +kernel
theorem dX1_isCarriedBy_8 : decode cX1_isCarriedBy 8 = .ok (.aload_n 0, 1) := by decide +kernel
theorem dX1_isCarriedBy_9 : decode cX1_isCarriedBy 9 = .ok (.getfield 15, 3) := by decide +kernel
theorem dX1_isCarriedBy_12 : decode cX1_isCarriedBy 12 = .ok (.if_icmp .lt 7, 3) := by decide +kernel
theorem dX1_isCarriedBy_15 : decode cX1_isCarriedBy 15 = .ok (.iconst 1, 1) := by decide +kernel
theorem dX1_isCarriedBy_16 : decode cX1_isCarriedBy 16 = .ok (.goto 4, 3) := by decide +kernel
theorem dX1_isCarriedBy_19 : decode cX1_isCarriedBy 19 = .ok (.iconst 0, 1) := by decide +kernel
theorem dX1_isCarriedBy_20 : decode cX1_isCarriedBy 20 = .ok (.ireturn, 1) := by decide +kernel
theorem dX2_init_0 : decode cX2_init 0 = .ok (.aload_n 0, 1) := by decide +kernel
theorem dX2_init_1 : decode cX2_init 1 = .ok (.invokespecial 3, 3) := by decide +kernel
theorem dX2_init_4 : decode cX2_init 4 = .ok (.aload_n 0, 1) := by decide +kernel
theorem dX2_init_5 : decode cX2_init 5 = .ok (.iconst 5, 1) := by decide +kernel
theorem dX2_init_6 : decode cX2_init 6 = .ok (.newarray .int, 2) := by decide +kernel
theorem dX2_init_8 : decode cX2_init 8 = .ok (.putfield 9, 3) := by decide +kernel
theorem dX2_init_11 : decode cX2_init 11 = .ok (.aload_n 0, 1) := by decide +kernel
theorem dX2_init_12 : decode cX2_init 12 = .ok (.iconst 5, 1) := by decide +kernel
theorem dX2_init_13 : decode cX2_init 13 = .ok (.newarray .int, 2) := by decide +kernel
theorem dX2_init_15 : decode cX2_init 15 = .ok (.putfield 15, 3) := by decide +kernel
theorem dX2_init_18 : decode cX2_init 18 = .ok (.return_, 1) := by decide +kernel
theorem dX2_seek_0 : decode cX2_seek 0 = .ok (.aload_n 0, 1) := by decide +kernel
theorem dX2_seek_1 : decode cX2_seek 1 = .ok (.iload_n 3, 1) := by decide +kernel
theorem dX2_seek_2 : decode cX2_seek 2 = .ok (.invokevirtual 18, 3) := by decide +kernel
theorem dX2_seek_5 : decode cX2_seek 5 = .ok (.aload_n 0, 1) := by decide +kernel
theorem dX2_seek_6 : decode cX2_seek 6 = .ok (.iconst (-1), 1) := by decide +kernel
theorem dX2_seek_7 : decode cX2_seek 7 = .ok (.putfield 22, 3) := by decide +kernel
theorem dX2_seek_10 : decode cX2_seek 10 = .ok (.iconst 1, 1) := by decide +kernel
theorem dX2_seek_11 : decode cX2_seek 11 = .ok (.istore 4, 2) := by decide +kernel
theorem dX2_seek_13 : decode cX2_seek 13 = .ok (.iconst 0, 1) := by decide +kernel
theorem dX2_seek_14 : decode cX2_seek 14 = .ok (.istore 5, 2) := by decide +kernel
theorem dX2_seek_16 : decode cX2_seek 16 = .ok (.iload 5, 2) := by decide +kernel
theorem dX2_seek_18 : decode cX2_seek 18 = .ok (.bipush 120, 2) := by decide +kernel
theorem dX2_seek_20 : decode cX2_seek 20 = .ok (.if_icmp .ge 42, 3) := by decide +kernel
theorem dX2_seek_23 : decode cX2_seek 23 = .ok (.iload 4, 2) := by decide +kernel
theorem dX2_seek_25 : decode cX2_seek 25 = .ok (.ifCond .eq 37, 3) := by decide +kernel
theorem dX2_seek_28 : decode cX2_seek 28 = .ok (.aload_n 2, 1) := by decide +kernel
theorem dX2_seek_29 : decode cX2_seek 29 = .ok (.aload_n 1, 1) := by decide +kernel
theorem dX2_seek_30 : decode cX2_seek 30 = .ok (.invokevirtual 26, 3) := by decide +kernel
theorem dX2_seek_33 : decode cX2_seek 33 = .ok (.aload_n 0, 1) := by decide +kernel
theorem dX2_seek_34 : decode cX2_seek 34 = .ok (.aload_n 2, 1) := by decide +kernel
theorem dX2_seek_35 : decode cX2_seek 35 = .ok (.aload_n 0, 1) := by decide +kernel
theorem dX2_seek_36 : decode cX2_seek 36 = .ok (.getfield 15, 3) := by decide +kernel
theorem dX2_seek_39 : decode cX2_seek 39 = .ok (.aload_n 0, 1) := by decide +kernel
theorem dX2_seek_40 : decode cX2_seek 40 = .ok (.getfield 32, 3) := by decide +kernel
theorem dX2_seek_43 : decode cX2_seek 43 = .ok (.invokevirtual 35, 3) := by decide +kernel
theorem dX2_seek_46 : decode cX2_seek 46 = .ok (.aload_n 2, 1) := by decide +kernel
theorem dX2_seek_47 : decode cX2_seek 47 = .ok (.invokevirtual 39, 3) := by decide +kernel
theorem dX2_seek_50 : decode cX2_seek 50 = .ok (.aload_n 0, 1) := by decide +kernel
theorem dX2_seek_51 : decode cX2_seek 51 = .ok (.invokevirtual 43, 3) := by decide +kernel
theorem dX2_seek_54 : decode cX2_seek 54 = .ok (.istore 4, 2) := by decide +kernel
theorem dX2_seek_56 : decode cX2_seek 56 = .ok (.iinc 5 1, 3) := by decide +kernel
theorem dX2_seek_59 : decode cX2_seek 59 = .ok (.goto (-43), 3) := by decide +kernel
theorem dX2_seek_62 : decode cX2_seek 62 = .ok (.return_, 1) := by decide +kernel
theorem dX2_listMembers_0 : decode cX2_listMembers 0 = .ok (.aload_n 0, 1) := by decide +kernel
theorem dX2_listMembers_1 : decode cX2_listMembers 1 = .ok (.iconst 0, 1) := by decide +kernel
theorem dX2_listMembers_2 : decode cX2_listMembers 2 = .ok (.putfield 32, 3) := by decide +kernel
theorem dX2_listMembers_5 : decode cX2_listMembers 5 = .ok (.iconst 0, 1) := by decide +kernel
theorem dX2_listMembers_6 : decode cX2_listMembers 6 = .ok (.istore_n 2, 1) := by decide +kernel
theorem dX2_listMembers_7 : decode cX2_listMembers 7 = .ok (.iload_n 2, 1) := by decide +kernel
theorem dX2_listMembers_8 : decode cX2_listMembers 8 = .ok (.bipush 8, 2) := by decide +kernel
theorem dX2_listMembers_10 : decode cX2_listMembers 10 = .ok (.if_icmp .ge 45, 3) := by decide +kernel
theorem dX2_listMembers_13 : decode cX2_listMembers 13 = .ok (.aload_n 0, 1) := by decide +kernel
theorem dX2_listMembers_14 : decode cX2_listMembers 14 = .ok (.getfield 32, 3) := by decide +kernel
theorem dX2_listMembers_17 : decode cX2_listMembers 17 = .ok (.iconst 5, 1) := by decide +kernel
theorem dX2_listMembers_18 : decode cX2_listMembers 18 = .ok (.if_icmp .ge 37, 3) := by decide +kernel
theorem dX2_listMembers_21 : decode cX2_listMembers 21 = .ok (.iload_n 1, 1) := by decide +kernel
theorem dX2_listMembers_22 : decode cX2_listMembers 22 = .ok (.iload_n 2, 1) := by decide +kernel
theorem dX2_listMembers_23 : decode cX2_listMembers 23 = .ok (.ishr, 1) := by decide +kernel
theorem dX2_listMembers_24 : decode cX2_listMembers 24 = .ok (.iconst 1, 1) := by decide +kernel
theorem dX2_listMembers_25 : decode cX2_listMembers 25 = .ok (.iand, 1) := by decide +kernel
theorem dX2_listMembers_26 : decode cX2_listMembers 26 = .ok (.ifCond .eq 23, 3) := by decide +kernel
theorem dX2_listMembers_29 : decode cX2_listMembers 29 = .ok (.aload_n 0, 1) := by decide +kernel
theorem dX2_listMembers_30 : decode cX2_listMembers 30 = .ok (.getfield 15, 3) := by decide +kernel
theorem dX2_listMembers_33 : decode cX2_listMembers 33 = .ok (.aload_n 0, 1) := by decide +kernel
theorem dX2_listMembers_34 : decode cX2_listMembers 34 = .ok (.getfield 32, 3) := by decide +kernel
theorem dX2_listMembers_37 : decode cX2_listMembers 37 = .ok (.iload_n 2, 1) := by decide +kernel
theorem dX2_listMembers_38 : decode cX2_listMembers 38 = .ok (.iastore, 1) := by decide +kernel
theorem dX2_listMembers_39 : decode cX2_listMembers 39 = .ok (.aload_n 0, 1) := by decide +kernel
theorem dX2_listMembers_40 : decode cX2_listMembers 40 = .ok (.dup, 1) := by decide +kernel
theorem dX2_listMembers_41 : decode cX2_listMembers 41 = .ok (.getfield 32, 3) := by decide +kernel
theorem dX2_listMembers_44 : decode cX2_listMembers 44 = .ok (.iconst 1, 1) := by decide +kernel
theorem dX2_listMembers_45 : decode cX2_listMembers 45 = .ok (.iadd, 1) := by decide +kernel
theorem dX2_listMembers_46 : decode cX2_listMembers 46 = .ok (.putfield 32, 3) := by decide +kernel
theorem dX2_listMembers_49 : decode cX2_listMembers 49 = .ok (.iinc 2 1, 3) := by decide +kernel
theorem dX2_listMembers_52 : decode cX2_listMembers 52 = .ok (.goto (-45), 3) := by decide +kernel
theorem dX2_listMembers_55 : decode cX2_listMembers 55 = .ok (.return_, 1) := by decide +kernel
theorem dX2_weigh_0 : decode cX2_weigh 0 = .ok (.iload_n 1, 1) := by decide +kernel
theorem dX2_weigh_1 : decode cX2_weigh 1 = .ok (.aload_n 0, 1) := by decide +kernel
theorem dX2_weigh_2 : decode cX2_weigh 2 = .ok (.getfield 22, 3) := by decide +kernel
theorem dX2_weigh_5 : decode cX2_weigh 5 = .ok (.if_icmp .le 41, 3) := by decide +kernel
theorem dX2_weigh_8 : decode cX2_weigh 8 = .ok (.aload_n 0, 1) := by decide +kernel
theorem dX2_weigh_9 : decode cX2_weigh 9 = .ok (.iload_n 1, 1) := by decide +kernel
theorem dX2_weigh_10 : decode cX2_weigh 10 = .ok (.putfield 22, 3) := by decide +kernel
theorem dX2_weigh_13 : decode cX2_weigh 13 = .ok (.aload_n 0, 1) := by decide +kernel
theorem dX2_weigh_14 : decode cX2_weigh 14 = .ok (.iconst 1, 1) := by decide +kernel
theorem dX2_weigh_15 : decode cX2_weigh 15 = .ok (.putfield 47, 3) := by decide +kernel
theorem dX2_weigh_18 : decode cX2_weigh 18 = .ok (.aload_n 0, 1) := by decide +kernel
theorem dX2_weigh_19 : decode cX2_weigh 19 = .ok (.aload_n 2, 1) := by decide +kernel
theorem dX2_weigh_20 : decode cX2_weigh 20 = .ok (.invokevirtual 50, 3) := by decide +kernel
theorem dX2_weigh_23 : decode cX2_weigh 23 = .ok (.putfield 54, 3) := by decide +kernel
theorem dX2_weigh_26 : decode cX2_weigh 26 = .ok (.aload_n 0, 1) := by decide +kernel
theorem dX2_weigh_27 : decode cX2_weigh 27 = .ok (.getfield 15, 3) := by decide +kernel
theorem dX2_weigh_30 : decode cX2_weigh 30 = .ok (.iconst 0, 1) := by decide +kernel
theorem dX2_weigh_31 : decode cX2_weigh 31 = .ok (.aload_n 0, 1) := by decide +kernel
theorem dX2_weigh_32 : decode cX2_weigh 32 = .ok (.getfield 9, 3) := by decide +kernel
theorem dX2_weigh_35 : decode cX2_weigh 35 = .ok (.iconst 0, 1) := by decide +kernel
theorem dX2_weigh_36 : decode cX2_weigh 36 = .ok (.aload_n 0, 1) := by decide +kernel
theorem dX2_weigh_37 : decode cX2_weigh 37 = .ok (.getfield 32, 3) := by decide +kernel
theorem dX2_weigh_40 : decode cX2_weigh 40 = .ok (.invokestatic 57, 3) := by decide +kernel
theorem dX2_weigh_43 : decode cX2_weigh 43 = .ok (.goto 21, 3) := by decide +kernel
theorem dX2_weigh_46 : decode cX2_weigh 46 = .ok (.iload_n 1, 1) := by decide +kernel
theorem dX2_weigh_47 : decode cX2_weigh 47 = .ok (.aload_n 0, 1) := by decide +kernel
theorem dX2_weigh_48 : decode cX2_weigh 48 = .ok (.getfield 22, 3) := by decide +kernel
theorem dX2_weigh_51 : decode cX2_weigh 51 = .ok (.if_icmp .ne 13, 3) := by decide +kernel
theorem dX2_weigh_54 : decode cX2_weigh 54 = .ok (.aload_n 0, 1) := by decide +kernel
theorem dX2_weigh_55 : decode cX2_weigh 55 = .ok (.dup, 1) := by decide +kernel
theorem dX2_weigh_56 : decode cX2_weigh 56 = .ok (.getfield 47, 3) := by decide +kernel
theorem dX2_weigh_59 : decode cX2_weigh 59 = .ok (.iconst 1, 1) := by decide +kernel
theorem dX2_weigh_60 : decode cX2_weigh 60 = .ok (.iadd, 1) := by decide +kernel
theorem dX2_weigh_61 : decode cX2_weigh 61 = .ok (.putfield 47, 3) := by decide +kernel
theorem dX2_weigh_64 : decode cX2_weigh 64 = .ok (.return_, 1) := by decide +kernel
theorem dX2_stepOrder_0 : decode cX2_stepOrder 0 = .ok (.aload_n 0, 1) := by decide +kernel
theorem dX2_stepOrder_1 : decode cX2_stepOrder 1 = .ok (.getfield 32, 3) := by decide +kernel
theorem dX2_stepOrder_4 : decode cX2_stepOrder 4 = .ok (.iconst 2, 1) := by decide +kernel
theorem dX2_stepOrder_5 : decode cX2_stepOrder 5 = .ok (.isub, 1) := by decide +kernel
theorem dX2_stepOrder_6 : decode cX2_stepOrder 6 = .ok (.istore_n 1, 1) := by decide +kernel
theorem dX2_stepOrder_7 : decode cX2_stepOrder 7 = .ok (.iload_n 1, 1) := by decide +kernel
theorem dX2_stepOrder_8 : decode cX2_stepOrder 8 = .ok (.ifCond .lt 26, 3) := by decide +kernel
theorem dX2_stepOrder_11 : decode cX2_stepOrder 11 = .ok (.aload_n 0, 1) := by decide +kernel
theorem dX2_stepOrder_12 : decode cX2_stepOrder 12 = .ok (.getfield 15, 3) := by decide +kernel
theorem dX2_stepOrder_15 : decode cX2_stepOrder 15 = .ok (.iload_n 1, 1) := by decide +kernel
theorem dX2_stepOrder_16 : decode cX2_stepOrder 16 = .ok (.iaload, 1) := by decide +kernel
theorem dX2_stepOrder_17 : decode cX2_stepOrder 17 = .ok (.aload_n 0, 1) := by decide +kernel
theorem dX2_stepOrder_18 : decode cX2_stepOrder 18 = .ok (.getfield 15, 3) := by decide +kernel
theorem dX2_stepOrder_21 : decode cX2_stepOrder 21 = .ok (.iload_n 1, 1) := by decide +kernel
theorem dX2_stepOrder_22 : decode cX2_stepOrder 22 = .ok (.iconst 1, 1) := by decide +kernel
theorem dX2_stepOrder_23 : decode cX2_stepOrder 23 = .ok (.iadd, 1) := by decide +kernel
theorem dX2_stepOrder_24 : decode cX2_stepOrder 24 = .ok (.iaload, 1) := by decide +kernel
theorem dX2_stepOrder_25 : decode cX2_stepOrder 25 = .ok (.if_icmp .le 9, 3) := by decide +kernel
theorem dX2_stepOrder_28 : decode cX2_stepOrder 28 = .ok (.iinc 1 (-1), 3) := by decide +kernel
theorem dX2_stepOrder_31 : decode cX2_stepOrder 31 = .ok (.goto (-24), 3) := by decide +kernel
theorem dX2_stepOrder_34 : decode cX2_stepOrder 34 = .ok (.iload_n 1, 1) := by decide +kernel
theorem dX2_stepOrder_35 : decode cX2_stepOrder 35 = .ok (.ifCond .ge 5, 3) := by decide +kernel
theorem dX2_stepOrder_38 : decode cX2_stepOrder 38 = .ok (.iconst 0, 1) := by decide +kernel
theorem dX2_stepOrder_39 : decode cX2_stepOrder 39 = .ok (.ireturn, 1) := by decide +kernel
theorem dX2_stepOrder_40 : decode cX2_stepOrder 40 = .ok (.aload_n 0, 1) := by decide +kernel
theorem dX2_stepOrder_41 : decode cX2_stepOrder 41 = .ok (.getfield 32, 3) := by decide +kernel
theorem dX2_stepOrder_44 : decode cX2_stepOrder 44 = .ok (.iconst 1, 1) := by decide +kernel
theorem dX2_stepOrder_45 : decode cX2_stepOrder 45 = .ok (.isub, 1) := by decide +kernel
theorem dX2_stepOrder_46 : decode cX2_stepOrder 46 = .ok (.istore_n 2, 1) := by decide +kernel
theorem dX2_stepOrder_47 : decode cX2_stepOrder 47 = .ok (.iload_n 2, 1) := by decide +kernel
theorem dX2_stepOrder_48 : decode cX2_stepOrder 48 = .ok (.iload_n 1, 1) := by decide +kernel
theorem dX2_stepOrder_49 : decode cX2_stepOrder 49 = .ok (.if_icmp .le 24, 3) := by decide +kernel
theorem dX2_stepOrder_52 : decode cX2_stepOrder 52 = .ok (.aload_n 0, 1) := by decide +kernel
theorem dX2_stepOrder_53 : decode cX2_stepOrder 53 = .ok (.getfield 15, 3) := by decide +kernel
theorem dX2_stepOrder_56 : decode cX2_stepOrder 56 = .ok (.iload_n 2, 1) := by decide +kernel
theorem dX2_stepOrder_57 : decode cX2_stepOrder 57 = .ok (.iaload, 1) := by decide +kernel
theorem dX2_stepOrder_58 : decode cX2_stepOrder 58 = .ok (.aload_n 0, 1) := by decide +kernel
theorem dX2_stepOrder_59 : decode cX2_stepOrder 59 = .ok (.getfield 15, 3) := by decide +kernel
theorem dX2_stepOrder_62 : decode cX2_stepOrder 62 = .ok (.iload_n 1, 1) := by decide +kernel
theorem dX2_stepOrder_63 : decode cX2_stepOrder 63 = .ok (.iaload, 1) := by decide +kernel
theorem dX2_stepOrder_64 : decode cX2_stepOrder 64 = .ok (.if_icmp .ge 9, 3) := by decide +kernel
theorem dX2_stepOrder_67 : decode cX2_stepOrder 67 = .ok (.iinc 2 (-1), 3) := by decide +kernel
theorem dX2_stepOrder_70 : decode cX2_stepOrder 70 = .ok (.goto (-23), 3) := by decide +kernel
theorem dX2_stepOrder_73 : decode cX2_stepOrder 73 = .ok (.aload_n 0, 1) := by decide +kernel
theorem dX2_stepOrder_74 : decode cX2_stepOrder 74 = .ok (.iload_n 1, 1) := by decide +kernel
theorem dX2_stepOrder_75 : decode cX2_stepOrder 75 = .ok (.iload_n 2, 1) := by decide +kernel
theorem dX2_stepOrder_76 : decode cX2_stepOrder 76 = .ok (.invokevirtual 63, 3) := by decide +kernel
theorem dX2_stepOrder_79 : decode cX2_stepOrder 79 = .ok (.iload_n 1, 1) := by decide +kernel
theorem dX2_stepOrder_80 : decode cX2_stepOrder 80 = .ok (.iconst 1, 1) := by decide +kernel
theorem dX2_stepOrder_81 : decode cX2_stepOrder 81 = .ok (.iadd, 1) := by decide +kernel
theorem dX2_stepOrder_82 : decode cX2_stepOrder 82 = .ok (.istore_n 3, 1) := by decide +kernel
theorem dX2_stepOrder_83 : decode cX2_stepOrder 83 = .ok (.aload_n 0, 1) := by decide +kernel
theorem dX2_stepOrder_84 : decode cX2_stepOrder 84 = .ok (.getfield 32, 3) := by decide +kernel
theorem dX2_stepOrder_87 : decode cX2_stepOrder 87 = .ok (.iconst 1, 1) := by decide +kernel
theorem dX2_stepOrder_88 : decode cX2_stepOrder 88 = .ok (.isub, 1) := by decide +kernel
theorem dX2_stepOrder_89 : decode cX2_stepOrder 89 = .ok (.istore 4, 2) := by decide +kernel
theorem dX2_stepOrder_91 : decode cX2_stepOrder 91 = .ok (.iload_n 3, 1) := by decide +kernel
theorem dX2_stepOrder_92 : decode cX2_stepOrder 92 = .ok (.iload 4, 2) := by decide +kernel
theorem dX2_stepOrder_94 : decode cX2_stepOrder 94 = .ok (.if_icmp .ge 19, 3) := by decide +kernel
theorem dX2_stepOrder_97 : decode cX2_stepOrder 97 = .ok (.aload_n 0, 1) := by decide +kernel
theorem dX2_stepOrder_98 : decode cX2_stepOrder 98 = .ok (.iload_n 3, 1) := by decide +kernel
theorem dX2_stepOrder_99 : decode cX2_stepOrder 99 = .ok (.iload 4, 2) := by decide +kernel
theorem dX2_stepOrder_101 : decode cX2_stepOrder 101 = .ok (.invokevirtual 63, 3) := by decide +kernel
theorem dX2_stepOrder_104 : decode cX2_stepOrder 104 = .ok (.iinc 3 1, 3) := by decide +kernel
theorem dX2_stepOrder_107 : decode cX2_stepOrder 107 = .ok (.iinc 4 (-1), 3) := by decide +kernel
theorem dX2_stepOrder_110 : decode cX2_stepOrder 110 = .ok (.goto (-19), 3) := by decide +kernel
theorem dX2_stepOrder_113 : decode cX2_stepOrder 113 = .ok (.iconst 1, 1) := by decide +kernel
theorem dX2_stepOrder_114 : decode cX2_stepOrder 114 = .ok (.ireturn, 1) := by decide +kernel
theorem dX2_swap_0 : decode cX2_swap 0 = .ok (.aload_n 0, 1) := by decide +kernel
theorem dX2_swap_1 : decode cX2_swap 1 = .ok (.getfield 15, 3) := by decide +kernel
theorem dX2_swap_4 : decode cX2_swap 4 = .ok (.iload_n 1, 1) := by decide +kernel
theorem dX2_swap_5 : decode cX2_swap 5 = .ok (.iaload, 1) := by decide +kernel
theorem dX2_swap_6 : decode cX2_swap 6 = .ok (.istore_n 3, 1) := by decide +kernel
theorem dX2_swap_7 : decode cX2_swap 7 = .ok (.aload_n 0, 1) := by decide +kernel
theorem dX2_swap_8 : decode cX2_swap 8 = .ok (.getfield 15, 3) := by decide +kernel
theorem dX2_swap_11 : decode cX2_swap 11 = .ok (.iload_n 1, 1) := by decide +kernel
theorem dX2_swap_12 : decode cX2_swap 12 = .ok (.aload_n 0, 1) := by decide +kernel
theorem dX2_swap_13 : decode cX2_swap 13 = .ok (.getfield 15, 3) := by decide +kernel
theorem dX2_swap_16 : decode cX2_swap 16 = .ok (.iload_n 2, 1) := by decide +kernel
theorem dX2_swap_17 : decode cX2_swap 17 = .ok (.iaload, 1) := by decide +kernel
theorem dX2_swap_18 : decode cX2_swap 18 = .ok (.iastore, 1) := by decide +kernel
theorem dX2_swap_19 : decode cX2_swap 19 = .ok (.aload_n 0, 1) := by decide +kernel
theorem dX2_swap_20 : decode cX2_swap 20 = .ok (.getfield 15, 3) := by decide +kernel
theorem dX2_swap_23 : decode cX2_swap 23 = .ok (.iload_n 2, 1) := by decide +kernel
theorem dX2_swap_24 : decode cX2_swap 24 = .ok (.iload_n 3, 1) := by decide +kernel
theorem dX2_swap_25 : decode cX2_swap 25 = .ok (.iastore, 1) := by decide +kernel
theorem dX2_swap_26 : decode cX2_swap 26 = .ok (.return_, 1) := by decide +kernel
theorem dX3_init_0 : decode cX3_init 0 = .ok (.aload_n 0, 1) := by decide +kernel
theorem dX3_init_1 : decode cX3_init 1 = .ok (.invokespecial 3, 3) := by decide +kernel
theorem dX3_init_4 : decode cX3_init 4 = .ok (.aload_n 0, 1) := by decide +kernel
theorem dX3_init_5 : decode cX3_init 5 = .ok (.iconst 0, 1) := by decide +kernel
theorem dX3_init_6 : decode cX3_init 6 = .ok (.putfield 9, 3) := by decide +kernel
theorem dX3_init_9 : decode cX3_init 9 = .ok (.aload_n 0, 1) := by decide +kernel
theorem dX3_init_10 : decode cX3_init 10 = .ok (.iconst 0, 1) := by decide +kernel
theorem dX3_init_11 : decode cX3_init 11 = .ok (.putfield 15, 3) := by decide +kernel
theorem dX3_init_14 : decode cX3_init 14 = .ok (.aload_n 0, 1) := by decide +kernel
theorem dX3_init_15 : decode cX3_init 15 = .ok (.bipush 40, 2) := by decide +kernel
theorem dX3_init_17 : decode cX3_init 17 = .ok (.newarray .int, 2) := by decide +kernel
theorem dX3_init_19 : decode cX3_init 19 = .ok (.putfield 18, 3) := by decide +kernel
theorem dX3_init_22 : decode cX3_init 22 = .ok (.return_, 1) := by decide +kernel
theorem dX3_hasBits_0 : decode cX3_hasBits 0 = .ok (.iload_n 0, 1) := by decide +kernel
theorem dX3_hasBits_1 : decode cX3_hasBits 1 = .ok (.ifCond .eq 21, 3) := by decide +kernel
theorem dX3_hasBits_4 : decode cX3_hasBits 4 = .ok (.iload_n 0, 1) := by decide +kernel
theorem dX3_hasBits_5 : decode cX3_hasBits 5 = .ok (.bipush 8, 2) := by decide +kernel
theorem dX3_hasBits_7 : decode cX3_hasBits 7 = .ok (.if_icmp .eq 15, 3) := by decide +kernel
theorem dX3_hasBits_10 : decode cX3_hasBits 10 = .ok (.iload_n 0, 1) := by decide +kernel
theorem dX3_hasBits_11 : decode cX3_hasBits 11 = .ok (.bipush 16, 2) := by decide +kernel
theorem dX3_hasBits_13 : decode cX3_hasBits 13 = .ok (.if_icmp .eq 9, 3) := by decide +kernel
theorem dX3_hasBits_16 : decode cX3_hasBits 16 = .ok (.iload_n 0, 1) := by decide +kernel
theorem dX3_hasBits_17 : decode cX3_hasBits 17 = .ok (.bipush 32, 2) := by decide +kernel
theorem dX3_hasBits_19 : decode cX3_hasBits 19 = .ok (.if_icmp .ne 7, 3) := by decide +kernel
theorem dX3_hasBits_22 : decode cX3_hasBits 22 = .ok (.iconst 1, 1) := by decide +kernel
theorem dX3_hasBits_23 : decode cX3_hasBits 23 = .ok (.goto 4, 3) := by decide +kernel
theorem dX3_hasBits_26 : decode cX3_hasBits 26 = .ok (.iconst 0, 1) := by decide +kernel
theorem dX3_hasBits_27 : decode cX3_hasBits 27 = .ok (.ireturn, 1) := by decide +kernel
theorem dX3_begin_0 : decode cX3_begin 0 = .ok (.aload_n 0, 1) := by decide +kernel
theorem dX3_begin_1 : decode cX3_begin 1 = .ok (.iload_n 1, 1) := by decide +kernel
theorem dX3_begin_2 : decode cX3_begin 2 = .ok (.putfield 9, 3) := by decide +kernel
theorem dX3_begin_5 : decode cX3_begin 5 = .ok (.aload_n 0, 1) := by decide +kernel
theorem dX3_begin_6 : decode cX3_begin 6 = .ok (.iload_n 1, 1) := by decide +kernel
theorem dX3_begin_7 : decode cX3_begin 7 = .ok (.ifCond .ne 7, 3) := by decide +kernel
theorem dX3_begin_10 : decode cX3_begin 10 = .ok (.iconst 0, 1) := by decide +kernel
theorem dX3_begin_11 : decode cX3_begin 11 = .ok (.goto 4, 3) := by decide +kernel
theorem dX3_begin_14 : decode cX3_begin 14 = .ok (.iload_n 2, 1) := by decide +kernel
theorem dX3_begin_15 : decode cX3_begin 15 = .ok (.putfield 15, 3) := by decide +kernel
theorem dX3_begin_18 : decode cX3_begin 18 = .ok (.aload_n 0, 1) := by decide +kernel
theorem dX3_begin_19 : decode cX3_begin 19 = .ok (.getfield 18, 3) := by decide +kernel
theorem dX3_begin_22 : decode cX3_begin 22 = .ok (.iconst 0, 1) := by decide +kernel
theorem dX3_begin_23 : decode cX3_begin 23 = .ok (.invokestatic 22, 3) := by decide +kernel
theorem dX3_begin_26 : decode cX3_begin 26 = .ok (.return_, 1) := by decide +kernel
theorem dX3_isMissing_0 : decode cX3_isMissing 0 = .ok (.aload_n 0, 1) := by decide +kernel
theorem dX3_isMissing_1 : decode cX3_isMissing 1 = .ok (.getfield 9, 3) := by decide +kernel
theorem dX3_isMissing_4 : decode cX3_isMissing 4 = .ok (.ifCond .ne 7, 3) := by decide +kernel
theorem dX3_isMissing_7 : decode cX3_isMissing 7 = .ok (.iconst 1, 1) := by decide +kernel
theorem dX3_isMissing_8 : decode cX3_isMissing 8 = .ok (.goto 4, 3) := by decide +kernel
theorem dX3_isMissing_11 : decode cX3_isMissing 11 = .ok (.iconst 0, 1) := by decide +kernel
theorem dX3_isMissing_12 : decode cX3_isMissing 12 = .ok (.ireturn, 1) := by decide +kernel
theorem dX3_put_0 : decode cX3_put 0 = .ok (.iload_n 1, 1) := by decide +kernel
theorem dX3_put_1 : decode cX3_put 1 = .ok (.aload_n 0, 1) := by decide +kernel
theorem dX3_put_2 : decode cX3_put 2 = .ok (.getfield 15, 3) := by decide +kernel
theorem dX3_put_5 : decode cX3_put 5 = .ok (.iconst 1, 1) := by decide +kernel
theorem dX3_put_6 : decode cX3_put 6 = .ok (.isub, 1) := by decide +kernel
theorem dX3_put_7 : decode cX3_put 7 = .ok (.invokestatic 28, 3) := by decide +kernel
theorem dX3_put_10 : decode cX3_put 10 = .ok (.ifCond .eq 38, 3) := by decide +kernel
theorem dX3_put_13 : decode cX3_put 13 = .ok (.aload_n 0, 1) := by decide +kernel
theorem dX3_put_14 : decode cX3_put 14 = .ok (.getfield 18, 3) := by decide +kernel
theorem dX3_put_17 : decode cX3_put 17 = .ok (.iload_n 1, 1) := by decide +kernel
theorem dX3_put_18 : decode cX3_put 18 = .ok (.aload_n 0, 1) := by decide +kernel
theorem dX3_put_19 : decode cX3_put 19 = .ok (.getfield 9, 3) := by decide +kernel
theorem dX3_put_22 : decode cX3_put 22 = .ok (.bipush 8, 2) := by decide +kernel
theorem dX3_put_24 : decode cX3_put 24 = .ok (.if_icmp .ne 8, 3) := by decide +kernel
theorem dX3_put_27 : decode cX3_put 27 = .ok (.iload_n 2, 1) := by decide +kernel
theorem dX3_put_28 : decode cX3_put 28 = .ok (.i2b, 1) := by decide +kernel
theorem dX3_put_29 : decode cX3_put 29 = .ok (.goto 18, 3) := by decide +kernel
theorem dX3_put_32 : decode cX3_put 32 = .ok (.aload_n 0, 1) := by decide +kernel
theorem dX3_put_33 : decode cX3_put 33 = .ok (.getfield 9, 3) := by decide +kernel
theorem dX3_put_36 : decode cX3_put 36 = .ok (.bipush 16, 2) := by decide +kernel
theorem dX3_put_38 : decode cX3_put 38 = .ok (.if_icmp .ne 8, 3) := by decide +kernel
theorem dX3_put_41 : decode cX3_put 41 = .ok (.iload_n 2, 1) := by decide +kernel
theorem dX3_put_42 : decode cX3_put 42 = .ok (.i2s, 1) := by decide +kernel
theorem dX3_put_43 : decode cX3_put 43 = .ok (.goto 4, 3) := by decide +kernel
theorem dX3_put_46 : decode cX3_put 46 = .ok (.iload_n 2, 1) := by decide +kernel
theorem dX3_put_47 : decode cX3_put 47 = .ok (.iastore, 1) := by decide +kernel
theorem dX3_put_48 : decode cX3_put 48 = .ok (.return_, 1) := by decide +kernel
theorem dX3_allows_0 : decode cX3_allows 0 = .ok (.iload_n 1, 1) := by decide +kernel
theorem dX3_allows_1 : decode cX3_allows 1 = .ok (.aload_n 0, 1) := by decide +kernel
theorem dX3_allows_2 : decode cX3_allows 2 = .ok (.getfield 15, 3) := by decide +kernel
theorem dX3_allows_5 : decode cX3_allows 5 = .ok (.iconst 1, 1) := by decide +kernel
theorem dX3_allows_6 : decode cX3_allows 6 = .ok (.isub, 1) := by decide +kernel
theorem dX3_allows_7 : decode cX3_allows 7 = .ok (.invokestatic 28, 3) := by decide +kernel
theorem dX3_allows_10 : decode cX3_allows 10 = .ok (.ifCond .eq 13, 3) := by decide +kernel
theorem dX3_allows_13 : decode cX3_allows 13 = .ok (.aload_n 0, 1) := by decide +kernel
theorem dX3_allows_14 : decode cX3_allows 14 = .ok (.getfield 18, 3) := by decide +kernel
theorem dX3_allows_17 : decode cX3_allows 17 = .ok (.iload_n 1, 1) := by decide +kernel
theorem dX3_allows_18 : decode cX3_allows 18 = .ok (.iaload, 1) := by decide +kernel
theorem dX3_allows_19 : decode cX3_allows 19 = .ok (.iload_n 2, 1) := by decide +kernel
theorem dX3_allows_20 : decode cX3_allows 20 = .ok (.if_icmp .ne 7, 3) := by decide +kernel
theorem dX3_allows_23 : decode cX3_allows 23 = .ok (.iconst 1, 1) := by decide +kernel
theorem dX3_allows_24 : decode cX3_allows 24 = .ok (.goto 4, 3) := by decide +kernel
theorem dX3_allows_27 : decode cX3_allows 27 = .ok (.iconst 0, 1) := by decide +kernel
theorem dX3_allows_28 : decode cX3_allows 28 = .ok (.ireturn, 1) := by decide +kernel
theorem dX3_hasRange_0 : decode cX3_hasRange 0 = .ok (.iload_n 1, 1) := by decide +kernel
theorem dX3_hasRange_1 : decode cX3_hasRange 1 = .ok (.ifCond .lt 29, 3) := by decide +kernel
theorem dX3_hasRange_4 : decode cX3_hasRange 4 = .ok (.iload_n 2, 1) := by decide +kernel
theorem dX3_hasRange_5 : decode cX3_hasRange 5 = .ok (.ifCond .lt 25, 3) := by decide +kernel
theorem dX3_hasRange_8 : decode cX3_hasRange 8 = .ok (.iload_n 1, 1) := by decide +kernel
theorem dX3_hasRange_9 : decode cX3_hasRange 9 = .ok (.aload_n 0, 1) := by decide +kernel
theorem dX3_hasRange_10 : decode cX3_hasRange 10 = .ok (.getfield 15, 3) := by decide +kernel
theorem dX3_hasRange_13 : decode cX3_hasRange 13 = .ok (.if_icmp .gt 17, 3) := by decide +kernel
theorem dX3_hasRange_16 : decode cX3_hasRange 16 = .ok (.iload_n 2, 1) := by decide +kernel
theorem dX3_hasRange_17 : decode cX3_hasRange 17 = .ok (.aload_n 0, 1) := by decide +kernel
theorem dX3_hasRange_18 : decode cX3_hasRange 18 = .ok (.getfield 15, 3) := by decide +kernel
theorem dX3_hasRange_21 : decode cX3_hasRange 21 = .ok (.iload_n 1, 1) := by decide +kernel
theorem dX3_hasRange_22 : decode cX3_hasRange 22 = .ok (.isub, 1) := by decide +kernel
theorem dX3_hasRange_23 : decode cX3_hasRange 23 = .ok (.if_icmp .gt 7, 3) := by decide +kernel
theorem dX3_hasRange_26 : decode cX3_hasRange 26 = .ok (.iconst 1, 1) := by decide +kernel
theorem dX3_hasRange_27 : decode cX3_hasRange 27 = .ok (.goto 4, 3) := by decide +kernel
theorem dX3_hasRange_30 : decode cX3_hasRange 30 = .ok (.iconst 0, 1) := by decide +kernel
theorem dX3_hasRange_31 : decode cX3_hasRange 31 = .ok (.ireturn, 1) := by decide +kernel
end
section
theorem dX4_init_0 : decode cX4_init 0 = .ok (.aload_n 0, 1) := by decide +kernel
theorem dX4_init_1 : decode cX4_init 1 = .ok (.invokespecial 3, 3) := by decide +kernel
theorem dX4_init_4 : decode cX4_init 4 = .ok (.aload_n 0, 1) := by decide +kernel
theorem dX4_init_5 : decode cX4_init 5 = .ok (.bipush 8, 2) := by decide +kernel
theorem dX4_init_7 : decode cX4_init 7 = .ok (.anewarray 9, 3) := by decide +kernel
theorem dX4_init_10 : decode cX4_init 10 = .ok (.putfield 11, 3) := by decide +kernel
theorem dX4_init_13 : decode cX4_init 13 = .ok (.aload_n 0, 1) := by decide +kernel
theorem dX4_init_14 : decode cX4_init 14 = .ok (.bipush 8, 2) := by decide +kernel
theorem dX4_init_16 : decode cX4_init 16 = .ok (.anewarray 17, 3) := by decide +kernel
theorem dX4_init_19 : decode cX4_init 19 = .ok (.putfield 19, 3) := by decide +kernel
theorem dX4_init_22 : decode cX4_init 22 = .ok (.aload_n 0, 1) := by decide +kernel
theorem dX4_init_23 : decode cX4_init 23 = .ok (.iconst 4, 1) := by decide +kernel
theorem dX4_init_24 : decode cX4_init 24 = .ok (.newarray .int, 2) := by decide +kernel
theorem dX4_init_26 : decode cX4_init 26 = .ok (.putfield 23, 3) := by decide +kernel
theorem dX4_init_29 : decode cX4_init 29 = .ok (.aload_n 0, 1) := by decide +kernel
theorem dX4_init_30 : decode cX4_init 30 = .ok (.bipush 10, 2) := by decide +kernel
theorem dX4_init_32 : decode cX4_init 32 = .ok (.newarray .int, 2) := by decide +kernel
theorem dX4_init_34 : decode cX4_init 34 = .ok (.putfield 27, 3) := by decide +kernel
theorem dX4_init_37 : decode cX4_init 37 = .ok (.aload_n 0, 1) := by decide +kernel
theorem dX4_init_38 : decode cX4_init 38 = .ok (.iconst 0, 1) := by decide +kernel
theorem dX4_init_39 : decode cX4_init 39 = .ok (.putfield 30, 3) := by decide +kernel
theorem dX4_init_42 : decode cX4_init 42 = .ok (.aload_n 0, 1) := by decide +kernel
theorem dX4_init_43 : decode cX4_init 43 = .ok (.iconst 0, 1) := by decide +kernel
theorem dX4_init_44 : decode cX4_init 44 = .ok (.putfield 34, 3) := by decide +kernel
theorem dX4_init_47 : decode cX4_init 47 = .ok (.aload_n 0, 1) := by decide +kernel
theorem dX4_init_48 : decode cX4_init 48 = .ok (.iconst 0, 1) := by decide +kernel
theorem dX4_init_49 : decode cX4_init 49 = .ok (.putfield 37, 3) := by decide +kernel
theorem dX4_init_52 : decode cX4_init 52 = .ok (.aload_n 0, 1) := by decide +kernel
theorem dX4_init_53 : decode cX4_init 53 = .ok (.iconst 1, 1) := by decide +kernel
theorem dX4_init_54 : decode cX4_init 54 = .ok (.putfield 40, 3) := by decide +kernel
theorem dX4_init_57 : decode cX4_init 57 = .ok (.iconst 0, 1) := by decide +kernel
theorem dX4_init_58 : decode cX4_init 58 = .ok (.istore_n 1, 1) := by decide +kernel
theorem dX4_init_59 : decode cX4_init 59 = .ok (.iload_n 1, 1) := by decide +kernel
theorem dX4_init_60 : decode cX4_init 60 = .ok (.bipush 8, 2) := by decide +kernel
theorem dX4_init_62 : decode cX4_init 62 = .ok (.if_icmp .ge 22, 3) := by decide +kernel
theorem dX4_init_65 : decode cX4_init 65 = .ok (.aload_n 0, 1) := by decide +kernel
theorem dX4_init_66 : decode cX4_init 66 = .ok (.getfield 11, 3) := by decide +kernel
theorem dX4_init_69 : decode cX4_init 69 = .ok (.iload_n 1, 1) := by decide +kernel
theorem dX4_init_70 : decode cX4_init 70 = .ok (.new 9, 3) := by decide +kernel
theorem dX4_init_73 : decode cX4_init 73 = .ok (.dup, 1) := by decide +kernel
theorem dX4_init_74 : decode cX4_init 74 = .ok (.invokespecial 43, 3) := by decide +kernel
theorem dX4_init_77 : decode cX4_init 77 = .ok (.aastore, 1) := by decide +kernel
theorem dX4_init_78 : decode cX4_init 78 = .ok (.iinc 1 1, 3) := by decide +kernel
theorem dX4_init_81 : decode cX4_init 81 = .ok (.goto (-22), 3) := by decide +kernel
theorem dX4_init_84 : decode cX4_init 84 = .ok (.iconst 0, 1) := by decide +kernel
theorem dX4_init_85 : decode cX4_init 85 = .ok (.istore_n 1, 1) := by decide +kernel
theorem dX4_init_86 : decode cX4_init 86 = .ok (.iload_n 1, 1) := by decide +kernel
theorem dX4_init_87 : decode cX4_init 87 = .ok (.bipush 8, 2) := by decide +kernel
theorem dX4_init_89 : decode cX4_init 89 = .ok (.if_icmp .ge 22, 3) := by decide +kernel
theorem dX4_init_92 : decode cX4_init 92 = .ok (.aload_n 0, 1) := by decide +kernel
theorem dX4_init_93 : decode cX4_init 93 = .ok (.getfield 19, 3) := by decide +kernel
theorem dX4_init_96 : decode cX4_init 96 = .ok (.iload_n 1, 1) := by decide +kernel
theorem dX4_init_97 : decode cX4_init 97 = .ok (.new 17, 3) := by decide +kernel
theorem dX4_init_100 : decode cX4_init 100 = .ok (.dup, 1) := by decide +kernel
theorem dX4_init_101 : decode cX4_init 101 = .ok (.invokespecial 44, 3) := by decide +kernel
theorem dX4_init_104 : decode cX4_init 104 = .ok (.aastore, 1) := by decide +kernel
theorem dX4_init_105 : decode cX4_init 105 = .ok (.iinc 1 1, 3) := by decide +kernel
theorem dX4_init_108 : decode cX4_init 108 = .ok (.goto (-22), 3) := by decide +kernel
theorem dX4_init_111 : decode cX4_init 111 = .ok (.aload_n 0, 1) := by decide +kernel
theorem dX4_init_112 : decode cX4_init 112 = .ok (.getfield 27, 3) := by decide +kernel
theorem dX4_init_115 : decode cX4_init 115 = .ok (.iconst (-1), 1) := by decide +kernel
theorem dX4_init_116 : decode cX4_init 116 = .ok (.invokestatic 45, 3) := by decide +kernel
theorem dX4_init_119 : decode cX4_init 119 = .ok (.return_, 1) := by decide +kernel
theorem dX4_become_0 : decode cX4_become 0 = .ok (.aload_n 0, 1) := by decide +kernel
theorem dX4_become_1 : decode cX4_become 1 = .ok (.aload_n 1, 1) := by decide +kernel
theorem dX4_become_2 : decode cX4_become 2 = .ok (.getfield 30, 3) := by decide +kernel
theorem dX4_become_5 : decode cX4_become 5 = .ok (.putfield 30, 3) := by decide +kernel
theorem dX4_become_8 : decode cX4_become 8 = .ok (.aload_n 0, 1) := by decide +kernel
theorem dX4_become_9 : decode cX4_become 9 = .ok (.aload_n 1, 1) := by decide +kernel
theorem dX4_become_10 : decode cX4_become 10 = .ok (.getfield 34, 3) := by decide +kernel
theorem dX4_become_13 : decode cX4_become 13 = .ok (.putfield 34, 3) := by decide +kernel
theorem dX4_become_16 : decode cX4_become 16 = .ok (.aload_n 0, 1) := by decide +kernel
theorem dX4_become_17 : decode cX4_become 17 = .ok (.aload_n 1, 1) := by decide +kernel
theorem dX4_become_18 : decode cX4_become 18 = .ok (.getfield 37, 3) := by decide +kernel
theorem dX4_become_21 : decode cX4_become 21 = .ok (.putfield 37, 3) := by decide +kernel
theorem dX4_become_24 : decode cX4_become 24 = .ok (.aload_n 0, 1) := by decide +kernel
theorem dX4_become_25 : decode cX4_become 25 = .ok (.aload_n 1, 1) := by decide +kernel
theorem dX4_become_26 : decode cX4_become 26 = .ok (.getfield 40, 3) := by decide +kernel
theorem dX4_become_29 : decode cX4_become 29 = .ok (.putfield 40, 3) := by decide +kernel
theorem dX4_become_32 : decode cX4_become 32 = .ok (.iconst 0, 1) := by decide +kernel
theorem dX4_become_33 : decode cX4_become 33 = .ok (.istore_n 2, 1) := by decide +kernel
theorem dX4_become_34 : decode cX4_become 34 = .ok (.iload_n 2, 1) := by decide +kernel
theorem dX4_become_35 : decode cX4_become 35 = .ok (.aload_n 0, 1) := by decide +kernel
theorem dX4_become_36 : decode cX4_become 36 = .ok (.getfield 30, 3) := by decide +kernel
theorem dX4_become_39 : decode cX4_become 39 = .ok (.if_icmp .ge 24, 3) := by decide +kernel
theorem dX4_become_42 : decode cX4_become 42 = .ok (.aload_n 0, 1) := by decide +kernel
theorem dX4_become_43 : decode cX4_become 43 = .ok (.getfield 11, 3) := by decide +kernel
theorem dX4_become_46 : decode cX4_become 46 = .ok (.iload_n 2, 1) := by decide +kernel
theorem dX4_become_47 : decode cX4_become 47 = .ok (.aaload, 1) := by decide +kernel
theorem dX4_become_48 : decode cX4_become 48 = .ok (.aload_n 1, 1) := by decide +kernel
theorem dX4_become_49 : decode cX4_become 49 = .ok (.getfield 11, 3) := by decide +kernel
theorem dX4_become_52 : decode cX4_become 52 = .ok (.iload_n 2, 1) := by decide +kernel
theorem dX4_become_53 : decode cX4_become 53 = .ok (.aaload, 1) := by decide +kernel
theorem dX4_become_54 : decode cX4_become 54 = .ok (.invokevirtual 51, 3) := by decide +kernel
theorem dX4_become_57 : decode cX4_become 57 = .ok (.iinc 2 1, 3) := by decide +kernel
theorem dX4_become_60 : decode cX4_become 60 = .ok (.goto (-26), 3) := by decide +kernel
theorem dX4_become_63 : decode cX4_become 63 = .ok (.iconst 0, 1) := by decide +kernel
theorem dX4_become_64 : decode cX4_become 64 = .ok (.istore_n 2, 1) := by decide +kernel
theorem dX4_become_65 : decode cX4_become 65 = .ok (.iload_n 2, 1) := by decide +kernel
theorem dX4_become_66 : decode cX4_become 66 = .ok (.aload_n 0, 1) := by decide +kernel
theorem dX4_become_67 : decode cX4_become 67 = .ok (.getfield 34, 3) := by decide +kernel
theorem dX4_become_70 : decode cX4_become 70 = .ok (.if_icmp .ge 24, 3) := by decide +kernel
theorem dX4_become_73 : decode cX4_become 73 = .ok (.aload_n 0, 1) := by decide +kernel
theorem dX4_become_74 : decode cX4_become 74 = .ok (.getfield 19, 3) := by decide +kernel
theorem dX4_become_77 : decode cX4_become 77 = .ok (.iload_n 2, 1) := by decide +kernel
theorem dX4_become_78 : decode cX4_become 78 = .ok (.aaload, 1) := by decide +kernel
theorem dX4_become_79 : decode cX4_become 79 = .ok (.aload_n 1, 1) := by decide +kernel
theorem dX4_become_80 : decode cX4_become 80 = .ok (.getfield 19, 3) := by decide +kernel
theorem dX4_become_83 : decode cX4_become 83 = .ok (.iload_n 2, 1) := by decide +kernel
theorem dX4_become_84 : decode cX4_become 84 = .ok (.aaload, 1) := by decide +kernel
theorem dX4_become_85 : decode cX4_become 85 = .ok (.invokevirtual 55, 3) := by decide +kernel
theorem dX4_become_88 : decode cX4_become 88 = .ok (.iinc 2 1, 3) := by decide +kernel
theorem dX4_become_91 : decode cX4_become 91 = .ok (.goto (-26), 3) := by decide +kernel
theorem dX4_become_94 : decode cX4_become 94 = .ok (.aload_n 1, 1) := by decide +kernel
theorem dX4_become_95 : decode cX4_become 95 = .ok (.getfield 23, 3) := by decide +kernel
theorem dX4_become_98 : decode cX4_become 98 = .ok (.iconst 0, 1) := by decide +kernel
theorem dX4_become_99 : decode cX4_become 99 = .ok (.aload_n 0, 1) := by decide +kernel
theorem dX4_become_100 : decode cX4_become 100 = .ok (.getfield 23, 3) := by decide +kernel
theorem dX4_become_103 : decode cX4_become 103 = .ok (.iconst 0, 1) := by decide +kernel
theorem dX4_become_104 : decode cX4_become 104 = .ok (.iconst 4, 1) := by decide +kernel
theorem dX4_become_105 : decode cX4_become 105 = .ok (.invokestatic 58, 3) := by decide +kernel
theorem dX4_become_108 : decode cX4_become 108 = .ok (.aload_n 1, 1) := by decide +kernel
theorem dX4_become_109 : decode cX4_become 109 = .ok (.getfield 27, 3) := by decide +kernel
theorem dX4_become_112 : decode cX4_become 112 = .ok (.iconst 0, 1) := by decide +kernel
theorem dX4_become_113 : decode cX4_become 113 = .ok (.aload_n 0, 1) := by decide +kernel
theorem dX4_become_114 : decode cX4_become 114 = .ok (.getfield 27, 3) := by decide +kernel
theorem dX4_become_117 : decode cX4_become 117 = .ok (.iconst 0, 1) := by decide +kernel
theorem dX4_become_118 : decode cX4_become 118 = .ok (.bipush 10, 2) := by decide +kernel
theorem dX4_become_120 : decode cX4_become 120 = .ok (.invokestatic 58, 3) := by decide +kernel
theorem dX4_become_123 : decode cX4_become 123 = .ok (.return_, 1) := by decide +kernel
theorem dX4_hasBird_0 : decode cX4_hasBird 0 = .ok (.iload_n 1, 1) := by decide +kernel
theorem dX4_hasBird_1 : decode cX4_hasBird 1 = .ok (.aload_n 0, 1) := by decide +kernel
theorem dX4_hasBird_2 : decode cX4_hasBird 2 = .ok (.getfield 30, 3) := by decide +kernel
theorem dX4_hasBird_5 : decode cX4_hasBird 5 = .ok (.iconst 1, 1) := by decide +kernel
theorem dX4_hasBird_6 : decode cX4_hasBird 6 = .ok (.isub, 1) := by decide +kernel
theorem dX4_hasBird_7 : decode cX4_hasBird 7 = .ok (.invokestatic 64, 3) := by decide +kernel
theorem dX4_hasBird_10 : decode cX4_hasBird 10 = .ok (.ireturn, 1) := by decide +kernel
theorem dX4_hasMotion_0 : decode cX4_hasMotion 0 = .ok (.iload_n 1, 1) := by decide +kernel
theorem dX4_hasMotion_1 : decode cX4_hasMotion 1 = .ok (.aload_n 0, 1) := by decide +kernel
theorem dX4_hasMotion_2 : decode cX4_hasMotion 2 = .ok (.getfield 34, 3) := by decide +kernel
theorem dX4_hasMotion_5 : decode cX4_hasMotion 5 = .ok (.iconst 1, 1) := by decide +kernel
theorem dX4_hasMotion_6 : decode cX4_hasMotion 6 = .ok (.isub, 1) := by decide +kernel
theorem dX4_hasMotion_7 : decode cX4_hasMotion 7 = .ok (.invokestatic 64, 3) := by decide +kernel
theorem dX4_hasMotion_10 : decode cX4_hasMotion 10 = .ok (.ireturn, 1) := by decide +kernel
theorem dX4_allBirds_0 : decode cX4_allBirds 0 = .ok (.iconst 1, 1) := by decide +kernel
theorem dX4_allBirds_1 : decode cX4_allBirds 1 = .ok (.aload_n 0, 1) := by decide +kernel
theorem dX4_allBirds_2 : decode cX4_allBirds 2 = .ok (.getfield 30, 3) := by decide +kernel
theorem dX4_allBirds_5 : decode cX4_allBirds 5 = .ok (.ishl, 1) := by decide +kernel
theorem dX4_allBirds_6 : decode cX4_allBirds 6 = .ok (.iconst 1, 1) := by decide +kernel
theorem dX4_allBirds_7 : decode cX4_allBirds 7 = .ok (.isub, 1) := by decide +kernel
theorem dX4_allBirds_8 : decode cX4_allBirds 8 = .ok (.ireturn, 1) := by decide +kernel
theorem dX4_allMotions_0 : decode cX4_allMotions 0 = .ok (.iconst 1, 1) := by decide +kernel
theorem dX4_allMotions_1 : decode cX4_allMotions 1 = .ok (.aload_n 0, 1) := by decide +kernel
theorem dX4_allMotions_2 : decode cX4_allMotions 2 = .ok (.getfield 34, 3) := by decide +kernel
theorem dX4_allMotions_5 : decode cX4_allMotions 5 = .ok (.ishl, 1) := by decide +kernel
theorem dX4_allMotions_6 : decode cX4_allMotions 6 = .ok (.iconst 1, 1) := by decide +kernel
theorem dX4_allMotions_7 : decode cX4_allMotions 7 = .ok (.isub, 1) := by decide +kernel
theorem dX4_allMotions_8 : decode cX4_allMotions 8 = .ok (.ireturn, 1) := by decide +kernel
theorem dX4_addBird_0 : decode cX4_addBird 0 = .ok (.aload_n 0, 1) := by decide +kernel
theorem dX4_addBird_1 : decode cX4_addBird 1 = .ok (.getfield 30, 3) := by decide +kernel
theorem dX4_addBird_4 : decode cX4_addBird 4 = .ok (.bipush 8, 2) := by decide +kernel
theorem dX4_addBird_6 : decode cX4_addBird 6 = .ok (.if_icmp .lt 5, 3) := by decide +kernel
theorem dX4_addBird_9 : decode cX4_addBird 9 = .ok (.iconst (-1), 1) := by decide +kernel
theorem dX4_addBird_10 : decode cX4_addBird 10 = .ok (.ireturn, 1) := by decide +kernel
theorem dX4_addBird_11 : decode cX4_addBird 11 = .ok (.aload_n 0, 1) := by decide +kernel
theorem dX4_addBird_12 : decode cX4_addBird 12 = .ok (.getfield 11, 3) := by decide +kernel
theorem dX4_addBird_15 : decode cX4_addBird 15 = .ok (.aload_n 0, 1) := by decide +kernel
theorem dX4_addBird_16 : decode cX4_addBird 16 = .ok (.getfield 30, 3) := by decide +kernel
theorem dX4_addBird_19 : decode cX4_addBird 19 = .ok (.aaload, 1) := by decide +kernel
theorem dX4_addBird_20 : decode cX4_addBird 20 = .ok (.iload_n 1, 1) := by decide +kernel
theorem dX4_addBird_21 : decode cX4_addBird 21 = .ok (.invokevirtual 68, 3) := by decide +kernel
theorem dX4_addBird_24 : decode cX4_addBird 24 = .ok (.aload_n 0, 1) := by decide +kernel
theorem dX4_addBird_25 : decode cX4_addBird 25 = .ok (.dup, 1) := by decide +kernel
theorem dX4_addBird_26 : decode cX4_addBird 26 = .ok (.getfield 30, 3) := by decide +kernel
theorem dX4_addBird_29 : decode cX4_addBird 29 = .ok (.iconst 1, 1) := by decide +kernel
theorem dX4_addBird_30 : decode cX4_addBird 30 = .ok (.iadd, 1) := by decide +kernel
theorem dX4_addBird_31 : decode cX4_addBird 31 = .ok (.putfield 30, 3) := by decide +kernel
theorem dX4_addBird_34 : decode cX4_addBird 34 = .ok (.aload_n 0, 1) := by decide +kernel
theorem dX4_addBird_35 : decode cX4_addBird 35 = .ok (.getfield 30, 3) := by decide +kernel
theorem dX4_addBird_38 : decode cX4_addBird 38 = .ok (.iconst 1, 1) := by decide +kernel
theorem dX4_addBird_39 : decode cX4_addBird 39 = .ok (.isub, 1) := by decide +kernel
theorem dX4_addBird_40 : decode cX4_addBird 40 = .ok (.ireturn, 1) := by decide +kernel
theorem dX4_addMotion_0 : decode cX4_addMotion 0 = .ok (.aload_n 0, 1) := by decide +kernel
theorem dX4_addMotion_1 : decode cX4_addMotion 1 = .ok (.getfield 34, 3) := by decide +kernel
theorem dX4_addMotion_4 : decode cX4_addMotion 4 = .ok (.bipush 8, 2) := by decide +kernel
theorem dX4_addMotion_6 : decode cX4_addMotion 6 = .ok (.if_icmp .lt 5, 3) := by decide +kernel
theorem dX4_addMotion_9 : decode cX4_addMotion 9 = .ok (.iconst (-1), 1) := by decide +kernel
theorem dX4_addMotion_10 : decode cX4_addMotion 10 = .ok (.ireturn, 1) := by decide +kernel
theorem dX4_addMotion_11 : decode cX4_addMotion 11 = .ok (.aload_n 0, 1) := by decide +kernel
theorem dX4_addMotion_12 : decode cX4_addMotion 12 = .ok (.getfield 19, 3) := by decide +kernel
theorem dX4_addMotion_15 : decode cX4_addMotion 15 = .ok (.aload_n 0, 1) := by decide +kernel
theorem dX4_addMotion_16 : decode cX4_addMotion 16 = .ok (.getfield 34, 3) := by decide +kernel
theorem dX4_addMotion_19 : decode cX4_addMotion 19 = .ok (.aaload, 1) := by decide +kernel
theorem dX4_addMotion_20 : decode cX4_addMotion 20 = .ok (.iload_n 1, 1) := by decide +kernel
theorem dX4_addMotion_21 : decode cX4_addMotion 21 = .ok (.invokevirtual 72, 3) := by decide +kernel
theorem dX4_addMotion_24 : decode cX4_addMotion 24 = .ok (.aload_n 0, 1) := by decide +kernel
theorem dX4_addMotion_25 : decode cX4_addMotion 25 = .ok (.dup, 1) := by decide +kernel
theorem dX4_addMotion_26 : decode cX4_addMotion 26 = .ok (.getfield 34, 3) := by decide +kernel
theorem dX4_addMotion_29 : decode cX4_addMotion 29 = .ok (.iconst 1, 1) := by decide +kernel
theorem dX4_addMotion_30 : decode cX4_addMotion 30 = .ok (.iadd, 1) := by decide +kernel
theorem dX4_addMotion_31 : decode cX4_addMotion 31 = .ok (.putfield 34, 3) := by decide +kernel
theorem dX4_addMotion_34 : decode cX4_addMotion 34 = .ok (.aload_n 0, 1) := by decide +kernel
theorem dX4_addMotion_35 : decode cX4_addMotion 35 = .ok (.getfield 34, 3) := by decide +kernel
theorem dX4_addMotion_38 : decode cX4_addMotion 38 = .ok (.iconst 1, 1) := by decide +kernel
theorem dX4_addMotion_39 : decode cX4_addMotion 39 = .ok (.isub, 1) := by decide +kernel
theorem dX4_addMotion_40 : decode cX4_addMotion 40 = .ok (.ireturn, 1) := by decide +kernel
theorem dX4_allFeathers_0 : decode cX4_allFeathers 0 = .ok (.iconst 0, 1) := by decide +kernel
theorem dX4_allFeathers_1 : decode cX4_allFeathers 1 = .ok (.istore_n 1, 1) := by decide +kernel
theorem dX4_allFeathers_2 : decode cX4_allFeathers 2 = .ok (.iconst 0, 1) := by decide +kernel
theorem dX4_allFeathers_3 : decode cX4_allFeathers 3 = .ok (.istore_n 2, 1) := by decide +kernel
theorem dX4_allFeathers_4 : decode cX4_allFeathers 4 = .ok (.iload_n 2, 1) := by decide +kernel
theorem dX4_allFeathers_5 : decode cX4_allFeathers 5 = .ok (.aload_n 0, 1) := by decide +kernel
theorem dX4_allFeathers_6 : decode cX4_allFeathers 6 = .ok (.getfield 30, 3) := by decide +kernel
theorem dX4_allFeathers_9 : decode cX4_allFeathers 9 = .ok (.if_icmp .ge 21, 3) := by decide +kernel
theorem dX4_allFeathers_12 : decode cX4_allFeathers 12 = .ok (.iload_n 1, 1) := by decide +kernel
theorem dX4_allFeathers_13 : decode cX4_allFeathers 13 = .ok (.aload_n 0, 1) := by decide +kernel
theorem dX4_allFeathers_14 : decode cX4_allFeathers 14 = .ok (.getfield 11, 3) := by decide +kernel
theorem dX4_allFeathers_17 : decode cX4_allFeathers 17 = .ok (.iload_n 2, 1) := by decide +kernel
theorem dX4_allFeathers_18 : decode cX4_allFeathers 18 = .ok (.aaload, 1) := by decide +kernel
theorem dX4_allFeathers_19 : decode cX4_allFeathers 19 = .ok (.invokevirtual 75, 3) := by decide +kernel
theorem dX4_allFeathers_22 : decode cX4_allFeathers 22 = .ok (.iadd, 1) := by decide +kernel
theorem dX4_allFeathers_23 : decode cX4_allFeathers 23 = .ok (.istore_n 1, 1) := by decide +kernel
theorem dX4_allFeathers_24 : decode cX4_allFeathers 24 = .ok (.iinc 2 1, 3) := by decide +kernel
theorem dX4_allFeathers_27 : decode cX4_allFeathers 27 = .ok (.goto (-23), 3) := by decide +kernel
theorem dX4_allFeathers_30 : decode cX4_allFeathers 30 = .ok (.iload_n 1, 1) := by decide +kernel
theorem dX4_allFeathers_31 : decode cX4_allFeathers 31 = .ok (.ireturn, 1) := by decide +kernel
theorem dX4_laws_0 : decode cX4_laws 0 = .ok (.iconst 0, 1) := by decide +kernel
theorem dX4_laws_1 : decode cX4_laws 1 = .ok (.istore_n 1, 1) := by decide +kernel
theorem dX4_laws_2 : decode cX4_laws 2 = .ok (.iconst 0, 1) := by decide +kernel
theorem dX4_laws_3 : decode cX4_laws 3 = .ok (.istore_n 2, 1) := by decide +kernel
theorem dX4_laws_4 : decode cX4_laws 4 = .ok (.iload_n 2, 1) := by decide +kernel
theorem dX4_laws_5 : decode cX4_laws 5 = .ok (.aload_n 0, 1) := by decide +kernel
theorem dX4_laws_6 : decode cX4_laws 6 = .ok (.getfield 34, 3) := by decide +kernel
theorem dX4_laws_9 : decode cX4_laws 9 = .ok (.if_icmp .ge 23, 3) := by decide +kernel
theorem dX4_laws_12 : decode cX4_laws 12 = .ok (.iload_n 1, 1) := by decide +kernel
theorem dX4_laws_13 : decode cX4_laws 13 = .ok (.aload_n 0, 1) := by decide +kernel
theorem dX4_laws_14 : decode cX4_laws 14 = .ok (.getfield 19, 3) := by decide +kernel
theorem dX4_laws_17 : decode cX4_laws 17 = .ok (.iload_n 2, 1) := by decide +kernel
theorem dX4_laws_18 : decode cX4_laws 18 = .ok (.aaload, 1) := by decide +kernel
theorem dX4_laws_19 : decode cX4_laws 19 = .ok (.getfield 79, 3) := by decide +kernel
theorem dX4_laws_22 : decode cX4_laws 22 = .ok (.iload_n 2, 1) := by decide +kernel
theorem dX4_laws_23 : decode cX4_laws 23 = .ok (.ishl, 1) := by decide +kernel
theorem dX4_laws_24 : decode cX4_laws 24 = .ok (.ior, 1) := by decide +kernel
theorem dX4_laws_25 : decode cX4_laws 25 = .ok (.istore_n 1, 1) := by decide +kernel
theorem dX4_laws_26 : decode cX4_laws 26 = .ok (.iinc 2 1, 3) := by decide +kernel
theorem dX4_laws_29 : decode cX4_laws 29 = .ok (.goto (-25), 3) := by decide +kernel
theorem dX4_laws_32 : decode cX4_laws 32 = .ok (.iload_n 1, 1) := by decide +kernel
theorem dX4_laws_33 : decode cX4_laws 33 = .ok (.ireturn, 1) := by decide +kernel
theorem dX4_flyers_0 : decode cX4_flyers 0 = .ok (.iconst 0, 1) := by decide +kernel
theorem dX4_flyers_1 : decode cX4_flyers 1 = .ok (.istore_n 1, 1) := by decide +kernel
theorem dX4_flyers_2 : decode cX4_flyers 2 = .ok (.iconst 0, 1) := by decide +kernel
theorem dX4_flyers_3 : decode cX4_flyers 3 = .ok (.istore_n 2, 1) := by decide +kernel
theorem dX4_flyers_4 : decode cX4_flyers 4 = .ok (.iload_n 2, 1) := by decide +kernel
theorem dX4_flyers_5 : decode cX4_flyers 5 = .ok (.aload_n 0, 1) := by decide +kernel
theorem dX4_flyers_6 : decode cX4_flyers 6 = .ok (.getfield 30, 3) := by decide +kernel
theorem dX4_flyers_9 : decode cX4_flyers 9 = .ok (.if_icmp .ge 27, 3) := by decide +kernel
theorem dX4_flyers_12 : decode cX4_flyers 12 = .ok (.aload_n 0, 1) := by decide +kernel
theorem dX4_flyers_13 : decode cX4_flyers 13 = .ok (.getfield 11, 3) := by decide +kernel
theorem dX4_flyers_16 : decode cX4_flyers 16 = .ok (.iload_n 2, 1) := by decide +kernel
theorem dX4_flyers_17 : decode cX4_flyers 17 = .ok (.aaload, 1) := by decide +kernel
theorem dX4_flyers_18 : decode cX4_flyers 18 = .ok (.invokevirtual 82, 3) := by decide +kernel
theorem dX4_flyers_21 : decode cX4_flyers 21 = .ok (.ifCond .eq 9, 3) := by decide +kernel
theorem dX4_flyers_24 : decode cX4_flyers 24 = .ok (.iload_n 1, 1) := by decide +kernel
theorem dX4_flyers_25 : decode cX4_flyers 25 = .ok (.iconst 1, 1) := by decide +kernel
theorem dX4_flyers_26 : decode cX4_flyers 26 = .ok (.iload_n 2, 1) := by decide +kernel
theorem dX4_flyers_27 : decode cX4_flyers 27 = .ok (.ishl, 1) := by decide +kernel
theorem dX4_flyers_28 : decode cX4_flyers 28 = .ok (.ior, 1) := by decide +kernel
theorem dX4_flyers_29 : decode cX4_flyers 29 = .ok (.istore_n 1, 1) := by decide +kernel
theorem dX4_flyers_30 : decode cX4_flyers 30 = .ok (.iinc 2 1, 3) := by decide +kernel
theorem dX4_flyers_33 : decode cX4_flyers 33 = .ok (.goto (-29), 3) := by decide +kernel
theorem dX4_flyers_36 : decode cX4_flyers 36 = .ok (.iload_n 1, 1) := by decide +kernel
theorem dX4_flyers_37 : decode cX4_flyers 37 = .ok (.ireturn, 1) := by decide +kernel
theorem dX4_spotsTaken_0 : decode cX4_spotsTaken 0 = .ok (.iconst 0, 1) := by decide +kernel
theorem dX4_spotsTaken_1 : decode cX4_spotsTaken 1 = .ok (.istore_n 1, 1) := by decide +kernel
theorem dX4_spotsTaken_2 : decode cX4_spotsTaken 2 = .ok (.iconst 0, 1) := by decide +kernel
theorem dX4_spotsTaken_3 : decode cX4_spotsTaken 3 = .ok (.istore_n 2, 1) := by decide +kernel
theorem dX4_spotsTaken_4 : decode cX4_spotsTaken 4 = .ok (.iload_n 2, 1) := by decide +kernel
theorem dX4_spotsTaken_5 : decode cX4_spotsTaken 5 = .ok (.bipush 10, 2) := by decide +kernel
theorem dX4_spotsTaken_7 : decode cX4_spotsTaken 7 = .ok (.if_icmp .ge 22, 3) := by decide +kernel
theorem dX4_spotsTaken_10 : decode cX4_spotsTaken 10 = .ok (.aload_n 0, 1) := by decide +kernel
theorem dX4_spotsTaken_11 : decode cX4_spotsTaken 11 = .ok (.getfield 27, 3) := by decide +kernel
theorem dX4_spotsTaken_14 : decode cX4_spotsTaken 14 = .ok (.iload_n 2, 1) := by decide +kernel
theorem dX4_spotsTaken_15 : decode cX4_spotsTaken 15 = .ok (.iaload, 1) := by decide +kernel
theorem dX4_spotsTaken_16 : decode cX4_spotsTaken 16 = .ok (.iconst (-1), 1) := by decide +kernel
theorem dX4_spotsTaken_17 : decode cX4_spotsTaken 17 = .ok (.if_icmp .eq 6, 3) := by decide +kernel
theorem dX4_spotsTaken_20 : decode cX4_spotsTaken 20 = .ok (.iinc 1 1, 3) := by decide +kernel
theorem dX4_spotsTaken_23 : decode cX4_spotsTaken 23 = .ok (.iinc 2 1, 3) := by decide +kernel
theorem dX4_spotsTaken_26 : decode cX4_spotsTaken 26 = .ok (.goto (-22), 3) := by decide +kernel
theorem dX4_spotsTaken_29 : decode cX4_spotsTaken 29 = .ok (.iload_n 1, 1) := by decide +kernel
theorem dX4_spotsTaken_30 : decode cX4_spotsTaken 30 = .ok (.ireturn, 1) := by decide +kernel
theorem dX4_passSeason_0 : decode cX4_passSeason 0 = .ok (.aload_n 0, 1) := by decide +kernel
theorem dX4_passSeason_1 : decode cX4_passSeason 1 = .ok (.getfield 37, 3) := by decide +kernel
theorem dX4_passSeason_4 : decode cX4_passSeason 4 = .ok (.iconst 4, 1) := by decide +kernel
theorem dX4_passSeason_5 : decode cX4_passSeason 5 = .ok (.irem, 1) := by decide +kernel
theorem dX4_passSeason_6 : decode cX4_passSeason 6 = .ok (.istore_n 1, 1) := by decide +kernel
theorem dX4_passSeason_7 : decode cX4_passSeason 7 = .ok (.iconst 0, 1) := by decide +kernel
theorem dX4_passSeason_8 : decode cX4_passSeason 8 = .ok (.istore_n 2, 1) := by decide +kernel
theorem dX4_passSeason_9 : decode cX4_passSeason 9 = .ok (.iload_n 2, 1) := by decide +kernel
theorem dX4_passSeason_10 : decode cX4_passSeason 10 = .ok (.aload_n 0, 1) := by decide +kernel
theorem dX4_passSeason_11 : decode cX4_passSeason 11 = .ok (.getfield 30, 3) := by decide +kernel
theorem dX4_passSeason_14 : decode cX4_passSeason 14 = .ok (.if_icmp .ge 19, 3) := by decide +kernel
theorem dX4_passSeason_17 : decode cX4_passSeason 17 = .ok (.aload_n 0, 1) := by decide +kernel
theorem dX4_passSeason_18 : decode cX4_passSeason 18 = .ok (.getfield 11, 3) := by decide +kernel
theorem dX4_passSeason_21 : decode cX4_passSeason 21 = .ok (.iload_n 2, 1) := by decide +kernel
theorem dX4_passSeason_22 : decode cX4_passSeason 22 = .ok (.aaload, 1) := by decide +kernel
theorem dX4_passSeason_23 : decode cX4_passSeason 23 = .ok (.iload_n 1, 1) := by decide +kernel
theorem dX4_passSeason_24 : decode cX4_passSeason 24 = .ok (.invokevirtual 86, 3) := by decide +kernel
theorem dX4_passSeason_27 : decode cX4_passSeason 27 = .ok (.iinc 2 1, 3) := by decide +kernel
theorem dX4_passSeason_30 : decode cX4_passSeason 30 = .ok (.goto (-21), 3) := by decide +kernel
theorem dX4_passSeason_33 : decode cX4_passSeason 33 = .ok (.aload_n 0, 1) := by decide +kernel
theorem dX4_passSeason_34 : decode cX4_passSeason 34 = .ok (.dup, 1) := by decide +kernel
theorem dX4_passSeason_35 : decode cX4_passSeason 35 = .ok (.getfield 37, 3) := by decide +kernel
theorem dX4_passSeason_38 : decode cX4_passSeason 38 = .ok (.iconst 1, 1) := by decide +kernel
theorem dX4_passSeason_39 : decode cX4_passSeason 39 = .ok (.iadd, 1) := by decide +kernel
theorem dX4_passSeason_40 : decode cX4_passSeason 40 = .ok (.putfield 37, 3) := by decide +kernel
theorem dX4_passSeason_43 : decode cX4_passSeason 43 = .ok (.return_, 1) := by decide +kernel
theorem dX4_draw_0 : decode cX4_draw 0 = .ok (.aload_n 0, 1) := by decide +kernel
theorem dX4_draw_1 : decode cX4_draw 1 = .ok (.aload_n 0, 1) := by decide +kernel
theorem dX4_draw_2 : decode cX4_draw 2 = .ok (.getfield 40, 3) := by decide +kernel
theorem dX4_draw_5 : decode cX4_draw 5 = .ok (.ldc 89, 2) := by decide +kernel
theorem dX4_draw_7 : decode cX4_draw 7 = .ok (.imul, 1) := by decide +kernel
theorem dX4_draw_8 : decode cX4_draw 8 = .ok (.sipush 12345, 3) := by decide +kernel
theorem dX4_draw_11 : decode cX4_draw 11 = .ok (.iadd, 1) := by decide +kernel
theorem dX4_draw_12 : decode cX4_draw 12 = .ok (.putfield 40, 3) := by decide +kernel
theorem dX4_draw_15 : decode cX4_draw 15 = .ok (.aload_n 0, 1) := by decide +kernel
theorem dX4_draw_16 : decode cX4_draw 16 = .ok (.getfield 40, 3) := by decide +kernel
theorem dX4_draw_19 : decode cX4_draw 19 = .ok (.bipush 8, 2) := by decide +kernel
theorem dX4_draw_21 : decode cX4_draw 21 = .ok (.iushr, 1) := by decide +kernel
theorem dX4_draw_22 : decode cX4_draw 22 = .ok (.ireturn, 1) := by decide +kernel
theorem dX4_crowsAmong_0 : decode cX4_crowsAmong 0 = .ok (.iconst 0, 1) := by decide +kernel
theorem dX4_crowsAmong_1 : decode cX4_crowsAmong 1 = .ok (.istore_n 2, 1) := by decide +kernel
theorem dX4_crowsAmong_2 : decode cX4_crowsAmong 2 = .ok (.iconst 0, 1) := by decide +kernel
theorem dX4_crowsAmong_3 : decode cX4_crowsAmong 3 = .ok (.istore_n 3, 1) := by decide +kernel
theorem dX4_crowsAmong_4 : decode cX4_crowsAmong 4 = .ok (.iload_n 3, 1) := by decide +kernel
theorem dX4_crowsAmong_5 : decode cX4_crowsAmong 5 = .ok (.aload_n 0, 1) := by decide +kernel
theorem dX4_crowsAmong_6 : decode cX4_crowsAmong 6 = .ok (.getfield 30, 3) := by decide +kernel
theorem dX4_crowsAmong_9 : decode cX4_crowsAmong 9 = .ok (.if_icmp .ge 33, 3) := by decide +kernel
theorem dX4_crowsAmong_12 : decode cX4_crowsAmong 12 = .ok (.iload_n 1, 1) := by decide +kernel
theorem dX4_crowsAmong_13 : decode cX4_crowsAmong 13 = .ok (.iload_n 3, 1) := by decide +kernel
theorem dX4_crowsAmong_14 : decode cX4_crowsAmong 14 = .ok (.invokestatic 90, 3) := by decide +kernel
theorem dX4_crowsAmong_17 : decode cX4_crowsAmong 17 = .ok (.ifCond .eq 19, 3) := by decide +kernel
theorem dX4_crowsAmong_20 : decode cX4_crowsAmong 20 = .ok (.aload_n 0, 1) := by decide +kernel
theorem dX4_crowsAmong_21 : decode cX4_crowsAmong 21 = .ok (.getfield 11, 3) := by decide +kernel
theorem dX4_crowsAmong_24 : decode cX4_crowsAmong 24 = .ok (.iload_n 3, 1) := by decide +kernel
theorem dX4_crowsAmong_25 : decode cX4_crowsAmong 25 = .ok (.aaload, 1) := by decide +kernel
theorem dX4_crowsAmong_26 : decode cX4_crowsAmong 26 = .ok (.iconst 2, 1) := by decide +kernel
theorem dX4_crowsAmong_27 : decode cX4_crowsAmong 27 = .ok (.invokevirtual 93, 3) := by decide +kernel
theorem dX4_crowsAmong_30 : decode cX4_crowsAmong 30 = .ok (.ifCond .eq 6, 3) := by decide +kernel
theorem dX4_crowsAmong_33 : decode cX4_crowsAmong 33 = .ok (.iinc 2 1, 3) := by decide +kernel
theorem dX4_crowsAmong_36 : decode cX4_crowsAmong 36 = .ok (.iinc 3 1, 3) := by decide +kernel
theorem dX4_crowsAmong_39 : decode cX4_crowsAmong 39 = .ok (.goto (-35), 3) := by decide +kernel
theorem dX4_crowsAmong_42 : decode cX4_crowsAmong 42 = .ok (.iload_n 2, 1) := by decide +kernel
theorem dX4_crowsAmong_43 : decode cX4_crowsAmong 43 = .ok (.ireturn, 1) := by decide +kernel
theorem dX4_isIn_0 : decode cX4_isIn 0 = .ok (.iload_n 0, 1) := by decide +kernel
theorem dX4_isIn_1 : decode cX4_isIn 1 = .ok (.iload_n 1, 1) := by decide +kernel
theorem dX4_isIn_2 : decode cX4_isIn 2 = .ok (.ishr, 1) := by decide +kernel
theorem dX4_isIn_3 : decode cX4_isIn 3 = .ok (.iconst 1, 1) := by decide +kernel
theorem dX4_isIn_4 : decode cX4_isIn 4 = .ok (.iand, 1) := by decide +kernel
theorem dX4_isIn_5 : decode cX4_isIn 5 = .ok (.ifCond .eq 7, 3) := by decide +kernel
theorem dX4_isIn_8 : decode cX4_isIn 8 = .ok (.iconst 1, 1) := by decide +kernel
theorem dX4_isIn_9 : decode cX4_isIn 9 = .ok (.goto 4, 3) := by decide +kernel
theorem dX4_isIn_12 : decode cX4_isIn 12 = .ok (.iconst 0, 1) := by decide +kernel
theorem dX4_isIn_13 : decode cX4_isIn 13 = .ok (.ireturn, 1) := by decide +kernel
theorem dX4_againstIt_0 : decode cX4_againstIt 0 = .ok (.aload_n 0, 1) := by decide +kernel
theorem dX4_againstIt_1 : decode cX4_againstIt 1 = .ok (.invokevirtual 97, 3) := by decide +kernel
theorem dX4_againstIt_4 : decode cX4_againstIt 4 = .ok (.aload_n 1, 1) := by decide +kernel
theorem dX4_againstIt_5 : decode cX4_againstIt 5 = .ok (.getfield 100, 3) := by decide +kernel
theorem dX4_againstIt_8 : decode cX4_againstIt 8 = .ok (.iconst (-1), 1) := by decide +kernel
theorem dX4_againstIt_9 : decode cX4_againstIt 9 = .ok (.ixor, 1) := by decide +kernel
theorem dX4_againstIt_10 : decode cX4_againstIt 10 = .ok (.iand, 1) := by decide +kernel
theorem dX4_againstIt_11 : decode cX4_againstIt 11 = .ok (.ireturn, 1) := by decide +kernel
theorem dX4_dropOf_0 : decode cX4_dropOf 0 = .ok (.aload_n 2, 1) := by decide +kernel
theorem dX4_dropOf_1 : decode cX4_dropOf 1 = .ok (.getfield 100, 3) := by decide +kernel
theorem dX4_dropOf_4 : decode cX4_dropOf 4 = .ok (.iload_n 1, 1) := by decide +kernel
theorem dX4_dropOf_5 : decode cX4_dropOf 5 = .ok (.invokestatic 90, 3) := by decide +kernel
theorem dX4_dropOf_8 : decode cX4_dropOf 8 = .ok (.ifCond .eq 10, 3) := by decide +kernel
theorem dX4_dropOf_11 : decode cX4_dropOf 11 = .ok (.aload_n 2, 1) := by decide +kernel
theorem dX4_dropOf_12 : decode cX4_dropOf 12 = .ok (.getfield 100, 3) := by decide +kernel
theorem dX4_dropOf_15 : decode cX4_dropOf 15 = .ok (.goto 8, 3) := by decide +kernel
theorem dX4_dropOf_18 : decode cX4_dropOf 18 = .ok (.aload_n 0, 1) := by decide +kernel
theorem dX4_dropOf_19 : decode cX4_dropOf 19 = .ok (.aload_n 2, 1) := by decide +kernel
theorem dX4_dropOf_20 : decode cX4_dropOf 20 = .ok (.invokevirtual 103, 3) := by decide +kernel
theorem dX4_dropOf_23 : decode cX4_dropOf 23 = .ok (.istore_n 3, 1) := by decide +kernel
theorem dX4_dropOf_24 : decode cX4_dropOf 24 = .ok (.aload_n 0, 1) := by decide +kernel
theorem dX4_dropOf_25 : decode cX4_dropOf 25 = .ok (.getfield 11, 3) := by decide +kernel
theorem dX4_dropOf_28 : decode cX4_dropOf 28 = .ok (.iload_n 1, 1) := by decide +kernel
theorem dX4_dropOf_29 : decode cX4_dropOf 29 = .ok (.aaload, 1) := by decide +kernel
theorem dX4_dropOf_30 : decode cX4_dropOf 30 = .ok (.aload_n 2, 1) := by decide +kernel
theorem dX4_dropOf_31 : decode cX4_dropOf 31 = .ok (.aload_n 0, 1) := by decide +kernel
theorem dX4_dropOf_32 : decode cX4_dropOf 32 = .ok (.iload_n 3, 1) := by decide +kernel
theorem dX4_dropOf_33 : decode cX4_dropOf 33 = .ok (.invokevirtual 107, 3) := by decide +kernel
theorem dX4_dropOf_36 : decode cX4_dropOf 36 = .ok (.invokevirtual 111, 3) := by decide +kernel
theorem dX4_dropOf_39 : decode cX4_dropOf 39 = .ok (.ireturn, 1) := by decide +kernel
theorem dX4_droppedFor_0 : decode cX4_droppedFor 0 = .ok (.aload_n 0, 1) := by decide +kernel
theorem dX4_droppedFor_1 : decode cX4_droppedFor 1 = .ok (.aload_n 1, 1) := by decide +kernel
theorem dX4_droppedFor_2 : decode cX4_droppedFor 2 = .ok (.aload_n 1, 1) := by decide +kernel
theorem dX4_droppedFor_3 : decode cX4_droppedFor 3 = .ok (.getfield 100, 3) := by decide +kernel
theorem dX4_droppedFor_6 : decode cX4_droppedFor 6 = .ok (.invokevirtual 115, 3) := by decide +kernel
theorem dX4_droppedFor_9 : decode cX4_droppedFor 9 = .ok (.ireturn, 1) := by decide +kernel
theorem dX4_droppedAgainst_0 : decode cX4_droppedAgainst 0 = .ok (.aload_n 0, 1) := by decide +kernel
theorem dX4_droppedAgainst_1 : decode cX4_droppedAgainst 1 = .ok (.aload_n 1, 1) := by decide +kernel
theorem dX4_droppedAgainst_2 : decode cX4_droppedAgainst 2 = .ok (.aload_n 0, 1) := by decide +kernel
theorem dX4_droppedAgainst_3 : decode cX4_droppedAgainst 3 = .ok (.aload_n 1, 1) := by decide +kernel
theorem dX4_droppedAgainst_4 : decode cX4_droppedAgainst 4 = .ok (.invokevirtual 103, 3) := by decide +kernel
theorem dX4_droppedAgainst_7 : decode cX4_droppedAgainst 7 = .ok (.invokevirtual 115, 3) := by decide +kernel
theorem dX4_droppedAgainst_10 : decode cX4_droppedAgainst 10 = .ok (.ireturn, 1) := by decide +kernel
theorem dX4_droppedInAll_0 : decode cX4_droppedInAll 0 = .ok (.aload_n 0, 1) := by decide +kernel
theorem dX4_droppedInAll_1 : decode cX4_droppedInAll 1 = .ok (.aload_n 1, 1) := by decide +kernel
theorem dX4_droppedInAll_2 : decode cX4_droppedInAll 2 = .ok (.invokevirtual 118, 3) := by decide +kernel
theorem dX4_droppedInAll_5 : decode cX4_droppedInAll 5 = .ok (.aload_n 0, 1) := by decide +kernel
theorem dX4_droppedInAll_6 : decode cX4_droppedInAll 6 = .ok (.aload_n 1, 1) := by decide +kernel
theorem dX4_droppedInAll_7 : decode cX4_droppedInAll 7 = .ok (.invokevirtual 121, 3) := by decide +kernel
theorem dX4_droppedInAll_10 : decode cX4_droppedInAll 10 = .ok (.iadd, 1) := by decide +kernel
theorem dX4_droppedInAll_11 : decode cX4_droppedInAll 11 = .ok (.ireturn, 1) := by decide +kernel
theorem dX4_droppedBy_0 : decode cX4_droppedBy 0 = .ok (.aload_n 0, 1) := by decide +kernel
theorem dX4_droppedBy_1 : decode cX4_droppedBy 1 = .ok (.iload_n 2, 1) := by decide +kernel
theorem dX4_droppedBy_2 : decode cX4_droppedBy 2 = .ok (.invokevirtual 107, 3) := by decide +kernel
theorem dX4_droppedBy_5 : decode cX4_droppedBy 5 = .ok (.istore_n 3, 1) := by decide +kernel
theorem dX4_droppedBy_6 : decode cX4_droppedBy 6 = .ok (.iconst 0, 1) := by decide +kernel
theorem dX4_droppedBy_7 : decode cX4_droppedBy 7 = .ok (.istore 4, 2) := by decide +kernel
theorem dX4_droppedBy_9 : decode cX4_droppedBy 9 = .ok (.iconst 0, 1) := by decide +kernel
theorem dX4_droppedBy_10 : decode cX4_droppedBy 10 = .ok (.istore 5, 2) := by decide +kernel
theorem dX4_droppedBy_12 : decode cX4_droppedBy 12 = .ok (.iload 5, 2) := by decide +kernel
theorem dX4_droppedBy_14 : decode cX4_droppedBy 14 = .ok (.aload_n 0, 1) := by decide +kernel
theorem dX4_droppedBy_15 : decode cX4_droppedBy 15 = .ok (.getfield 30, 3) := by decide +kernel
theorem dX4_droppedBy_18 : decode cX4_droppedBy 18 = .ok (.if_icmp .ge 35, 3) := by decide +kernel
theorem dX4_droppedBy_21 : decode cX4_droppedBy 21 = .ok (.iload_n 2, 1) := by decide +kernel
theorem dX4_droppedBy_22 : decode cX4_droppedBy 22 = .ok (.iload 5, 2) := by decide +kernel
theorem dX4_droppedBy_24 : decode cX4_droppedBy 24 = .ok (.invokestatic 90, 3) := by decide +kernel
theorem dX4_droppedBy_27 : decode cX4_droppedBy 27 = .ok (.ifCond .eq 20, 3) := by decide +kernel
theorem dX4_droppedBy_30 : decode cX4_droppedBy 30 = .ok (.iload 4, 2) := by decide +kernel
theorem dX4_droppedBy_32 : decode cX4_droppedBy 32 = .ok (.aload_n 0, 1) := by decide +kernel
theorem dX4_droppedBy_33 : decode cX4_droppedBy 33 = .ok (.getfield 11, 3) := by decide +kernel
theorem dX4_droppedBy_36 : decode cX4_droppedBy 36 = .ok (.iload 5, 2) := by decide +kernel
theorem dX4_droppedBy_38 : decode cX4_droppedBy 38 = .ok (.aaload, 1) := by decide +kernel
theorem dX4_droppedBy_39 : decode cX4_droppedBy 39 = .ok (.aload_n 1, 1) := by decide +kernel
theorem dX4_droppedBy_40 : decode cX4_droppedBy 40 = .ok (.iload_n 3, 1) := by decide +kernel
theorem dX4_droppedBy_41 : decode cX4_droppedBy 41 = .ok (.invokevirtual 111, 3) := by decide +kernel
theorem dX4_droppedBy_44 : decode cX4_droppedBy 44 = .ok (.iadd, 1) := by decide +kernel
theorem dX4_droppedBy_45 : decode cX4_droppedBy 45 = .ok (.istore 4, 2) := by decide +kernel
theorem dX4_droppedBy_47 : decode cX4_droppedBy 47 = .ok (.iinc 5 1, 3) := by decide +kernel
theorem dX4_droppedBy_50 : decode cX4_droppedBy 50 = .ok (.goto (-38), 3) := by decide +kernel
theorem dX4_droppedBy_53 : decode cX4_droppedBy 53 = .ok (.iload 4, 2) := by decide +kernel
theorem dX4_droppedBy_55 : decode cX4_droppedBy 55 = .ok (.ireturn, 1) := by decide +kernel
theorem dX4_wouldPass_0 : decode cX4_wouldPass 0 = .ok (.aload_n 1, 1) := by decide +kernel
theorem dX4_wouldPass_1 : decode cX4_wouldPass 1 = .ok (.aload_n 0, 1) := by decide +kernel
theorem dX4_wouldPass_2 : decode cX4_wouldPass 2 = .ok (.aload_n 1, 1) := by decide +kernel
theorem dX4_wouldPass_3 : decode cX4_wouldPass 3 = .ok (.invokevirtual 118, 3) := by decide +kernel
theorem dX4_wouldPass_6 : decode cX4_wouldPass 6 = .ok (.aload_n 0, 1) := by decide +kernel
theorem dX4_wouldPass_7 : decode cX4_wouldPass 7 = .ok (.aload_n 1, 1) := by decide +kernel
theorem dX4_wouldPass_8 : decode cX4_wouldPass 8 = .ok (.invokevirtual 121, 3) := by decide +kernel
theorem dX4_wouldPass_11 : decode cX4_wouldPass 11 = .ok (.invokevirtual 124, 3) := by decide +kernel
theorem dX4_wouldPass_14 : decode cX4_wouldPass 14 = .ok (.ireturn, 1) := by decide +kernel
theorem dX4_passingNow_0 : decode cX4_passingNow 0 = .ok (.iconst 0, 1) := by decide +kernel
theorem dX4_passingNow_1 : decode cX4_passingNow 1 = .ok (.istore_n 1, 1) := by decide +kernel
theorem dX4_passingNow_2 : decode cX4_passingNow 2 = .ok (.iconst 0, 1) := by decide +kernel
theorem dX4_passingNow_3 : decode cX4_passingNow 3 = .ok (.istore_n 2, 1) := by decide +kernel
theorem dX4_passingNow_4 : decode cX4_passingNow 4 = .ok (.iload_n 2, 1) := by decide +kernel
theorem dX4_passingNow_5 : decode cX4_passingNow 5 = .ok (.aload_n 0, 1) := by decide +kernel
theorem dX4_passingNow_6 : decode cX4_passingNow 6 = .ok (.getfield 34, 3) := by decide +kernel
theorem dX4_passingNow_9 : decode cX4_passingNow 9 = .ok (.if_icmp .ge 25, 3) := by decide +kernel
theorem dX4_passingNow_12 : decode cX4_passingNow 12 = .ok (.aload_n 0, 1) := by decide +kernel
theorem dX4_passingNow_13 : decode cX4_passingNow 13 = .ok (.aload_n 0, 1) := by decide +kernel
theorem dX4_passingNow_14 : decode cX4_passingNow 14 = .ok (.getfield 19, 3) := by decide +kernel
theorem dX4_passingNow_17 : decode cX4_passingNow 17 = .ok (.iload_n 2, 1) := by decide +kernel
theorem dX4_passingNow_18 : decode cX4_passingNow 18 = .ok (.aaload, 1) := by decide +kernel
theorem dX4_passingNow_19 : decode cX4_passingNow 19 = .ok (.invokevirtual 127, 3) := by decide +kernel
theorem dX4_passingNow_22 : decode cX4_passingNow 22 = .ok (.ifCond .eq 6, 3) := by decide +kernel
theorem dX4_passingNow_25 : decode cX4_passingNow 25 = .ok (.iinc 1 1, 3) := by decide +kernel
theorem dX4_passingNow_28 : decode cX4_passingNow 28 = .ok (.iinc 2 1, 3) := by decide +kernel
theorem dX4_passingNow_31 : decode cX4_passingNow 31 = .ok (.goto (-27), 3) := by decide +kernel
theorem dX4_passingNow_34 : decode cX4_passingNow 34 = .ok (.iload_n 1, 1) := by decide +kernel
theorem dX4_passingNow_35 : decode cX4_passingNow 35 = .ok (.ireturn, 1) := by decide +kernel
theorem dX4_castVote_0 : decode cX4_castVote 0 = .ok (.aload_n 0, 1) := by decide +kernel
theorem dX4_castVote_1 : decode cX4_castVote 1 = .ok (.aload_n 1, 1) := by decide +kernel
theorem dX4_castVote_2 : decode cX4_castVote 2 = .ok (.aload_n 1, 1) := by decide +kernel
theorem dX4_castVote_3 : decode cX4_castVote 3 = .ok (.getfield 100, 3) := by decide +kernel
theorem dX4_castVote_6 : decode cX4_castVote 6 = .ok (.invokevirtual 131, 3) := by decide +kernel
theorem dX4_castVote_9 : decode cX4_castVote 9 = .ok (.istore_n 2, 1) := by decide +kernel
theorem dX4_castVote_10 : decode cX4_castVote 10 = .ok (.aload_n 0, 1) := by decide +kernel
theorem dX4_castVote_11 : decode cX4_castVote 11 = .ok (.aload_n 1, 1) := by decide +kernel
theorem dX4_castVote_12 : decode cX4_castVote 12 = .ok (.aload_n 0, 1) := by decide +kernel
theorem dX4_castVote_13 : decode cX4_castVote 13 = .ok (.aload_n 1, 1) := by decide +kernel
theorem dX4_castVote_14 : decode cX4_castVote 14 = .ok (.invokevirtual 103, 3) := by decide +kernel
theorem dX4_castVote_17 : decode cX4_castVote 17 = .ok (.invokevirtual 131, 3) := by decide +kernel
theorem dX4_castVote_20 : decode cX4_castVote 20 = .ok (.istore_n 3, 1) := by decide +kernel
theorem dX4_castVote_21 : decode cX4_castVote 21 = .ok (.aload_n 0, 1) := by decide +kernel
theorem dX4_castVote_22 : decode cX4_castVote 22 = .ok (.getfield 23, 3) := by decide +kernel
theorem dX4_castVote_25 : decode cX4_castVote 25 = .ok (.aload_n 1, 1) := by decide +kernel
theorem dX4_castVote_26 : decode cX4_castVote 26 = .ok (.getfield 134, 3) := by decide +kernel
theorem dX4_castVote_29 : decode cX4_castVote 29 = .ok (.sipush 9999, 3) := by decide +kernel
theorem dX4_castVote_32 : decode cX4_castVote 32 = .ok (.aload_n 0, 1) := by decide +kernel
theorem dX4_castVote_33 : decode cX4_castVote 33 = .ok (.getfield 23, 3) := by decide +kernel
theorem dX4_castVote_36 : decode cX4_castVote 36 = .ok (.aload_n 1, 1) := by decide +kernel
theorem dX4_castVote_37 : decode cX4_castVote 37 = .ok (.getfield 134, 3) := by decide +kernel
theorem dX4_castVote_40 : decode cX4_castVote 40 = .ok (.iaload, 1) := by decide +kernel
theorem dX4_castVote_41 : decode cX4_castVote 41 = .ok (.iload_n 2, 1) := by decide +kernel
theorem dX4_castVote_42 : decode cX4_castVote 42 = .ok (.iadd, 1) := by decide +kernel
theorem dX4_castVote_43 : decode cX4_castVote 43 = .ok (.iload_n 3, 1) := by decide +kernel
theorem dX4_castVote_44 : decode cX4_castVote 44 = .ok (.iadd, 1) := by decide +kernel
theorem dX4_castVote_45 : decode cX4_castVote 45 = .ok (.invokestatic 137, 3) := by decide +kernel
theorem dX4_castVote_48 : decode cX4_castVote 48 = .ok (.iastore, 1) := by decide +kernel
theorem dX4_castVote_49 : decode cX4_castVote 49 = .ok (.aload_n 1, 1) := by decide +kernel
theorem dX4_castVote_50 : decode cX4_castVote 50 = .ok (.iload_n 2, 1) := by decide +kernel
theorem dX4_castVote_51 : decode cX4_castVote 51 = .ok (.iload_n 3, 1) := by decide +kernel
theorem dX4_castVote_52 : decode cX4_castVote 52 = .ok (.invokevirtual 124, 3) := by decide +kernel
theorem dX4_castVote_55 : decode cX4_castVote 55 = .ok (.istore 4, 2) := by decide +kernel
theorem dX4_castVote_57 : decode cX4_castVote 57 = .ok (.iload 4, 2) := by decide +kernel
theorem dX4_castVote_59 : decode cX4_castVote 59 = .ok (.ifCond .eq 23, 3) := by decide +kernel
theorem dX4_castVote_62 : decode cX4_castVote 62 = .ok (.aload_n 1, 1) := by decide +kernel
theorem dX4_castVote_63 : decode cX4_castVote 63 = .ok (.getfield 79, 3) := by decide +kernel
theorem dX4_castVote_66 : decode cX4_castVote 66 = .ok (.ifCond .ne 16, 3) := by decide +kernel
theorem dX4_castVote_69 : decode cX4_castVote 69 = .ok (.aload_n 1, 1) := by decide +kernel
theorem dX4_castVote_70 : decode cX4_castVote 70 = .ok (.iconst 1, 1) := by decide +kernel
theorem dX4_castVote_71 : decode cX4_castVote 71 = .ok (.putfield 79, 3) := by decide +kernel
theorem dX4_castVote_74 : decode cX4_castVote 74 = .ok (.aload_n 0, 1) := by decide +kernel
theorem dX4_castVote_75 : decode cX4_castVote 75 = .ok (.aload_n 1, 1) := by decide +kernel
theorem dX4_castVote_76 : decode cX4_castVote 76 = .ok (.getfield 143, 3) := by decide +kernel
theorem dX4_castVote_79 : decode cX4_castVote 79 = .ok (.invokevirtual 146, 3) := by decide +kernel
theorem dX4_castVote_82 : decode cX4_castVote 82 = .ok (.iload 4, 2) := by decide +kernel
theorem dX4_castVote_84 : decode cX4_castVote 84 = .ok (.ireturn, 1) := by decide +kernel
theorem dX4_letFall_0 : decode cX4_letFall 0 = .ok (.aload_n 0, 1) := by decide +kernel
theorem dX4_letFall_1 : decode cX4_letFall 1 = .ok (.iload_n 2, 1) := by decide +kernel
theorem dX4_letFall_2 : decode cX4_letFall 2 = .ok (.invokevirtual 107, 3) := by decide +kernel
theorem dX4_letFall_5 : decode cX4_letFall 5 = .ok (.istore_n 3, 1) := by decide +kernel
theorem dX4_letFall_6 : decode cX4_letFall 6 = .ok (.iconst 0, 1) := by decide +kernel
theorem dX4_letFall_7 : decode cX4_letFall 7 = .ok (.istore 4, 2) := by decide +kernel
theorem dX4_letFall_9 : decode cX4_letFall 9 = .ok (.iconst 0, 1) := by decide +kernel
theorem dX4_letFall_10 : decode cX4_letFall 10 = .ok (.istore 5, 2) := by decide +kernel
theorem dX4_letFall_12 : decode cX4_letFall 12 = .ok (.iload 5, 2) := by decide +kernel
theorem dX4_letFall_14 : decode cX4_letFall 14 = .ok (.aload_n 0, 1) := by decide +kernel
theorem dX4_letFall_15 : decode cX4_letFall 15 = .ok (.getfield 30, 3) := by decide +kernel
theorem dX4_letFall_18 : decode cX4_letFall 18 = .ok (.if_icmp .ge 59, 3) := by decide +kernel
theorem dX4_letFall_21 : decode cX4_letFall 21 = .ok (.iload_n 2, 1) := by decide +kernel
theorem dX4_letFall_22 : decode cX4_letFall 22 = .ok (.iload 5, 2) := by decide +kernel
theorem dX4_letFall_24 : decode cX4_letFall 24 = .ok (.invokestatic 90, 3) := by decide +kernel
theorem dX4_letFall_27 : decode cX4_letFall 27 = .ok (.ifCond .eq 44, 3) := by decide +kernel
theorem dX4_letFall_30 : decode cX4_letFall 30 = .ok (.aload_n 0, 1) := by decide +kernel
theorem dX4_letFall_31 : decode cX4_letFall 31 = .ok (.getfield 11, 3) := by decide +kernel
theorem dX4_letFall_34 : decode cX4_letFall 34 = .ok (.iload 5, 2) := by decide +kernel
theorem dX4_letFall_36 : decode cX4_letFall 36 = .ok (.aaload, 1) := by decide +kernel
theorem dX4_letFall_37 : decode cX4_letFall 37 = .ok (.aload_n 1, 1) := by decide +kernel
theorem dX4_letFall_38 : decode cX4_letFall 38 = .ok (.iload_n 3, 1) := by decide +kernel
theorem dX4_letFall_39 : decode cX4_letFall 39 = .ok (.invokevirtual 111, 3) := by decide +kernel
theorem dX4_letFall_42 : decode cX4_letFall 42 = .ok (.istore 6, 2) := by decide +kernel
theorem dX4_letFall_44 : decode cX4_letFall 44 = .ok (.aload_n 0, 1) := by decide +kernel
theorem dX4_letFall_45 : decode cX4_letFall 45 = .ok (.getfield 11, 3) := by decide +kernel
theorem dX4_letFall_48 : decode cX4_letFall 48 = .ok (.iload 5, 2) := by decide +kernel
theorem dX4_letFall_50 : decode cX4_letFall 50 = .ok (.aaload, 1) := by decide +kernel
theorem dX4_letFall_51 : decode cX4_letFall 51 = .ok (.getfield 149, 3) := by decide +kernel
theorem dX4_letFall_54 : decode cX4_letFall 54 = .ok (.aload_n 1, 1) := by decide +kernel
theorem dX4_letFall_55 : decode cX4_letFall 55 = .ok (.getfield 134, 3) := by decide +kernel
theorem dX4_letFall_58 : decode cX4_letFall 58 = .ok (.dup2, 1) := by decide +kernel
theorem dX4_letFall_59 : decode cX4_letFall 59 = .ok (.iaload, 1) := by decide +kernel
theorem dX4_letFall_60 : decode cX4_letFall 60 = .ok (.iload 6, 2) := by decide +kernel
theorem dX4_letFall_62 : decode cX4_letFall 62 = .ok (.isub, 1) := by decide +kernel
theorem dX4_letFall_63 : decode cX4_letFall 63 = .ok (.iastore, 1) := by decide +kernel
theorem dX4_letFall_64 : decode cX4_letFall 64 = .ok (.iload 4, 2) := by decide +kernel
theorem dX4_letFall_66 : decode cX4_letFall 66 = .ok (.iload 6, 2) := by decide +kernel
theorem dX4_letFall_68 : decode cX4_letFall 68 = .ok (.iadd, 1) := by decide +kernel
theorem dX4_letFall_69 : decode cX4_letFall 69 = .ok (.istore 4, 2) := by decide +kernel
theorem dX4_letFall_71 : decode cX4_letFall 71 = .ok (.iinc 5 1, 3) := by decide +kernel
theorem dX4_letFall_74 : decode cX4_letFall 74 = .ok (.goto (-62), 3) := by decide +kernel
theorem dX4_letFall_77 : decode cX4_letFall 77 = .ok (.iload 4, 2) := by decide +kernel
theorem dX4_letFall_79 : decode cX4_letFall 79 = .ok (.ireturn, 1) := by decide +kernel
theorem dX4_enact_0 : decode cX4_enact 0 = .ok (.iconst 0, 1) := by decide +kernel
theorem dX4_enact_1 : decode cX4_enact 1 = .ok (.istore_n 2, 1) := by decide +kernel
theorem dX4_enact_2 : decode cX4_enact 2 = .ok (.iload_n 2, 1) := by decide +kernel
theorem dX4_enact_3 : decode cX4_enact 3 = .ok (.aload_n 0, 1) := by decide +kernel
theorem dX4_enact_4 : decode cX4_enact 4 = .ok (.getfield 30, 3) := by decide +kernel
theorem dX4_enact_7 : decode cX4_enact 7 = .ok (.if_icmp .ge 117, 3) := by decide +kernel
theorem dX4_enact_10 : decode cX4_enact 10 = .ok (.aload_n 0, 1) := by decide +kernel
theorem dX4_enact_11 : decode cX4_enact 11 = .ok (.getfield 11, 3) := by decide +kernel
theorem dX4_enact_14 : decode cX4_enact 14 = .ok (.iload_n 2, 1) := by decide +kernel
theorem dX4_enact_15 : decode cX4_enact 15 = .ok (.aaload, 1) := by decide +kernel
theorem dX4_enact_16 : decode cX4_enact 16 = .ok (.astore_n 3, 1) := by decide +kernel
theorem dX4_enact_17 : decode cX4_enact 17 = .ok (.iload_n 1, 1) := by decide +kernel
theorem dX4_enact_18 : decode cX4_enact 18 = .ok (.tableswitch 100 1 4 #[30, 48, 65, 83], 30) := by decide +kernel
theorem dX4_enact_48 : decode cX4_enact 48 = .ok (.aload_n 3, 1) := by decide +kernel
theorem dX4_enact_49 : decode cX4_enact 49 = .ok (.bipush 9, 2) := by decide +kernel
theorem dX4_enact_51 : decode cX4_enact 51 = .ok (.aload_n 3, 1) := by decide +kernel
theorem dX4_enact_52 : decode cX4_enact 52 = .ok (.getfield 152, 3) := by decide +kernel
theorem dX4_enact_55 : decode cX4_enact 55 = .ok (.iconst 1, 1) := by decide +kernel
theorem dX4_enact_56 : decode cX4_enact 56 = .ok (.iadd, 1) := by decide +kernel
theorem dX4_enact_57 : decode cX4_enact 57 = .ok (.invokestatic 137, 3) := by decide +kernel
theorem dX4_enact_60 : decode cX4_enact 60 = .ok (.putfield 152, 3) := by decide +kernel
theorem dX4_enact_63 : decode cX4_enact 63 = .ok (.goto 55, 3) := by decide +kernel
theorem dX4_enact_66 : decode cX4_enact 66 = .ok (.aload_n 3, 1) := by decide +kernel
theorem dX4_enact_67 : decode cX4_enact 67 = .ok (.iconst 0, 1) := by decide +kernel
theorem dX4_enact_68 : decode cX4_enact 68 = .ok (.aload_n 3, 1) := by decide +kernel
theorem dX4_enact_69 : decode cX4_enact 69 = .ok (.getfield 152, 3) := by decide +kernel
theorem dX4_enact_72 : decode cX4_enact 72 = .ok (.iconst 1, 1) := by decide +kernel
theorem dX4_enact_73 : decode cX4_enact 73 = .ok (.isub, 1) := by decide +kernel
theorem dX4_enact_74 : decode cX4_enact 74 = .ok (.invokestatic 155, 3) := by decide +kernel
theorem dX4_enact_77 : decode cX4_enact 77 = .ok (.putfield 152, 3) := by decide +kernel
theorem dX4_enact_80 : decode cX4_enact 80 = .ok (.goto 38, 3) := by decide +kernel
theorem dX4_enact_83 : decode cX4_enact 83 = .ok (.aload_n 3, 1) := by decide +kernel
theorem dX4_enact_84 : decode cX4_enact 84 = .ok (.bipush 99, 2) := by decide +kernel
theorem dX4_enact_86 : decode cX4_enact 86 = .ok (.aload_n 3, 1) := by decide +kernel
theorem dX4_enact_87 : decode cX4_enact 87 = .ok (.getfield 158, 3) := by decide +kernel
theorem dX4_enact_90 : decode cX4_enact 90 = .ok (.iconst 1, 1) := by decide +kernel
theorem dX4_enact_91 : decode cX4_enact 91 = .ok (.iadd, 1) := by decide +kernel
theorem dX4_enact_92 : decode cX4_enact 92 = .ok (.invokestatic 137, 3) := by decide +kernel
theorem dX4_enact_95 : decode cX4_enact 95 = .ok (.putfield 158, 3) := by decide +kernel
theorem dX4_enact_98 : decode cX4_enact 98 = .ok (.goto 20, 3) := by decide +kernel
theorem dX4_enact_101 : decode cX4_enact 101 = .ok (.aload_n 3, 1) := by decide +kernel
theorem dX4_enact_102 : decode cX4_enact 102 = .ok (.iconst 0, 1) := by decide +kernel
theorem dX4_enact_103 : decode cX4_enact 103 = .ok (.aload_n 3, 1) := by decide +kernel
theorem dX4_enact_104 : decode cX4_enact 104 = .ok (.getfield 158, 3) := by decide +kernel
theorem dX4_enact_107 : decode cX4_enact 107 = .ok (.iconst 1, 1) := by decide +kernel
theorem dX4_enact_108 : decode cX4_enact 108 = .ok (.isub, 1) := by decide +kernel
theorem dX4_enact_109 : decode cX4_enact 109 = .ok (.invokestatic 155, 3) := by decide +kernel
theorem dX4_enact_112 : decode cX4_enact 112 = .ok (.putfield 158, 3) := by decide +kernel
theorem dX4_enact_115 : decode cX4_enact 115 = .ok (.goto 3, 3) := by decide +kernel
theorem dX4_enact_118 : decode cX4_enact 118 = .ok (.iinc 2 1, 3) := by decide +kernel
theorem dX4_enact_121 : decode cX4_enact 121 = .ok (.goto (-119), 3) := by decide +kernel
theorem dX4_enact_124 : decode cX4_enact 124 = .ok (.return_, 1) := by decide +kernel
theorem dX4_castVotes_0 : decode cX4_castVotes 0 = .ok (.iconst 0, 1) := by decide +kernel
theorem dX4_castVotes_1 : decode cX4_castVotes 1 = .ok (.istore_n 3, 1) := by decide +kernel
theorem dX4_castVotes_2 : decode cX4_castVotes 2 = .ok (.iconst 0, 1) := by decide +kernel
theorem dX4_castVotes_3 : decode cX4_castVotes 3 = .ok (.istore 4, 2) := by decide +kernel
theorem dX4_castVotes_5 : decode cX4_castVotes 5 = .ok (.iload 4, 2) := by decide +kernel
theorem dX4_castVotes_7 : decode cX4_castVotes 7 = .ok (.iload_n 2, 1) := by decide +kernel
theorem dX4_castVotes_8 : decode cX4_castVotes 8 = .ok (.if_icmp .ge 46, 3) := by decide +kernel
theorem dX4_castVotes_11 : decode cX4_castVotes 11 = .ok (.iload 4, 2) := by decide +kernel
theorem dX4_castVotes_13 : decode cX4_castVotes 13 = .ok (.aload_n 1, 1) := by decide +kernel
theorem dX4_castVotes_14 : decode cX4_castVotes 14 = .ok (.arraylength, 1) := by decide +kernel
theorem dX4_castVotes_15 : decode cX4_castVotes 15 = .ok (.if_icmp .ge 39, 3) := by decide +kernel
theorem dX4_castVotes_18 : decode cX4_castVotes 18 = .ok (.aload_n 0, 1) := by decide +kernel
theorem dX4_castVotes_19 : decode cX4_castVotes 19 = .ok (.aload_n 1, 1) := by decide +kernel
theorem dX4_castVotes_20 : decode cX4_castVotes 20 = .ok (.iload 4, 2) := by decide +kernel
theorem dX4_castVotes_22 : decode cX4_castVotes 22 = .ok (.iaload, 1) := by decide +kernel
theorem dX4_castVotes_23 : decode cX4_castVotes 23 = .ok (.invokevirtual 161, 3) := by decide +kernel
theorem dX4_castVotes_26 : decode cX4_castVotes 26 = .ok (.ifCond .eq 22, 3) := by decide +kernel
theorem dX4_castVotes_29 : decode cX4_castVotes 29 = .ok (.aload_n 0, 1) := by decide +kernel
theorem dX4_castVotes_30 : decode cX4_castVotes 30 = .ok (.aload_n 0, 1) := by decide +kernel
theorem dX4_castVotes_31 : decode cX4_castVotes 31 = .ok (.getfield 19, 3) := by decide +kernel
theorem dX4_castVotes_34 : decode cX4_castVotes 34 = .ok (.aload_n 1, 1) := by decide +kernel
theorem dX4_castVotes_35 : decode cX4_castVotes 35 = .ok (.iload 4, 2) := by decide +kernel
theorem dX4_castVotes_37 : decode cX4_castVotes 37 = .ok (.iaload, 1) := by decide +kernel
theorem dX4_castVotes_38 : decode cX4_castVotes 38 = .ok (.aaload, 1) := by decide +kernel
theorem dX4_castVotes_39 : decode cX4_castVotes 39 = .ok (.invokevirtual 164, 3) := by decide +kernel
theorem dX4_castVotes_42 : decode cX4_castVotes 42 = .ok (.ifCond .eq 6, 3) := by decide +kernel
theorem dX4_castVotes_45 : decode cX4_castVotes 45 = .ok (.iinc 3 1, 3) := by decide +kernel
theorem dX4_castVotes_48 : decode cX4_castVotes 48 = .ok (.iinc 4 1, 3) := by decide +kernel
theorem dX4_castVotes_51 : decode cX4_castVotes 51 = .ok (.goto (-46), 3) := by decide +kernel
theorem dX4_castVotes_54 : decode cX4_castVotes 54 = .ok (.iload_n 3, 1) := by decide +kernel
theorem dX4_castVotes_55 : decode cX4_castVotes 55 = .ok (.ireturn, 1) := by decide +kernel
theorem dX5_init_0 : decode cX5_init 0 = .ok (.aload_n 0, 1) := by decide +kernel
theorem dX5_init_1 : decode cX5_init 1 = .ok (.invokespecial 3, 3) := by decide +kernel
theorem dX5_init_4 : decode cX5_init 4 = .ok (.aload_n 0, 1) := by decide +kernel
theorem dX5_init_5 : decode cX5_init 5 = .ok (.iconst 0, 1) := by decide +kernel
theorem dX5_init_6 : decode cX5_init 6 = .ok (.putfield 9, 3) := by decide +kernel
theorem dX5_init_9 : decode cX5_init 9 = .ok (.aload_n 0, 1) := by decide +kernel
theorem dX5_init_10 : decode cX5_init 10 = .ok (.bipush 120, 2) := by decide +kernel
theorem dX5_init_12 : decode cX5_init 12 = .ok (.newarray .int, 2) := by decide +kernel
theorem dX5_init_14 : decode cX5_init 14 = .ok (.putfield 15, 3) := by decide +kernel
theorem dX5_init_17 : decode cX5_init 17 = .ok (.aload_n 0, 1) := by decide +kernel
theorem dX5_init_18 : decode cX5_init 18 = .ok (.bipush 121, 2) := by decide +kernel
theorem dX5_init_20 : decode cX5_init 20 = .ok (.newarray .int, 2) := by decide +kernel
theorem dX5_init_22 : decode cX5_init 22 = .ok (.putfield 19, 3) := by decide +kernel
theorem dX5_init_25 : decode cX5_init 25 = .ok (.aload_n 0, 1) := by decide +kernel
theorem dX5_init_26 : decode cX5_init 26 = .ok (.bipush 121, 2) := by decide +kernel
theorem dX5_init_28 : decode cX5_init 28 = .ok (.newarray .int, 2) := by decide +kernel
theorem dX5_init_30 : decode cX5_init 30 = .ok (.putfield 22, 3) := by decide +kernel
theorem dX5_init_33 : decode cX5_init 33 = .ok (.aload_n 0, 1) := by decide +kernel
theorem dX5_init_34 : decode cX5_init 34 = .ok (.bipush 121, 2) := by decide +kernel
theorem dX5_init_36 : decode cX5_init 36 = .ok (.newarray .int, 2) := by decide +kernel
theorem dX5_init_38 : decode cX5_init 38 = .ok (.putfield 25, 3) := by decide +kernel
theorem dX5_init_41 : decode cX5_init 41 = .ok (.return_, 1) := by decide +kernel
theorem dX5_add_0 : decode cX5_add 0 = .ok (.aload_n 0, 1) := by decide +kernel
theorem dX5_add_1 : decode cX5_add 1 = .ok (.getfield 9, 3) := by decide +kernel
theorem dX5_add_4 : decode cX5_add 4 = .ok (.bipush 120, 2) := by decide +kernel
theorem dX5_add_6 : decode cX5_add 6 = .ok (.if_icmp .ge 23, 3) := by decide +kernel
theorem dX5_add_9 : decode cX5_add 9 = .ok (.aload_n 0, 1) := by decide +kernel
theorem dX5_add_10 : decode cX5_add 10 = .ok (.getfield 15, 3) := by decide +kernel
theorem dX5_add_13 : decode cX5_add 13 = .ok (.aload_n 0, 1) := by decide +kernel
theorem dX5_add_14 : decode cX5_add 14 = .ok (.getfield 9, 3) := by decide +kernel
theorem dX5_add_17 : decode cX5_add 17 = .ok (.iload_n 1, 1) := by decide +kernel
theorem dX5_add_18 : decode cX5_add 18 = .ok (.iastore, 1) := by decide +kernel
theorem dX5_add_19 : decode cX5_add 19 = .ok (.aload_n 0, 1) := by decide +kernel
theorem dX5_add_20 : decode cX5_add 20 = .ok (.dup, 1) := by decide +kernel
theorem dX5_add_21 : decode cX5_add 21 = .ok (.getfield 9, 3) := by decide +kernel
theorem dX5_add_24 : decode cX5_add 24 = .ok (.iconst 1, 1) := by decide +kernel
theorem dX5_add_25 : decode cX5_add 25 = .ok (.iadd, 1) := by decide +kernel
theorem dX5_add_26 : decode cX5_add 26 = .ok (.putfield 9, 3) := by decide +kernel
theorem dX5_add_29 : decode cX5_add 29 = .ok (.return_, 1) := by decide +kernel
theorem dX5_readInto_0 : decode cX5_readInto 0 = .ok (.aload_n 0, 1) := by decide +kernel
theorem dX5_readInto_1 : decode cX5_readInto 1 = .ok (.invokevirtual 28, 3) := by decide +kernel
theorem dX5_readInto_4 : decode cX5_readInto 4 = .ok (.aload_n 0, 1) := by decide +kernel
theorem dX5_readInto_5 : decode cX5_readInto 5 = .ok (.iconst 0, 1) := by decide +kernel
theorem dX5_readInto_6 : decode cX5_readInto 6 = .ok (.putfield 31, 3) := by decide +kernel
theorem dX5_readInto_9 : decode cX5_readInto 9 = .ok (.iconst 1, 1) := by decide +kernel
theorem dX5_readInto_10 : decode cX5_readInto 10 = .ok (.istore_n 2, 1) := by decide +kernel
theorem dX5_readInto_11 : decode cX5_readInto 11 = .ok (.iload_n 2, 1) := by decide +kernel
theorem dX5_readInto_12 : decode cX5_readInto 12 = .ok (.bipush 120, 2) := by decide +kernel
theorem dX5_readInto_14 : decode cX5_readInto 14 = .ok (.if_icmp .gt 72, 3) := by decide +kernel
theorem dX5_readInto_17 : decode cX5_readInto 17 = .ok (.aload_n 0, 1) := by decide +kernel
theorem dX5_readInto_18 : decode cX5_readInto 18 = .ok (.aload_n 1, 1) := by decide +kernel
theorem dX5_readInto_19 : decode cX5_readInto 19 = .ok (.invokevirtual 34, 3) := by decide +kernel
theorem dX5_readInto_22 : decode cX5_readInto 22 = .ok (.ifCond .ne 15, 3) := by decide +kernel
theorem dX5_readInto_25 : decode cX5_readInto 25 = .ok (.iconst (-1), 1) := by decide +kernel
theorem dX5_readInto_26 : decode cX5_readInto 26 = .ok (.aload_n 0, 1) := by decide +kernel
theorem dX5_readInto_27 : decode cX5_readInto 27 = .ok (.getfield 22, 3) := by decide +kernel
theorem dX5_readInto_30 : decode cX5_readInto 30 = .ok (.aload_n 0, 1) := by decide +kernel
theorem dX5_readInto_31 : decode cX5_readInto 31 = .ok (.getfield 31, 3) := by decide +kernel
theorem dX5_readInto_34 : decode cX5_readInto 34 = .ok (.iaload, 1) := by decide +kernel
theorem dX5_readInto_35 : decode cX5_readInto 35 = .ok (.isub, 1) := by decide +kernel
theorem dX5_readInto_36 : decode cX5_readInto 36 = .ok (.ireturn, 1) := by decide +kernel
theorem dX5_readInto_37 : decode cX5_readInto 37 = .ok (.aload_n 0, 1) := by decide +kernel
theorem dX5_readInto_38 : decode cX5_readInto 38 = .ok (.getfield 19, 3) := by decide +kernel
theorem dX5_readInto_41 : decode cX5_readInto 41 = .ok (.aload_n 0, 1) := by decide +kernel
theorem dX5_readInto_42 : decode cX5_readInto 42 = .ok (.getfield 31, 3) := by decide +kernel
theorem dX5_readInto_45 : decode cX5_readInto 45 = .ok (.iaload, 1) := by decide +kernel
theorem dX5_readInto_46 : decode cX5_readInto 46 = .ok (.ifCond .ne 5, 3) := by decide +kernel
theorem dX5_readInto_49 : decode cX5_readInto 49 = .ok (.iload_n 2, 1) := by decide +kernel
theorem dX5_readInto_50 : decode cX5_readInto 50 = .ok (.ireturn, 1) := by decide +kernel
theorem dX5_readInto_51 : decode cX5_readInto 51 = .ok (.aload_n 0, 1) := by decide +kernel
theorem dX5_readInto_52 : decode cX5_readInto 52 = .ok (.getfield 19, 3) := by decide +kernel
theorem dX5_readInto_55 : decode cX5_readInto 55 = .ok (.aload_n 0, 1) := by decide +kernel
theorem dX5_readInto_56 : decode cX5_readInto 56 = .ok (.getfield 31, 3) := by decide +kernel
theorem dX5_readInto_59 : decode cX5_readInto 59 = .ok (.iaload, 1) := by decide +kernel
theorem dX5_readInto_60 : decode cX5_readInto 60 = .ok (.iconst 3, 1) := by decide +kernel
theorem dX5_readInto_61 : decode cX5_readInto 61 = .ok (.if_icmp .eq 15, 3) := by decide +kernel
theorem dX5_readInto_64 : decode cX5_readInto 64 = .ok (.iconst (-1), 1) := by decide +kernel
theorem dX5_readInto_65 : decode cX5_readInto 65 = .ok (.aload_n 0, 1) := by decide +kernel
theorem dX5_readInto_66 : decode cX5_readInto 66 = .ok (.getfield 22, 3) := by decide +kernel
theorem dX5_readInto_69 : decode cX5_readInto 69 = .ok (.aload_n 0, 1) := by decide +kernel
theorem dX5_readInto_70 : decode cX5_readInto 70 = .ok (.getfield 31, 3) := by decide +kernel
theorem dX5_readInto_73 : decode cX5_readInto 73 = .ok (.iaload, 1) := by decide +kernel
theorem dX5_readInto_74 : decode cX5_readInto 74 = .ok (.isub, 1) := by decide +kernel
theorem dX5_readInto_75 : decode cX5_readInto 75 = .ok (.ireturn, 1) := by decide +kernel
theorem dX5_readInto_76 : decode cX5_readInto 76 = .ok (.aload_n 0, 1) := by decide +kernel
theorem dX5_readInto_77 : decode cX5_readInto 77 = .ok (.invokevirtual 38, 3) := by decide +kernel
theorem dX5_readInto_80 : decode cX5_readInto 80 = .ok (.iinc 2 1, 3) := by decide +kernel
theorem dX5_readInto_83 : decode cX5_readInto 83 = .ok (.goto (-72), 3) := by decide +kernel
theorem dX5_readInto_86 : decode cX5_readInto 86 = .ok (.iconst (-1), 1) := by decide +kernel
theorem dX5_readInto_87 : decode cX5_readInto 87 = .ok (.aload_n 0, 1) := by decide +kernel
theorem dX5_readInto_88 : decode cX5_readInto 88 = .ok (.getfield 22, 3) := by decide +kernel
theorem dX5_readInto_91 : decode cX5_readInto 91 = .ok (.aload_n 0, 1) := by decide +kernel
theorem dX5_readInto_92 : decode cX5_readInto 92 = .ok (.getfield 31, 3) := by decide +kernel
theorem dX5_readInto_95 : decode cX5_readInto 95 = .ok (.iaload, 1) := by decide +kernel
theorem dX5_readInto_96 : decode cX5_readInto 96 = .ok (.isub, 1) := by decide +kernel
theorem dX5_readInto_97 : decode cX5_readInto 97 = .ok (.ireturn, 1) := by decide +kernel
theorem dX5_split_0 : decode cX5_split 0 = .ok (.aload_n 0, 1) := by decide +kernel
theorem dX5_split_1 : decode cX5_split 1 = .ok (.iconst 0, 1) := by decide +kernel
theorem dX5_split_2 : decode cX5_split 2 = .ok (.putfield 41, 3) := by decide +kernel
theorem dX5_split_5 : decode cX5_split 5 = .ok (.iconst 0, 1) := by decide +kernel
theorem dX5_split_6 : decode cX5_split 6 = .ok (.istore_n 1, 1) := by decide +kernel
theorem dX5_split_7 : decode cX5_split 7 = .ok (.iload_n 1, 1) := by decide +kernel
theorem dX5_split_8 : decode cX5_split 8 = .ok (.aload_n 0, 1) := by decide +kernel
theorem dX5_split_9 : decode cX5_split 9 = .ok (.getfield 9, 3) := by decide +kernel
theorem dX5_split_12 : decode cX5_split 12 = .ok (.if_icmp .ge 59, 3) := by decide +kernel
theorem dX5_split_15 : decode cX5_split 15 = .ok (.aload_n 0, 1) := by decide +kernel
theorem dX5_split_16 : decode cX5_split 16 = .ok (.iload_n 1, 1) := by decide +kernel
theorem dX5_split_17 : decode cX5_split 17 = .ok (.invokevirtual 44, 3) := by decide +kernel
theorem dX5_split_20 : decode cX5_split 20 = .ok (.istore_n 2, 1) := by decide +kernel
theorem dX5_split_21 : decode cX5_split 21 = .ok (.iload_n 1, 1) := by decide +kernel
theorem dX5_split_22 : decode cX5_split 22 = .ok (.istore_n 3, 1) := by decide +kernel
theorem dX5_split_23 : decode cX5_split 23 = .ok (.iinc 1 1, 3) := by decide +kernel
theorem dX5_split_26 : decode cX5_split 26 = .ok (.iload_n 1, 1) := by decide +kernel
theorem dX5_split_27 : decode cX5_split 27 = .ok (.aload_n 0, 1) := by decide +kernel
theorem dX5_split_28 : decode cX5_split 28 = .ok (.getfield 9, 3) := by decide +kernel
theorem dX5_split_31 : decode cX5_split 31 = .ok (.if_icmp .ge 25, 3) := by decide +kernel
theorem dX5_split_34 : decode cX5_split 34 = .ok (.iload_n 2, 1) := by decide +kernel
theorem dX5_split_35 : decode cX5_split 35 = .ok (.invokestatic 48, 3) := by decide +kernel
theorem dX5_split_38 : decode cX5_split 38 = .ok (.ifCond .eq 18, 3) := by decide +kernel
theorem dX5_split_41 : decode cX5_split 41 = .ok (.aload_n 0, 1) := by decide +kernel
theorem dX5_split_42 : decode cX5_split 42 = .ok (.iload_n 1, 1) := by decide +kernel
theorem dX5_split_43 : decode cX5_split 43 = .ok (.invokevirtual 44, 3) := by decide +kernel
theorem dX5_split_46 : decode cX5_split 46 = .ok (.iload_n 2, 1) := by decide +kernel
theorem dX5_split_47 : decode cX5_split 47 = .ok (.if_icmp .ne 9, 3) := by decide +kernel
theorem dX5_split_50 : decode cX5_split 50 = .ok (.iinc 1 1, 3) := by decide +kernel
theorem dX5_split_53 : decode cX5_split 53 = .ok (.goto (-27), 3) := by decide +kernel
theorem dX5_split_56 : decode cX5_split 56 = .ok (.iload_n 2, 1) := by decide +kernel
theorem dX5_split_57 : decode cX5_split 57 = .ok (.iconst 4, 1) := by decide +kernel
theorem dX5_split_58 : decode cX5_split 58 = .ok (.if_icmp .eq 10, 3) := by decide +kernel
theorem dX5_split_61 : decode cX5_split 61 = .ok (.aload_n 0, 1) := by decide +kernel
theorem dX5_split_62 : decode cX5_split 62 = .ok (.iload_n 2, 1) := by decide +kernel
theorem dX5_split_63 : decode cX5_split 63 = .ok (.iload_n 3, 1) := by decide +kernel
theorem dX5_split_64 : decode cX5_split 64 = .ok (.iload_n 1, 1) := by decide +kernel
theorem dX5_split_65 : decode cX5_split 65 = .ok (.invokevirtual 52, 3) := by decide +kernel
theorem dX5_split_68 : decode cX5_split 68 = .ok (.goto (-61), 3) := by decide +kernel
theorem dX5_split_71 : decode cX5_split 71 = .ok (.aload_n 0, 1) := by decide +kernel
theorem dX5_split_72 : decode cX5_split 72 = .ok (.iconst 0, 1) := by decide +kernel
theorem dX5_split_73 : decode cX5_split 73 = .ok (.aload_n 0, 1) := by decide +kernel
theorem dX5_split_74 : decode cX5_split 74 = .ok (.getfield 9, 3) := by decide +kernel
theorem dX5_split_77 : decode cX5_split 77 = .ok (.aload_n 0, 1) := by decide +kernel
theorem dX5_split_78 : decode cX5_split 78 = .ok (.getfield 9, 3) := by decide +kernel
theorem dX5_split_81 : decode cX5_split 81 = .ok (.invokevirtual 52, 3) := by decide +kernel
theorem dX5_split_84 : decode cX5_split 84 = .ok (.return_, 1) := by decide +kernel
theorem dX5_addToken_0 : decode cX5_addToken 0 = .ok (.aload_n 0, 1) := by decide +kernel
theorem dX5_addToken_1 : decode cX5_addToken 1 = .ok (.getfield 41, 3) := by decide +kernel
theorem dX5_addToken_4 : decode cX5_addToken 4 = .ok (.bipush 120, 2) := by decide +kernel
theorem dX5_addToken_6 : decode cX5_addToken 6 = .ok (.if_icmp .gt 43, 3) := by decide +kernel
theorem dX5_addToken_9 : decode cX5_addToken 9 = .ok (.aload_n 0, 1) := by decide +kernel
theorem dX5_addToken_10 : decode cX5_addToken 10 = .ok (.getfield 19, 3) := by decide +kernel
theorem dX5_addToken_13 : decode cX5_addToken 13 = .ok (.aload_n 0, 1) := by decide +kernel
theorem dX5_addToken_14 : decode cX5_addToken 14 = .ok (.getfield 41, 3) := by decide +kernel
theorem dX5_addToken_17 : decode cX5_addToken 17 = .ok (.iload_n 1, 1) := by decide +kernel
theorem dX5_addToken_18 : decode cX5_addToken 18 = .ok (.iastore, 1) := by decide +kernel
theorem dX5_addToken_19 : decode cX5_addToken 19 = .ok (.aload_n 0, 1) := by decide +kernel
theorem dX5_addToken_20 : decode cX5_addToken 20 = .ok (.getfield 22, 3) := by decide +kernel
theorem dX5_addToken_23 : decode cX5_addToken 23 = .ok (.aload_n 0, 1) := by decide +kernel
theorem dX5_addToken_24 : decode cX5_addToken 24 = .ok (.getfield 41, 3) := by decide +kernel
theorem dX5_addToken_27 : decode cX5_addToken 27 = .ok (.iload_n 2, 1) := by decide +kernel
theorem dX5_addToken_28 : decode cX5_addToken 28 = .ok (.iastore, 1) := by decide +kernel
theorem dX5_addToken_29 : decode cX5_addToken 29 = .ok (.aload_n 0, 1) := by decide +kernel
theorem dX5_addToken_30 : decode cX5_addToken 30 = .ok (.getfield 25, 3) := by decide +kernel
theorem dX5_addToken_33 : decode cX5_addToken 33 = .ok (.aload_n 0, 1) := by decide +kernel
theorem dX5_addToken_34 : decode cX5_addToken 34 = .ok (.getfield 41, 3) := by decide +kernel
theorem dX5_addToken_37 : decode cX5_addToken 37 = .ok (.iload_n 3, 1) := by decide +kernel
theorem dX5_addToken_38 : decode cX5_addToken 38 = .ok (.iastore, 1) := by decide +kernel
theorem dX5_addToken_39 : decode cX5_addToken 39 = .ok (.aload_n 0, 1) := by decide +kernel
theorem dX5_addToken_40 : decode cX5_addToken 40 = .ok (.dup, 1) := by decide +kernel
theorem dX5_addToken_41 : decode cX5_addToken 41 = .ok (.getfield 41, 3) := by decide +kernel
theorem dX5_addToken_44 : decode cX5_addToken 44 = .ok (.iconst 1, 1) := by decide +kernel
theorem dX5_addToken_45 : decode cX5_addToken 45 = .ok (.iadd, 1) := by decide +kernel
theorem dX5_addToken_46 : decode cX5_addToken 46 = .ok (.putfield 41, 3) := by decide +kernel
theorem dX5_addToken_49 : decode cX5_addToken 49 = .ok (.return_, 1) := by decide +kernel
theorem dX5_sortAt_0 : decode cX5_sortAt 0 = .ok (.aload_n 0, 1) := by decide +kernel
theorem dX5_sortAt_1 : decode cX5_sortAt 1 = .ok (.getfield 15, 3) := by decide +kernel
theorem dX5_sortAt_4 : decode cX5_sortAt 4 = .ok (.iload_n 1, 1) := by decide +kernel
theorem dX5_sortAt_5 : decode cX5_sortAt 5 = .ok (.iaload, 1) := by decide +kernel
theorem dX5_sortAt_6 : decode cX5_sortAt 6 = .ok (.istore_n 2, 1) := by decide +kernel
theorem dX5_sortAt_7 : decode cX5_sortAt 7 = .ok (.iload_n 2, 1) := by decide +kernel
theorem dX5_sortAt_8 : decode cX5_sortAt 8 = .ok (.bipush 97, 2) := by decide +kernel
theorem dX5_sortAt_10 : decode cX5_sortAt 10 = .ok (.if_icmp .lt 11, 3) := by decide +kernel
theorem dX5_sortAt_13 : decode cX5_sortAt 13 = .ok (.iload_n 2, 1) := by decide +kernel
theorem dX5_sortAt_14 : decode cX5_sortAt 14 = .ok (.bipush 122, 2) := by decide +kernel
theorem dX5_sortAt_16 : decode cX5_sortAt 16 = .ok (.if_icmp .gt 5, 3) := by decide +kernel
theorem dX5_sortAt_19 : decode cX5_sortAt 19 = .ok (.iconst 1, 1) := by decide +kernel
theorem dX5_sortAt_20 : decode cX5_sortAt 20 = .ok (.ireturn, 1) := by decide +kernel
theorem dX5_sortAt_21 : decode cX5_sortAt 21 = .ok (.iload_n 2, 1) := by decide +kernel
theorem dX5_sortAt_22 : decode cX5_sortAt 22 = .ok (.bipush 48, 2) := by decide +kernel
theorem dX5_sortAt_24 : decode cX5_sortAt 24 = .ok (.if_icmp .lt 11, 3) := by decide +kernel
theorem dX5_sortAt_27 : decode cX5_sortAt 27 = .ok (.iload_n 2, 1) := by decide +kernel
theorem dX5_sortAt_28 : decode cX5_sortAt 28 = .ok (.bipush 57, 2) := by decide +kernel
theorem dX5_sortAt_30 : decode cX5_sortAt 30 = .ok (.if_icmp .gt 5, 3) := by decide +kernel
theorem dX5_sortAt_33 : decode cX5_sortAt 33 = .ok (.iconst 2, 1) := by decide +kernel
theorem dX5_sortAt_34 : decode cX5_sortAt 34 = .ok (.ireturn, 1) := by decide +kernel
theorem dX5_sortAt_35 : decode cX5_sortAt 35 = .ok (.iload_n 2, 1) := by decide +kernel
theorem dX5_sortAt_36 : decode cX5_sortAt 36 = .ok (.bipush 59, 2) := by decide +kernel
theorem dX5_sortAt_38 : decode cX5_sortAt 38 = .ok (.if_icmp .ne 7, 3) := by decide +kernel
theorem dX5_sortAt_41 : decode cX5_sortAt 41 = .ok (.iconst 3, 1) := by decide +kernel
theorem dX5_sortAt_42 : decode cX5_sortAt 42 = .ok (.goto 14, 3) := by decide +kernel
theorem dX5_sortAt_45 : decode cX5_sortAt 45 = .ok (.iload_n 2, 1) := by decide +kernel
theorem dX5_sortAt_46 : decode cX5_sortAt 46 = .ok (.bipush 32, 2) := by decide +kernel
theorem dX5_sortAt_48 : decode cX5_sortAt 48 = .ok (.if_icmp .ne 7, 3) := by decide +kernel
theorem dX5_sortAt_51 : decode cX5_sortAt 51 = .ok (.iconst 4, 1) := by decide +kernel
theorem dX5_sortAt_52 : decode cX5_sortAt 52 = .ok (.goto 4, 3) := by decide +kernel
theorem dX5_sortAt_55 : decode cX5_sortAt 55 = .ok (.iconst 5, 1) := by decide +kernel
theorem dX5_sortAt_56 : decode cX5_sortAt 56 = .ok (.ireturn, 1) := by decide +kernel
theorem dX5_isLong_0 : decode cX5_isLong 0 = .ok (.iload_n 0, 1) := by decide +kernel
theorem dX5_isLong_1 : decode cX5_isLong 1 = .ok (.iconst 1, 1) := by decide +kernel
theorem dX5_isLong_2 : decode cX5_isLong 2 = .ok (.if_icmp .eq 8, 3) := by decide +kernel
theorem dX5_isLong_5 : decode cX5_isLong 5 = .ok (.iload_n 0, 1) := by decide +kernel
theorem dX5_isLong_6 : decode cX5_isLong 6 = .ok (.iconst 2, 1) := by decide +kernel
theorem dX5_isLong_7 : decode cX5_isLong 7 = .ok (.if_icmp .ne 7, 3) := by decide +kernel
theorem dX5_isLong_10 : decode cX5_isLong 10 = .ok (.iconst 1, 1) := by decide +kernel
theorem dX5_isLong_11 : decode cX5_isLong 11 = .ok (.goto 4, 3) := by decide +kernel
theorem dX5_isLong_14 : decode cX5_isLong 14 = .ok (.iconst 0, 1) := by decide +kernel
theorem dX5_isLong_15 : decode cX5_isLong 15 = .ok (.ireturn, 1) := by decide +kernel
theorem dX5_advance_0 : decode cX5_advance 0 = .ok (.aload_n 0, 1) := by decide +kernel
theorem dX5_advance_1 : decode cX5_advance 1 = .ok (.getfield 31, 3) := by decide +kernel
theorem dX5_advance_4 : decode cX5_advance 4 = .ok (.aload_n 0, 1) := by decide +kernel
theorem dX5_advance_5 : decode cX5_advance 5 = .ok (.getfield 41, 3) := by decide +kernel
theorem dX5_advance_8 : decode cX5_advance 8 = .ok (.iconst 1, 1) := by decide +kernel
theorem dX5_advance_9 : decode cX5_advance 9 = .ok (.isub, 1) := by decide +kernel
theorem dX5_advance_10 : decode cX5_advance 10 = .ok (.if_icmp .ge 13, 3) := by decide +kernel
theorem dX5_advance_13 : decode cX5_advance 13 = .ok (.aload_n 0, 1) := by decide +kernel
theorem dX5_advance_14 : decode cX5_advance 14 = .ok (.dup, 1) := by decide +kernel
theorem dX5_advance_15 : decode cX5_advance 15 = .ok (.getfield 31, 3) := by decide +kernel
theorem dX5_advance_18 : decode cX5_advance 18 = .ok (.iconst 1, 1) := by decide +kernel
theorem dX5_advance_19 : decode cX5_advance 19 = .ok (.iadd, 1) := by decide +kernel
theorem dX5_advance_20 : decode cX5_advance 20 = .ok (.putfield 31, 3) := by decide +kernel
theorem dX5_advance_23 : decode cX5_advance 23 = .ok (.return_, 1) := by decide +kernel
theorem dX5_isWord_0 : decode cX5_isWord 0 = .ok (.aload_n 0, 1) := by decide +kernel
theorem dX5_isWord_1 : decode cX5_isWord 1 = .ok (.getfield 19, 3) := by decide +kernel
theorem dX5_isWord_4 : decode cX5_isWord 4 = .ok (.aload_n 0, 1) := by decide +kernel
theorem dX5_isWord_5 : decode cX5_isWord 5 = .ok (.getfield 31, 3) := by decide +kernel
theorem dX5_isWord_8 : decode cX5_isWord 8 = .ok (.iaload, 1) := by decide +kernel
theorem dX5_isWord_9 : decode cX5_isWord 9 = .ok (.iconst 1, 1) := by decide +kernel
theorem dX5_isWord_10 : decode cX5_isWord 10 = .ok (.if_icmp .ne 29, 3) := by decide +kernel
theorem dX5_isWord_13 : decode cX5_isWord 13 = .ok (.aload_n 0, 1) := by decide +kernel
theorem dX5_isWord_14 : decode cX5_isWord 14 = .ok (.getfield 25, 3) := by decide +kernel
theorem dX5_isWord_17 : decode cX5_isWord 17 = .ok (.aload_n 0, 1) := by decide +kernel
theorem dX5_isWord_18 : decode cX5_isWord 18 = .ok (.getfield 31, 3) := by decide +kernel
theorem dX5_isWord_21 : decode cX5_isWord 21 = .ok (.iaload, 1) := by decide +kernel
theorem dX5_isWord_22 : decode cX5_isWord 22 = .ok (.aload_n 0, 1) := by decide +kernel
theorem dX5_isWord_23 : decode cX5_isWord 23 = .ok (.getfield 22, 3) := by decide +kernel
theorem dX5_isWord_26 : decode cX5_isWord 26 = .ok (.aload_n 0, 1) := by decide +kernel
theorem dX5_isWord_27 : decode cX5_isWord 27 = .ok (.getfield 31, 3) := by decide +kernel
theorem dX5_isWord_30 : decode cX5_isWord 30 = .ok (.iaload, 1) := by decide +kernel
theorem dX5_isWord_31 : decode cX5_isWord 31 = .ok (.isub, 1) := by decide +kernel
theorem dX5_isWord_32 : decode cX5_isWord 32 = .ok (.aload_n 1, 1) := by decide +kernel
theorem dX5_isWord_33 : decode cX5_isWord 33 = .ok (.invokevirtual 56, 3) := by decide +kernel
theorem dX5_isWord_36 : decode cX5_isWord 36 = .ok (.if_icmp .eq 5, 3) := by decide +kernel
theorem dX5_isWord_39 : decode cX5_isWord 39 = .ok (.iconst 0, 1) := by decide +kernel
theorem dX5_isWord_40 : decode cX5_isWord 40 = .ok (.ireturn, 1) := by decide +kernel
theorem dX5_isWord_41 : decode cX5_isWord 41 = .ok (.iconst 0, 1) := by decide +kernel
theorem dX5_isWord_42 : decode cX5_isWord 42 = .ok (.istore_n 2, 1) := by decide +kernel
theorem dX5_isWord_43 : decode cX5_isWord 43 = .ok (.iload_n 2, 1) := by decide +kernel
theorem dX5_isWord_44 : decode cX5_isWord 44 = .ok (.aload_n 1, 1) := by decide +kernel
theorem dX5_isWord_45 : decode cX5_isWord 45 = .ok (.invokevirtual 56, 3) := by decide +kernel
theorem dX5_isWord_48 : decode cX5_isWord 48 = .ok (.if_icmp .ge 35, 3) := by decide +kernel
theorem dX5_isWord_51 : decode cX5_isWord 51 = .ok (.aload_n 0, 1) := by decide +kernel
theorem dX5_isWord_52 : decode cX5_isWord 52 = .ok (.getfield 15, 3) := by decide +kernel
theorem dX5_isWord_55 : decode cX5_isWord 55 = .ok (.aload_n 0, 1) := by decide +kernel
theorem dX5_isWord_56 : decode cX5_isWord 56 = .ok (.getfield 22, 3) := by decide +kernel
theorem dX5_isWord_59 : decode cX5_isWord 59 = .ok (.aload_n 0, 1) := by decide +kernel
theorem dX5_isWord_60 : decode cX5_isWord 60 = .ok (.getfield 31, 3) := by decide +kernel
theorem dX5_isWord_63 : decode cX5_isWord 63 = .ok (.iaload, 1) := by decide +kernel
theorem dX5_isWord_64 : decode cX5_isWord 64 = .ok (.iload_n 2, 1) := by decide +kernel
theorem dX5_isWord_65 : decode cX5_isWord 65 = .ok (.iadd, 1) := by decide +kernel
theorem dX5_isWord_66 : decode cX5_isWord 66 = .ok (.iaload, 1) := by decide +kernel
theorem dX5_isWord_67 : decode cX5_isWord 67 = .ok (.aload_n 1, 1) := by decide +kernel
theorem dX5_isWord_68 : decode cX5_isWord 68 = .ok (.iload_n 2, 1) := by decide +kernel
theorem dX5_isWord_69 : decode cX5_isWord 69 = .ok (.invokevirtual 61, 3) := by decide +kernel
theorem dX5_isWord_72 : decode cX5_isWord 72 = .ok (.if_icmp .eq 5, 3) := by decide +kernel
theorem dX5_isWord_75 : decode cX5_isWord 75 = .ok (.iconst 0, 1) := by decide +kernel
theorem dX5_isWord_76 : decode cX5_isWord 76 = .ok (.ireturn, 1) := by decide +kernel
theorem dX5_isWord_77 : decode cX5_isWord 77 = .ok (.iinc 2 1, 3) := by decide +kernel
theorem dX5_isWord_80 : decode cX5_isWord 80 = .ok (.goto (-37), 3) := by decide +kernel
theorem dX5_isWord_83 : decode cX5_isWord 83 = .ok (.iconst 1, 1) := by decide +kernel
theorem dX5_isWord_84 : decode cX5_isWord 84 = .ok (.ireturn, 1) := by decide +kernel
theorem dX5_takeWord_0 : decode cX5_takeWord 0 = .ok (.aload_n 0, 1) := by decide +kernel
theorem dX5_takeWord_1 : decode cX5_takeWord 1 = .ok (.aload_n 1, 1) := by decide +kernel
theorem dX5_takeWord_2 : decode cX5_takeWord 2 = .ok (.invokevirtual 65, 3) := by decide +kernel
theorem dX5_takeWord_5 : decode cX5_takeWord 5 = .ok (.istore_n 2, 1) := by decide +kernel
theorem dX5_takeWord_6 : decode cX5_takeWord 6 = .ok (.iload_n 2, 1) := by decide +kernel
theorem dX5_takeWord_7 : decode cX5_takeWord 7 = .ok (.ifCond .eq 7, 3) := by decide +kernel
theorem dX5_takeWord_10 : decode cX5_takeWord 10 = .ok (.aload_n 0, 1) := by decide +kernel
theorem dX5_takeWord_11 : decode cX5_takeWord 11 = .ok (.invokevirtual 38, 3) := by decide +kernel
theorem dX5_takeWord_14 : decode cX5_takeWord 14 = .ok (.iload_n 2, 1) := by decide +kernel
theorem dX5_takeWord_15 : decode cX5_takeWord 15 = .ok (.ireturn, 1) := by decide +kernel
theorem dX5_takeNumber_0 : decode cX5_takeNumber 0 = .ok (.aload_n 0, 1) := by decide +kernel
theorem dX5_takeNumber_1 : decode cX5_takeNumber 1 = .ok (.getfield 19, 3) := by decide +kernel
theorem dX5_takeNumber_4 : decode cX5_takeNumber 4 = .ok (.aload_n 0, 1) := by decide +kernel
theorem dX5_takeNumber_5 : decode cX5_takeNumber 5 = .ok (.getfield 31, 3) := by decide +kernel
theorem dX5_takeNumber_8 : decode cX5_takeNumber 8 = .ok (.iaload, 1) := by decide +kernel
theorem dX5_takeNumber_9 : decode cX5_takeNumber 9 = .ok (.iconst 2, 1) := by decide +kernel
theorem dX5_takeNumber_10 : decode cX5_takeNumber 10 = .ok (.if_icmp .eq 5, 3) := by decide +kernel
theorem dX5_takeNumber_13 : decode cX5_takeNumber 13 = .ok (.iconst (-1), 1) := by decide +kernel
theorem dX5_takeNumber_14 : decode cX5_takeNumber 14 = .ok (.ireturn, 1) := by decide +kernel
theorem dX5_takeNumber_15 : decode cX5_takeNumber 15 = .ok (.iconst 0, 1) := by decide +kernel
theorem dX5_takeNumber_16 : decode cX5_takeNumber 16 = .ok (.istore_n 2, 1) := by decide +kernel
theorem dX5_takeNumber_17 : decode cX5_takeNumber 17 = .ok (.aload_n 0, 1) := by decide +kernel
theorem dX5_takeNumber_18 : decode cX5_takeNumber 18 = .ok (.getfield 22, 3) := by decide +kernel
theorem dX5_takeNumber_21 : decode cX5_takeNumber 21 = .ok (.aload_n 0, 1) := by decide +kernel
theorem dX5_takeNumber_22 : decode cX5_takeNumber 22 = .ok (.getfield 31, 3) := by decide +kernel
theorem dX5_takeNumber_25 : decode cX5_takeNumber 25 = .ok (.iaload, 1) := by decide +kernel
theorem dX5_takeNumber_26 : decode cX5_takeNumber 26 = .ok (.istore_n 3, 1) := by decide +kernel
theorem dX5_takeNumber_27 : decode cX5_takeNumber 27 = .ok (.iload_n 3, 1) := by decide +kernel
theorem dX5_takeNumber_28 : decode cX5_takeNumber 28 = .ok (.aload_n 0, 1) := by decide +kernel
theorem dX5_takeNumber_29 : decode cX5_takeNumber 29 = .ok (.getfield 25, 3) := by decide +kernel
theorem dX5_takeNumber_32 : decode cX5_takeNumber 32 = .ok (.aload_n 0, 1) := by decide +kernel
theorem dX5_takeNumber_33 : decode cX5_takeNumber 33 = .ok (.getfield 31, 3) := by decide +kernel
theorem dX5_takeNumber_36 : decode cX5_takeNumber 36 = .ok (.iaload, 1) := by decide +kernel
theorem dX5_takeNumber_37 : decode cX5_takeNumber 37 = .ok (.if_icmp .ge 30, 3) := by decide +kernel
theorem dX5_takeNumber_40 : decode cX5_takeNumber 40 = .ok (.sipush 1000, 3) := by decide +kernel
theorem dX5_takeNumber_43 : decode cX5_takeNumber 43 = .ok (.iload_n 2, 1) := by decide +kernel
theorem dX5_takeNumber_44 : decode cX5_takeNumber 44 = .ok (.bipush 10, 2) := by decide +kernel
theorem dX5_takeNumber_46 : decode cX5_takeNumber 46 = .ok (.imul, 1) := by decide +kernel
theorem dX5_takeNumber_47 : decode cX5_takeNumber 47 = .ok (.aload_n 0, 1) := by decide +kernel
theorem dX5_takeNumber_48 : decode cX5_takeNumber 48 = .ok (.getfield 15, 3) := by decide +kernel
theorem dX5_takeNumber_51 : decode cX5_takeNumber 51 = .ok (.iload_n 3, 1) := by decide +kernel
theorem dX5_takeNumber_52 : decode cX5_takeNumber 52 = .ok (.iaload, 1) := by decide +kernel
theorem dX5_takeNumber_53 : decode cX5_takeNumber 53 = .ok (.iadd, 1) := by decide +kernel
theorem dX5_takeNumber_54 : decode cX5_takeNumber 54 = .ok (.bipush 48, 2) := by decide +kernel
theorem dX5_takeNumber_56 : decode cX5_takeNumber 56 = .ok (.isub, 1) := by decide +kernel
theorem dX5_takeNumber_57 : decode cX5_takeNumber 57 = .ok (.invokestatic 69, 3) := by decide +kernel
theorem dX5_takeNumber_60 : decode cX5_takeNumber 60 = .ok (.istore_n 2, 1) := by decide +kernel
theorem dX5_takeNumber_61 : decode cX5_takeNumber 61 = .ok (.iinc 3 1, 3) := by decide +kernel
theorem dX5_takeNumber_64 : decode cX5_takeNumber 64 = .ok (.goto (-37), 3) := by decide +kernel
theorem dX5_takeNumber_67 : decode cX5_takeNumber 67 = .ok (.iload_n 2, 1) := by decide +kernel
theorem dX5_takeNumber_68 : decode cX5_takeNumber 68 = .ok (.iload_n 1, 1) := by decide +kernel
theorem dX5_takeNumber_69 : decode cX5_takeNumber 69 = .ok (.if_icmp .le 5, 3) := by decide +kernel
theorem dX5_takeNumber_72 : decode cX5_takeNumber 72 = .ok (.iconst (-1), 1) := by decide +kernel
theorem dX5_takeNumber_73 : decode cX5_takeNumber 73 = .ok (.ireturn, 1) := by decide +kernel
theorem dX5_takeNumber_74 : decode cX5_takeNumber 74 = .ok (.aload_n 0, 1) := by decide +kernel
theorem dX5_takeNumber_75 : decode cX5_takeNumber 75 = .ok (.invokevirtual 38, 3) := by decide +kernel
theorem dX5_takeNumber_78 : decode cX5_takeNumber 78 = .ok (.iload_n 2, 1) := by decide +kernel
theorem dX5_takeNumber_79 : decode cX5_takeNumber 79 = .ok (.ireturn, 1) := by decide +kernel
theorem dX5_readItem_0 : decode cX5_readItem 0 = .ok (.aload_n 0, 1) := by decide +kernel
theorem dX5_readItem_1 : decode cX5_readItem 1 = .ok (.invokevirtual 75, 3) := by decide +kernel
theorem dX5_readItem_4 : decode cX5_readItem 4 = .ok (.istore_n 2, 1) := by decide +kernel
theorem dX5_readItem_5 : decode cX5_readItem 5 = .ok (.iload_n 2, 1) := by decide +kernel
theorem dX5_readItem_6 : decode cX5_readItem 6 = .ok (.ifCond .lt 10, 3) := by decide +kernel
theorem dX5_readItem_9 : decode cX5_readItem 9 = .ok (.aload_n 0, 1) := by decide +kernel
theorem dX5_readItem_10 : decode cX5_readItem 10 = .ok (.aload_n 1, 1) := by decide +kernel
theorem dX5_readItem_11 : decode cX5_readItem 11 = .ok (.iload_n 2, 1) := by decide +kernel
theorem dX5_readItem_12 : decode cX5_readItem 12 = .ok (.invokevirtual 78, 3) := by decide +kernel
theorem dX5_readItem_15 : decode cX5_readItem 15 = .ok (.ireturn, 1) := by decide +kernel
theorem dX5_readItem_16 : decode cX5_readItem 16 = .ok (.aload_n 0, 1) := by decide +kernel
theorem dX5_readItem_17 : decode cX5_readItem 17 = .ok (.ldc 82, 2) := by decide +kernel
theorem dX5_readItem_19 : decode cX5_readItem 19 = .ok (.invokevirtual 65, 3) := by decide +kernel
theorem dX5_readItem_22 : decode cX5_readItem 22 = .ok (.ifCond .eq 9, 3) := by decide +kernel
theorem dX5_readItem_25 : decode cX5_readItem 25 = .ok (.aload_n 0, 1) := by decide +kernel
theorem dX5_readItem_26 : decode cX5_readItem 26 = .ok (.aload_n 1, 1) := by decide +kernel
theorem dX5_readItem_27 : decode cX5_readItem 27 = .ok (.invokevirtual 84, 3) := by decide +kernel
theorem dX5_readItem_30 : decode cX5_readItem 30 = .ok (.ireturn, 1) := by decide +kernel
theorem dX5_readItem_31 : decode cX5_readItem 31 = .ok (.aload_n 0, 1) := by decide +kernel
theorem dX5_readItem_32 : decode cX5_readItem 32 = .ok (.ldc 87, 2) := by decide +kernel
theorem dX5_readItem_34 : decode cX5_readItem 34 = .ok (.invokevirtual 89, 3) := by decide +kernel
theorem dX5_readItem_37 : decode cX5_readItem 37 = .ok (.ifCond .eq 15, 3) := by decide +kernel
theorem dX5_readItem_40 : decode cX5_readItem 40 = .ok (.aload_n 0, 1) := by decide +kernel
theorem dX5_readItem_41 : decode cX5_readItem 41 = .ok (.aload_n 1, 1) := by decide +kernel
theorem dX5_readItem_42 : decode cX5_readItem 42 = .ok (.invokevirtual 92, 3) := by decide +kernel
theorem dX5_readItem_45 : decode cX5_readItem 45 = .ok (.ifCond .eq 7, 3) := by decide +kernel
theorem dX5_readItem_48 : decode cX5_readItem 48 = .ok (.iconst 1, 1) := by decide +kernel
theorem dX5_readItem_49 : decode cX5_readItem 49 = .ok (.goto 4, 3) := by decide +kernel
theorem dX5_readItem_52 : decode cX5_readItem 52 = .ok (.iconst 0, 1) := by decide +kernel
theorem dX5_readItem_53 : decode cX5_readItem 53 = .ok (.ireturn, 1) := by decide +kernel
theorem dX5_kindHere_0 : decode cX5_kindHere 0 = .ok (.iconst 0, 1) := by decide +kernel
theorem dX5_kindHere_1 : decode cX5_kindHere 1 = .ok (.istore_n 1, 1) := by decide +kernel
theorem dX5_kindHere_2 : decode cX5_kindHere 2 = .ok (.iload_n 1, 1) := by decide +kernel
theorem dX5_kindHere_3 : decode cX5_kindHere 3 = .ok (.bipush 7, 2) := by decide +kernel
theorem dX5_kindHere_5 : decode cX5_kindHere 5 = .ok (.if_icmp .ge 22, 3) := by decide +kernel
theorem dX5_kindHere_8 : decode cX5_kindHere 8 = .ok (.aload_n 0, 1) := by decide +kernel
theorem dX5_kindHere_9 : decode cX5_kindHere 9 = .ok (.iload_n 1, 1) := by decide +kernel
theorem dX5_kindHere_10 : decode cX5_kindHere 10 = .ok (.invokestatic 95, 3) := by decide +kernel
theorem dX5_kindHere_13 : decode cX5_kindHere 13 = .ok (.invokevirtual 65, 3) := by decide +kernel
theorem dX5_kindHere_16 : decode cX5_kindHere 16 = .ok (.ifCond .eq 5, 3) := by decide +kernel
theorem dX5_kindHere_19 : decode cX5_kindHere 19 = .ok (.iload_n 1, 1) := by decide +kernel
theorem dX5_kindHere_20 : decode cX5_kindHere 20 = .ok (.ireturn, 1) := by decide +kernel
theorem dX5_kindHere_21 : decode cX5_kindHere 21 = .ok (.iinc 1 1, 3) := by decide +kernel
theorem dX5_kindHere_24 : decode cX5_kindHere 24 = .ok (.goto (-22), 3) := by decide +kernel
theorem dX5_kindHere_27 : decode cX5_kindHere 27 = .ok (.iconst (-1), 1) := by decide +kernel
theorem dX5_kindHere_28 : decode cX5_kindHere 28 = .ok (.ireturn, 1) := by decide +kernel
theorem dX5_nameOf_0 : decode cX5_nameOf 0 = .ok (.iload_n 0, 1) := by decide +kernel
theorem dX5_nameOf_1 : decode cX5_nameOf 1 = .ok (.tableswitch 57 1 6 #[39, 42, 45, 48, 51, 54], 39) := by decide +kernel
theorem dX5_nameOf_40 : decode cX5_nameOf 40 = .ok (.ldc 99, 2) := by decide +kernel
theorem dX5_nameOf_42 : decode cX5_nameOf 42 = .ok (.areturn, 1) := by decide +kernel
theorem dX5_nameOf_43 : decode cX5_nameOf 43 = .ok (.ldc 101, 2) := by decide +kernel
theorem dX5_nameOf_45 : decode cX5_nameOf 45 = .ok (.areturn, 1) := by decide +kernel
theorem dX5_nameOf_46 : decode cX5_nameOf 46 = .ok (.ldc 103, 2) := by decide +kernel
theorem dX5_nameOf_48 : decode cX5_nameOf 48 = .ok (.areturn, 1) := by decide +kernel
theorem dX5_nameOf_49 : decode cX5_nameOf 49 = .ok (.ldc 105, 2) := by decide +kernel
theorem dX5_nameOf_51 : decode cX5_nameOf 51 = .ok (.areturn, 1) := by decide +kernel
theorem dX5_nameOf_52 : decode cX5_nameOf 52 = .ok (.ldc 107, 2) := by decide +kernel
theorem dX5_nameOf_54 : decode cX5_nameOf 54 = .ok (.areturn, 1) := by decide +kernel
theorem dX5_nameOf_55 : decode cX5_nameOf 55 = .ok (.ldc 109, 2) := by decide +kernel
theorem dX5_nameOf_57 : decode cX5_nameOf 57 = .ok (.areturn, 1) := by decide +kernel
theorem dX5_nameOf_58 : decode cX5_nameOf 58 = .ok (.ldc 111, 2) := by decide +kernel
theorem dX5_nameOf_60 : decode cX5_nameOf 60 = .ok (.areturn, 1) := by decide +kernel
theorem dX5_readBird_0 : decode cX5_readBird 0 = .ok (.aload_n 1, 1) := by decide +kernel
theorem dX5_readBird_1 : decode cX5_readBird 1 = .ok (.iload_n 2, 1) := by decide +kernel
theorem dX5_readBird_2 : decode cX5_readBird 2 = .ok (.invokevirtual 113, 3) := by decide +kernel
theorem dX5_readBird_5 : decode cX5_readBird 5 = .ok (.istore_n 3, 1) := by decide +kernel
theorem dX5_readBird_6 : decode cX5_readBird 6 = .ok (.iload_n 3, 1) := by decide +kernel
theorem dX5_readBird_7 : decode cX5_readBird 7 = .ok (.ifCond .ge 5, 3) := by decide +kernel
theorem dX5_readBird_10 : decode cX5_readBird 10 = .ok (.iconst 0, 1) := by decide +kernel
theorem dX5_readBird_11 : decode cX5_readBird 11 = .ok (.ireturn, 1) := by decide +kernel
theorem dX5_readBird_12 : decode cX5_readBird 12 = .ok (.aload_n 0, 1) := by decide +kernel
theorem dX5_readBird_13 : decode cX5_readBird 13 = .ok (.invokevirtual 38, 3) := by decide +kernel
theorem dX5_readBird_16 : decode cX5_readBird 16 = .ok (.aload_n 1, 1) := by decide +kernel
theorem dX5_readBird_17 : decode cX5_readBird 17 = .ok (.getfield 118, 3) := by decide +kernel
theorem dX5_readBird_20 : decode cX5_readBird 20 = .ok (.iload_n 3, 1) := by decide +kernel
theorem dX5_readBird_21 : decode cX5_readBird 21 = .ok (.aaload, 1) := by decide +kernel
theorem dX5_readBird_22 : decode cX5_readBird 22 = .ok (.astore 4, 2) := by decide +kernel
theorem dX5_readBird_24 : decode cX5_readBird 24 = .ok (.aload_n 0, 1) := by decide +kernel
theorem dX5_readBird_25 : decode cX5_readBird 25 = .ok (.aload 4, 2) := by decide +kernel
theorem dX5_readBird_27 : decode cX5_readBird 27 = .ok (.invokevirtual 122, 3) := by decide +kernel
theorem dX5_readBird_30 : decode cX5_readBird 30 = .ok (.ifCond .eq 31, 3) := by decide +kernel
theorem dX5_readBird_33 : decode cX5_readBird 33 = .ok (.aload_n 0, 1) := by decide +kernel
theorem dX5_readBird_34 : decode cX5_readBird 34 = .ok (.aload 4, 2) := by decide +kernel
theorem dX5_readBird_36 : decode cX5_readBird 36 = .ok (.ldc 126, 2) := by decide +kernel
theorem dX5_readBird_38 : decode cX5_readBird 38 = .ok (.iconst 1, 1) := by decide +kernel
theorem dX5_readBird_39 : decode cX5_readBird 39 = .ok (.invokevirtual 128, 3) := by decide +kernel
theorem dX5_readBird_42 : decode cX5_readBird 42 = .ok (.ifCond .eq 19, 3) := by decide +kernel
theorem dX5_readBird_45 : decode cX5_readBird 45 = .ok (.aload_n 0, 1) := by decide +kernel
theorem dX5_readBird_46 : decode cX5_readBird 46 = .ok (.aload 4, 2) := by decide +kernel
theorem dX5_readBird_48 : decode cX5_readBird 48 = .ok (.ldc 132, 2) := by decide +kernel
theorem dX5_readBird_50 : decode cX5_readBird 50 = .ok (.iconst 2, 1) := by decide +kernel
theorem dX5_readBird_51 : decode cX5_readBird 51 = .ok (.invokevirtual 128, 3) := by decide +kernel
theorem dX5_readBird_54 : decode cX5_readBird 54 = .ok (.ifCond .eq 7, 3) := by decide +kernel
theorem dX5_readBird_57 : decode cX5_readBird 57 = .ok (.iconst 1, 1) := by decide +kernel
theorem dX5_readBird_58 : decode cX5_readBird 58 = .ok (.goto 4, 3) := by decide +kernel
theorem dX5_readBird_61 : decode cX5_readBird 61 = .ok (.iconst 0, 1) := by decide +kernel
theorem dX5_readBird_62 : decode cX5_readBird 62 = .ok (.ireturn, 1) := by decide +kernel
theorem dX5_readFeathers_0 : decode cX5_readFeathers 0 = .ok (.aload_n 0, 1) := by decide +kernel
theorem dX5_readFeathers_1 : decode cX5_readFeathers 1 = .ok (.ldc 134, 2) := by decide +kernel
theorem dX5_readFeathers_3 : decode cX5_readFeathers 3 = .ok (.invokevirtual 89, 3) := by decide +kernel
theorem dX5_readFeathers_6 : decode cX5_readFeathers 6 = .ok (.ifCond .ne 5, 3) := by decide +kernel
theorem dX5_readFeathers_9 : decode cX5_readFeathers 9 = .ok (.iconst 1, 1) := by decide +kernel
theorem dX5_readFeathers_10 : decode cX5_readFeathers 10 = .ok (.ireturn, 1) := by decide +kernel
theorem dX5_readFeathers_11 : decode cX5_readFeathers 11 = .ok (.iconst 0, 1) := by decide +kernel
theorem dX5_readFeathers_12 : decode cX5_readFeathers 12 = .ok (.istore_n 2, 1) := by decide +kernel
theorem dX5_readFeathers_13 : decode cX5_readFeathers 13 = .ok (.iload_n 2, 1) := by decide +kernel
theorem dX5_readFeathers_14 : decode cX5_readFeathers 14 = .ok (.iconst 4, 1) := by decide +kernel
theorem dX5_readFeathers_15 : decode cX5_readFeathers 15 = .ok (.if_icmp .ge 46, 3) := by decide +kernel
theorem dX5_readFeathers_18 : decode cX5_readFeathers 18 = .ok (.iload_n 2, 1) := by decide +kernel
theorem dX5_readFeathers_19 : decode cX5_readFeathers 19 = .ok (.ifCond .eq 16, 3) := by decide +kernel
theorem dX5_readFeathers_22 : decode cX5_readFeathers 22 = .ok (.aload_n 0, 1) := by decide +kernel
theorem dX5_readFeathers_23 : decode cX5_readFeathers 23 = .ok (.getfield 19, 3) := by decide +kernel
theorem dX5_readFeathers_26 : decode cX5_readFeathers 26 = .ok (.aload_n 0, 1) := by decide +kernel
theorem dX5_readFeathers_27 : decode cX5_readFeathers 27 = .ok (.getfield 31, 3) := by decide +kernel
theorem dX5_readFeathers_30 : decode cX5_readFeathers 30 = .ok (.iaload, 1) := by decide +kernel
theorem dX5_readFeathers_31 : decode cX5_readFeathers 31 = .ok (.iconst 2, 1) := by decide +kernel
theorem dX5_readFeathers_32 : decode cX5_readFeathers 32 = .ok (.if_icmp .ne 29, 3) := by decide +kernel
theorem dX5_readFeathers_35 : decode cX5_readFeathers 35 = .ok (.aload_n 0, 1) := by decide +kernel
theorem dX5_readFeathers_36 : decode cX5_readFeathers 36 = .ok (.bipush 99, 2) := by decide +kernel
theorem dX5_readFeathers_38 : decode cX5_readFeathers 38 = .ok (.invokevirtual 136, 3) := by decide +kernel
theorem dX5_readFeathers_41 : decode cX5_readFeathers 41 = .ok (.istore_n 3, 1) := by decide +kernel
theorem dX5_readFeathers_42 : decode cX5_readFeathers 42 = .ok (.iload_n 3, 1) := by decide +kernel
theorem dX5_readFeathers_43 : decode cX5_readFeathers 43 = .ok (.ifCond .ge 5, 3) := by decide +kernel
theorem dX5_readFeathers_46 : decode cX5_readFeathers 46 = .ok (.iconst 0, 1) := by decide +kernel
theorem dX5_readFeathers_47 : decode cX5_readFeathers 47 = .ok (.ireturn, 1) := by decide +kernel
theorem dX5_readFeathers_48 : decode cX5_readFeathers 48 = .ok (.aload_n 1, 1) := by decide +kernel
theorem dX5_readFeathers_49 : decode cX5_readFeathers 49 = .ok (.getfield 139, 3) := by decide +kernel
theorem dX5_readFeathers_52 : decode cX5_readFeathers 52 = .ok (.iload_n 2, 1) := by decide +kernel
theorem dX5_readFeathers_53 : decode cX5_readFeathers 53 = .ok (.iload_n 3, 1) := by decide +kernel
theorem dX5_readFeathers_54 : decode cX5_readFeathers 54 = .ok (.iastore, 1) := by decide +kernel
theorem dX5_readFeathers_55 : decode cX5_readFeathers 55 = .ok (.iinc 2 1, 3) := by decide +kernel
theorem dX5_readFeathers_58 : decode cX5_readFeathers 58 = .ok (.goto (-45), 3) := by decide +kernel
theorem dX5_readFeathers_61 : decode cX5_readFeathers 61 = .ok (.iconst 1, 1) := by decide +kernel
theorem dX5_readFeathers_62 : decode cX5_readFeathers 62 = .ok (.ireturn, 1) := by decide +kernel
theorem dX5_readBirdFeature_0 : decode cX5_readBirdFeature 0 = .ok (.aload_n 0, 1) := by decide +kernel
theorem dX5_readBirdFeature_1 : decode cX5_readBirdFeature 1 = .ok (.aload_n 2, 1) := by decide +kernel
theorem dX5_readBirdFeature_2 : decode cX5_readBirdFeature 2 = .ok (.invokevirtual 89, 3) := by decide +kernel
theorem dX5_readBirdFeature_5 : decode cX5_readBirdFeature 5 = .ok (.ifCond .ne 5, 3) := by decide +kernel
theorem dX5_readBirdFeature_8 : decode cX5_readBirdFeature 8 = .ok (.iconst 1, 1) := by decide +kernel
theorem dX5_readBirdFeature_9 : decode cX5_readBirdFeature 9 = .ok (.ireturn, 1) := by decide +kernel
theorem dX5_readBirdFeature_10 : decode cX5_readBirdFeature 10 = .ok (.aload_n 0, 1) := by decide +kernel
theorem dX5_readBirdFeature_11 : decode cX5_readBirdFeature 11 = .ok (.iload_n 3, 1) := by decide +kernel
theorem dX5_readBirdFeature_12 : decode cX5_readBirdFeature 12 = .ok (.invokestatic 144, 3) := by decide +kernel
theorem dX5_readBirdFeature_15 : decode cX5_readBirdFeature 15 = .ok (.invokevirtual 136, 3) := by decide +kernel
theorem dX5_readBirdFeature_18 : decode cX5_readBirdFeature 18 = .ok (.istore 4, 2) := by decide +kernel
theorem dX5_readBirdFeature_20 : decode cX5_readBirdFeature 20 = .ok (.iload 4, 2) := by decide +kernel
theorem dX5_readBirdFeature_22 : decode cX5_readBirdFeature 22 = .ok (.ifCond .ge 5, 3) := by decide +kernel
theorem dX5_readBirdFeature_25 : decode cX5_readBirdFeature 25 = .ok (.iconst 0, 1) := by decide +kernel
theorem dX5_readBirdFeature_26 : decode cX5_readBirdFeature 26 = .ok (.ireturn, 1) := by decide +kernel
theorem dX5_readBirdFeature_27 : decode cX5_readBirdFeature 27 = .ok (.aload_n 1, 1) := by decide +kernel
theorem dX5_readBirdFeature_28 : decode cX5_readBirdFeature 28 = .ok (.iload_n 3, 1) := by decide +kernel
theorem dX5_readBirdFeature_29 : decode cX5_readBirdFeature 29 = .ok (.iload 4, 2) := by decide +kernel
theorem dX5_readBirdFeature_31 : decode cX5_readBirdFeature 31 = .ok (.invokevirtual 147, 3) := by decide +kernel
theorem dX5_readBirdFeature_34 : decode cX5_readBirdFeature 34 = .ok (.iconst 1, 1) := by decide +kernel
theorem dX5_readBirdFeature_35 : decode cX5_readBirdFeature 35 = .ok (.ireturn, 1) := by decide +kernel
theorem dX5_readMotion_0 : decode cX5_readMotion 0 = .ok (.aload_n 1, 1) := by decide +kernel
theorem dX5_readMotion_1 : decode cX5_readMotion 1 = .ok (.iconst 0, 1) := by decide +kernel
theorem dX5_readMotion_2 : decode cX5_readMotion 2 = .ok (.invokevirtual 151, 3) := by decide +kernel
theorem dX5_readMotion_5 : decode cX5_readMotion 5 = .ok (.istore_n 2, 1) := by decide +kernel
theorem dX5_readMotion_6 : decode cX5_readMotion 6 = .ok (.iload_n 2, 1) := by decide +kernel
theorem dX5_readMotion_7 : decode cX5_readMotion 7 = .ok (.ifCond .ge 5, 3) := by decide +kernel
theorem dX5_readMotion_10 : decode cX5_readMotion 10 = .ok (.iconst 0, 1) := by decide +kernel
theorem dX5_readMotion_11 : decode cX5_readMotion 11 = .ok (.ireturn, 1) := by decide +kernel
theorem dX5_readMotion_12 : decode cX5_readMotion 12 = .ok (.aload_n 0, 1) := by decide +kernel
theorem dX5_readMotion_13 : decode cX5_readMotion 13 = .ok (.invokevirtual 38, 3) := by decide +kernel
theorem dX5_readMotion_16 : decode cX5_readMotion 16 = .ok (.aload_n 0, 1) := by decide +kernel
theorem dX5_readMotion_17 : decode cX5_readMotion 17 = .ok (.iconst 3, 1) := by decide +kernel
theorem dX5_readMotion_18 : decode cX5_readMotion 18 = .ok (.invokevirtual 136, 3) := by decide +kernel
theorem dX5_readMotion_21 : decode cX5_readMotion 21 = .ok (.istore_n 3, 1) := by decide +kernel
theorem dX5_readMotion_22 : decode cX5_readMotion 22 = .ok (.iload_n 3, 1) := by decide +kernel
theorem dX5_readMotion_23 : decode cX5_readMotion 23 = .ok (.ifCond .ge 5, 3) := by decide +kernel
theorem dX5_readMotion_26 : decode cX5_readMotion 26 = .ok (.iconst 0, 1) := by decide +kernel
theorem dX5_readMotion_27 : decode cX5_readMotion 27 = .ok (.ireturn, 1) := by decide +kernel
theorem dX5_readMotion_28 : decode cX5_readMotion 28 = .ok (.aload_n 1, 1) := by decide +kernel
theorem dX5_readMotion_29 : decode cX5_readMotion 29 = .ok (.getfield 154, 3) := by decide +kernel
theorem dX5_readMotion_32 : decode cX5_readMotion 32 = .ok (.iload_n 2, 1) := by decide +kernel
theorem dX5_readMotion_33 : decode cX5_readMotion 33 = .ok (.aaload, 1) := by decide +kernel
theorem dX5_readMotion_34 : decode cX5_readMotion 34 = .ok (.astore 4, 2) := by decide +kernel
theorem dX5_readMotion_36 : decode cX5_readMotion 36 = .ok (.aload 4, 2) := by decide +kernel
theorem dX5_readMotion_38 : decode cX5_readMotion 38 = .ok (.iload_n 3, 1) := by decide +kernel
theorem dX5_readMotion_39 : decode cX5_readMotion 39 = .ok (.putfield 158, 3) := by decide +kernel
theorem dX5_readMotion_42 : decode cX5_readMotion 42 = .ok (.aload_n 1, 1) := by decide +kernel
theorem dX5_readMotion_43 : decode cX5_readMotion 43 = .ok (.invokevirtual 163, 3) := by decide +kernel
theorem dX5_readMotion_46 : decode cX5_readMotion 46 = .ok (.istore 5, 2) := by decide +kernel
theorem dX5_readMotion_48 : decode cX5_readMotion 48 = .ok (.aload_n 0, 1) := by decide +kernel
theorem dX5_readMotion_49 : decode cX5_readMotion 49 = .ok (.aload 4, 2) := by decide +kernel
theorem dX5_readMotion_51 : decode cX5_readMotion 51 = .ok (.ldc 166, 2) := by decide +kernel
theorem dX5_readMotion_53 : decode cX5_readMotion 53 = .ok (.iconst 1, 1) := by decide +kernel
theorem dX5_readMotion_54 : decode cX5_readMotion 54 = .ok (.iload 5, 2) := by decide +kernel
theorem dX5_readMotion_56 : decode cX5_readMotion 56 = .ok (.invokevirtual 168, 3) := by decide +kernel
theorem dX5_readMotion_59 : decode cX5_readMotion 59 = .ok (.ifCond .eq 35, 3) := by decide +kernel
theorem dX5_readMotion_62 : decode cX5_readMotion 62 = .ok (.aload_n 0, 1) := by decide +kernel
theorem dX5_readMotion_63 : decode cX5_readMotion 63 = .ok (.aload 4, 2) := by decide +kernel
theorem dX5_readMotion_65 : decode cX5_readMotion 65 = .ok (.ldc 172, 2) := by decide +kernel
theorem dX5_readMotion_67 : decode cX5_readMotion 67 = .ok (.iconst 2, 1) := by decide +kernel
theorem dX5_readMotion_68 : decode cX5_readMotion 68 = .ok (.iload 5, 2) := by decide +kernel
theorem dX5_readMotion_70 : decode cX5_readMotion 70 = .ok (.invokevirtual 168, 3) := by decide +kernel
theorem dX5_readMotion_73 : decode cX5_readMotion 73 = .ok (.ifCond .eq 21, 3) := by decide +kernel
theorem dX5_readMotion_76 : decode cX5_readMotion 76 = .ok (.aload_n 0, 1) := by decide +kernel
theorem dX5_readMotion_77 : decode cX5_readMotion 77 = .ok (.aload 4, 2) := by decide +kernel
theorem dX5_readMotion_79 : decode cX5_readMotion 79 = .ok (.ldc 174, 2) := by decide +kernel
theorem dX5_readMotion_81 : decode cX5_readMotion 81 = .ok (.iconst 3, 1) := by decide +kernel
theorem dX5_readMotion_82 : decode cX5_readMotion 82 = .ok (.iload 5, 2) := by decide +kernel
theorem dX5_readMotion_84 : decode cX5_readMotion 84 = .ok (.invokevirtual 168, 3) := by decide +kernel
theorem dX5_readMotion_87 : decode cX5_readMotion 87 = .ok (.ifCond .eq 7, 3) := by decide +kernel
theorem dX5_readMotion_90 : decode cX5_readMotion 90 = .ok (.iconst 1, 1) := by decide +kernel
theorem dX5_readMotion_91 : decode cX5_readMotion 91 = .ok (.goto 4, 3) := by decide +kernel
theorem dX5_readMotion_94 : decode cX5_readMotion 94 = .ok (.iconst 0, 1) := by decide +kernel
theorem dX5_readMotion_95 : decode cX5_readMotion 95 = .ok (.ireturn, 1) := by decide +kernel
theorem dX5_readMotionFeature_0 : decode cX5_readMotionFeature 0 = .ok (.aload_n 0, 1) := by decide +kernel
theorem dX5_readMotionFeature_1 : decode cX5_readMotionFeature 1 = .ok (.aload_n 2, 1) := by decide +kernel
theorem dX5_readMotionFeature_2 : decode cX5_readMotionFeature 2 = .ok (.invokevirtual 89, 3) := by decide +kernel
theorem dX5_readMotionFeature_5 : decode cX5_readMotionFeature 5 = .ok (.ifCond .ne 5, 3) := by decide +kernel
theorem dX5_readMotionFeature_8 : decode cX5_readMotionFeature 8 = .ok (.iconst 1, 1) := by decide +kernel
theorem dX5_readMotionFeature_9 : decode cX5_readMotionFeature 9 = .ok (.ireturn, 1) := by decide +kernel
theorem dX5_readMotionFeature_10 : decode cX5_readMotionFeature 10 = .ok (.aload_n 0, 1) := by decide +kernel
theorem dX5_readMotionFeature_11 : decode cX5_readMotionFeature 11 = .ok (.iload_n 3, 1) := by decide +kernel
theorem dX5_readMotionFeature_12 : decode cX5_readMotionFeature 12 = .ok (.iload 4, 2) := by decide +kernel
theorem dX5_readMotionFeature_14 : decode cX5_readMotionFeature 14 = .ok (.invokestatic 176, 3) := by decide +kernel
theorem dX5_readMotionFeature_17 : decode cX5_readMotionFeature 17 = .ok (.invokevirtual 136, 3) := by decide +kernel
theorem dX5_readMotionFeature_20 : decode cX5_readMotionFeature 20 = .ok (.istore 5, 2) := by decide +kernel
theorem dX5_readMotionFeature_22 : decode cX5_readMotionFeature 22 = .ok (.iload 5, 2) := by decide +kernel
theorem dX5_readMotionFeature_24 : decode cX5_readMotionFeature 24 = .ok (.ifCond .ge 5, 3) := by decide +kernel
theorem dX5_readMotionFeature_27 : decode cX5_readMotionFeature 27 = .ok (.iconst 0, 1) := by decide +kernel
theorem dX5_readMotionFeature_28 : decode cX5_readMotionFeature 28 = .ok (.ireturn, 1) := by decide +kernel
theorem dX5_readMotionFeature_29 : decode cX5_readMotionFeature 29 = .ok (.aload_n 1, 1) := by decide +kernel
theorem dX5_readMotionFeature_30 : decode cX5_readMotionFeature 30 = .ok (.iload_n 3, 1) := by decide +kernel
theorem dX5_readMotionFeature_31 : decode cX5_readMotionFeature 31 = .ok (.iload 5, 2) := by decide +kernel
theorem dX5_readMotionFeature_33 : decode cX5_readMotionFeature 33 = .ok (.invokevirtual 178, 3) := by decide +kernel
theorem dX5_readMotionFeature_36 : decode cX5_readMotionFeature 36 = .ok (.iconst 1, 1) := by decide +kernel
theorem dX5_readMotionFeature_37 : decode cX5_readMotionFeature 37 = .ok (.ireturn, 1) := by decide +kernel
theorem dX5_readSeason_0 : decode cX5_readSeason 0 = .ok (.aload_n 0, 1) := by decide +kernel
theorem dX5_readSeason_1 : decode cX5_readSeason 1 = .ok (.sipush 999, 3) := by decide +kernel
theorem dX5_readSeason_4 : decode cX5_readSeason 4 = .ok (.invokevirtual 136, 3) := by decide +kernel
theorem dX5_readSeason_7 : decode cX5_readSeason 7 = .ok (.istore_n 2, 1) := by decide +kernel
theorem dX5_readSeason_8 : decode cX5_readSeason 8 = .ok (.iload_n 2, 1) := by decide +kernel
theorem dX5_readSeason_9 : decode cX5_readSeason 9 = .ok (.ifCond .ge 5, 3) := by decide +kernel
theorem dX5_readSeason_12 : decode cX5_readSeason 12 = .ok (.iconst 0, 1) := by decide +kernel
theorem dX5_readSeason_13 : decode cX5_readSeason 13 = .ok (.ireturn, 1) := by decide +kernel
theorem dX5_readSeason_14 : decode cX5_readSeason 14 = .ok (.aload_n 1, 1) := by decide +kernel
theorem dX5_readSeason_15 : decode cX5_readSeason 15 = .ok (.iload_n 2, 1) := by decide +kernel
theorem dX5_readSeason_16 : decode cX5_readSeason 16 = .ok (.putfield 179, 3) := by decide +kernel
theorem dX5_readSeason_19 : decode cX5_readSeason 19 = .ok (.iconst 1, 1) := by decide +kernel
theorem dX5_readSeason_20 : decode cX5_readSeason 20 = .ok (.ireturn, 1) := by decide +kernel
end
section
theorem dX6_init_0 : decode cX6_init 0 = .ok (.aload_n 0, 1) := by decide +kernel
theorem dX6_init_1 : decode cX6_init 1 = .ok (.invokespecial 3, 3) := by decide +kernel
theorem dX6_init_4 : decode cX6_init 4 = .ok (.aload_n 0, 1) := by decide +kernel
theorem dX6_init_5 : decode cX6_init 5 = .ok (.new 9, 3) := by decide +kernel
theorem dX6_init_8 : decode cX6_init 8 = .ok (.dup, 1) := by decide +kernel
theorem dX6_init_9 : decode cX6_init 9 = .ok (.invokespecial 11, 3) := by decide +kernel
theorem dX6_init_12 : decode cX6_init 12 = .ok (.putfield 12, 3) := by decide +kernel
theorem dX6_init_15 : decode cX6_init 15 = .ok (.aload_n 0, 1) := by decide +kernel
theorem dX6_init_16 : decode cX6_init 16 = .ok (.new 9, 3) := by decide +kernel
theorem dX6_init_19 : decode cX6_init 19 = .ok (.dup, 1) := by decide +kernel
theorem dX6_init_20 : decode cX6_init 20 = .ok (.invokespecial 11, 3) := by decide +kernel
theorem dX6_init_23 : decode cX6_init 23 = .ok (.putfield 16, 3) := by decide +kernel
theorem dX6_init_26 : decode cX6_init 26 = .ok (.aload_n 0, 1) := by decide +kernel
theorem dX6_init_27 : decode cX6_init 27 = .ok (.new 9, 3) := by decide +kernel
theorem dX6_init_30 : decode cX6_init 30 = .ok (.dup, 1) := by decide +kernel
theorem dX6_init_31 : decode cX6_init 31 = .ok (.invokespecial 11, 3) := by decide +kernel
theorem dX6_init_34 : decode cX6_init 34 = .ok (.putfield 19, 3) := by decide +kernel
theorem dX6_init_37 : decode cX6_init 37 = .ok (.aload_n 0, 1) := by decide +kernel
theorem dX6_init_38 : decode cX6_init 38 = .ok (.iconst 0, 1) := by decide +kernel
theorem dX6_init_39 : decode cX6_init 39 = .ok (.putfield 22, 3) := by decide +kernel
theorem dX6_init_42 : decode cX6_init 42 = .ok (.aload_n 0, 1) := by decide +kernel
theorem dX6_init_43 : decode cX6_init 43 = .ok (.new 26, 3) := by decide +kernel
theorem dX6_init_46 : decode cX6_init 46 = .ok (.dup, 1) := by decide +kernel
theorem dX6_init_47 : decode cX6_init 47 = .ok (.invokespecial 28, 3) := by decide +kernel
theorem dX6_init_50 : decode cX6_init 50 = .ok (.putfield 29, 3) := by decide +kernel
theorem dX6_init_53 : decode cX6_init 53 = .ok (.aload_n 0, 1) := by decide +kernel
theorem dX6_init_54 : decode cX6_init 54 = .ok (.iconst 4, 1) := by decide +kernel
theorem dX6_init_55 : decode cX6_init 55 = .ok (.anewarray 33, 3) := by decide +kernel
theorem dX6_init_58 : decode cX6_init 58 = .ok (.putfield 35, 3) := by decide +kernel
theorem dX6_init_61 : decode cX6_init 61 = .ok (.aload_n 0, 1) := by decide +kernel
theorem dX6_init_62 : decode cX6_init 62 = .ok (.new 39, 3) := by decide +kernel
theorem dX6_init_65 : decode cX6_init 65 = .ok (.dup, 1) := by decide +kernel
theorem dX6_init_66 : decode cX6_init 66 = .ok (.invokespecial 41, 3) := by decide +kernel
theorem dX6_init_69 : decode cX6_init 69 = .ok (.putfield 42, 3) := by decide +kernel
theorem dX6_init_72 : decode cX6_init 72 = .ok (.aload_n 0, 1) := by decide +kernel
theorem dX6_init_73 : decode cX6_init 73 = .ok (.bipush 7, 2) := by decide +kernel
theorem dX6_init_75 : decode cX6_init 75 = .ok (.newarray .int, 2) := by decide +kernel
theorem dX6_init_77 : decode cX6_init 77 = .ok (.putfield 46, 3) := by decide +kernel
theorem dX6_init_80 : decode cX6_init 80 = .ok (.iconst 0, 1) := by decide +kernel
theorem dX6_init_81 : decode cX6_init 81 = .ok (.istore_n 1, 1) := by decide +kernel
theorem dX6_init_82 : decode cX6_init 82 = .ok (.iload_n 1, 1) := by decide +kernel
theorem dX6_init_83 : decode cX6_init 83 = .ok (.iconst 4, 1) := by decide +kernel
theorem dX6_init_84 : decode cX6_init 84 = .ok (.if_icmp .ge 22, 3) := by decide +kernel
theorem dX6_init_87 : decode cX6_init 87 = .ok (.aload_n 0, 1) := by decide +kernel
theorem dX6_init_88 : decode cX6_init 88 = .ok (.getfield 35, 3) := by decide +kernel
theorem dX6_init_91 : decode cX6_init 91 = .ok (.iload_n 1, 1) := by decide +kernel
theorem dX6_init_92 : decode cX6_init 92 = .ok (.new 33, 3) := by decide +kernel
theorem dX6_init_95 : decode cX6_init 95 = .ok (.dup, 1) := by decide +kernel
theorem dX6_init_96 : decode cX6_init 96 = .ok (.invokespecial 50, 3) := by decide +kernel
theorem dX6_init_99 : decode cX6_init 99 = .ok (.aastore, 1) := by decide +kernel
theorem dX6_init_100 : decode cX6_init 100 = .ok (.iinc 1 1, 3) := by decide +kernel
theorem dX6_init_103 : decode cX6_init 103 = .ok (.goto (-21), 3) := by decide +kernel
theorem dX6_init_106 : decode cX6_init 106 = .ok (.return_, 1) := by decide +kernel
theorem dX6_bird_0 : decode cX6_bird 0 = .ok (.iload_n 1, 1) := by decide +kernel
theorem dX6_bird_1 : decode cX6_bird 1 = .ok (.bipush 6, 2) := by decide +kernel
theorem dX6_bird_3 : decode cX6_bird 3 = .ok (.invokestatic 51, 3) := by decide +kernel
theorem dX6_bird_6 : decode cX6_bird 6 = .ok (.ifCond .ne 10, 3) := by decide +kernel
theorem dX6_bird_9 : decode cX6_bird 9 = .ok (.aload_n 0, 1) := by decide +kernel
theorem dX6_bird_10 : decode cX6_bird 10 = .ok (.ldc 55, 2) := by decide +kernel
theorem dX6_bird_12 : decode cX6_bird 12 = .ok (.invokevirtual 56, 3) := by decide +kernel
theorem dX6_bird_15 : decode cX6_bird 15 = .ok (.ireturn, 1) := by decide +kernel
theorem dX6_bird_16 : decode cX6_bird 16 = .ok (.aload_n 0, 1) := by decide +kernel
theorem dX6_bird_17 : decode cX6_bird 17 = .ok (.getfield 12, 3) := by decide +kernel
theorem dX6_bird_20 : decode cX6_bird 20 = .ok (.getfield 60, 3) := by decide +kernel
theorem dX6_bird_23 : decode cX6_bird 23 = .ok (.bipush 8, 2) := by decide +kernel
theorem dX6_bird_25 : decode cX6_bird 25 = .ok (.if_icmp .lt 10, 3) := by decide +kernel
theorem dX6_bird_28 : decode cX6_bird 28 = .ok (.aload_n 0, 1) := by decide +kernel
theorem dX6_bird_29 : decode cX6_bird 29 = .ok (.ldc 64, 2) := by decide +kernel
theorem dX6_bird_31 : decode cX6_bird 31 = .ok (.invokevirtual 56, 3) := by decide +kernel
theorem dX6_bird_34 : decode cX6_bird 34 = .ok (.ireturn, 1) := by decide +kernel
theorem dX6_bird_35 : decode cX6_bird 35 = .ok (.aload_n 0, 1) := by decide +kernel
theorem dX6_bird_36 : decode cX6_bird 36 = .ok (.getfield 12, 3) := by decide +kernel
theorem dX6_bird_39 : decode cX6_bird 39 = .ok (.iload_n 1, 1) := by decide +kernel
theorem dX6_bird_40 : decode cX6_bird 40 = .ok (.invokevirtual 65, 3) := by decide +kernel
theorem dX6_bird_43 : decode cX6_bird 43 = .ok (.ireturn, 1) := by decide +kernel
theorem dX6_of_0 : decode cX6_of 0 = .ok (.aload_n 0, 1) := by decide +kernel
theorem dX6_of_1 : decode cX6_of 1 = .ok (.getfield 12, 3) := by decide +kernel
theorem dX6_of_4 : decode cX6_of 4 = .ok (.iload_n 1, 1) := by decide +kernel
theorem dX6_of_5 : decode cX6_of 5 = .ok (.invokevirtual 68, 3) := by decide +kernel
theorem dX6_of_8 : decode cX6_of 8 = .ok (.ifCond .eq 12, 3) := by decide +kernel
theorem dX6_of_11 : decode cX6_of 11 = .ok (.iload_n 2, 1) := by decide +kernel
theorem dX6_of_12 : decode cX6_of 12 = .ok (.bipush 8, 2) := by decide +kernel
theorem dX6_of_14 : decode cX6_of 14 = .ok (.invokestatic 51, 3) := by decide +kernel
theorem dX6_of_17 : decode cX6_of 17 = .ok (.ifCond .ne 10, 3) := by decide +kernel
theorem dX6_of_20 : decode cX6_of 20 = .ok (.aload_n 0, 1) := by decide +kernel
theorem dX6_of_21 : decode cX6_of 21 = .ok (.ldc 55, 2) := by decide +kernel
theorem dX6_of_23 : decode cX6_of 23 = .ok (.invokevirtual 56, 3) := by decide +kernel
theorem dX6_of_26 : decode cX6_of 26 = .ok (.ireturn, 1) := by decide +kernel
theorem dX6_of_27 : decode cX6_of 27 = .ok (.aload_n 0, 1) := by decide +kernel
theorem dX6_of_28 : decode cX6_of 28 = .ok (.getfield 12, 3) := by decide +kernel
theorem dX6_of_31 : decode cX6_of 31 = .ok (.getfield 72, 3) := by decide +kernel
theorem dX6_of_34 : decode cX6_of 34 = .ok (.iload_n 1, 1) := by decide +kernel
theorem dX6_of_35 : decode cX6_of 35 = .ok (.aaload, 1) := by decide +kernel
theorem dX6_of_36 : decode cX6_of 36 = .ok (.iload_n 2, 1) := by decide +kernel
theorem dX6_of_37 : decode cX6_of 37 = .ok (.invokevirtual 76, 3) := by decide +kernel
theorem dX6_of_40 : decode cX6_of 40 = .ok (.ireturn, 1) := by decide +kernel
theorem dX6_change_0 : decode cX6_change 0 = .ok (.aload_n 0, 1) := by decide +kernel
theorem dX6_change_1 : decode cX6_change 1 = .ok (.getfield 12, 3) := by decide +kernel
theorem dX6_change_4 : decode cX6_change 4 = .ok (.iload_n 1, 1) := by decide +kernel
theorem dX6_change_5 : decode cX6_change 5 = .ok (.invokevirtual 68, 3) := by decide +kernel
theorem dX6_change_8 : decode cX6_change 8 = .ok (.ifCond .eq 23, 3) := by decide +kernel
theorem dX6_change_11 : decode cX6_change 11 = .ok (.iload_n 2, 1) := by decide +kernel
theorem dX6_change_12 : decode cX6_change 12 = .ok (.bipush 6, 2) := by decide +kernel
theorem dX6_change_14 : decode cX6_change 14 = .ok (.invokestatic 51, 3) := by decide +kernel
theorem dX6_change_17 : decode cX6_change 17 = .ok (.ifCond .eq 14, 3) := by decide +kernel
theorem dX6_change_20 : decode cX6_change 20 = .ok (.iload_n 3, 1) := by decide +kernel
theorem dX6_change_21 : decode cX6_change 21 = .ok (.iload_n 2, 1) := by decide +kernel
theorem dX6_change_22 : decode cX6_change 22 = .ok (.invokestatic 81, 3) := by decide +kernel
theorem dX6_change_25 : decode cX6_change 25 = .ok (.invokestatic 51, 3) := by decide +kernel
theorem dX6_change_28 : decode cX6_change 28 = .ok (.ifCond .ne 10, 3) := by decide +kernel
theorem dX6_change_31 : decode cX6_change 31 = .ok (.aload_n 0, 1) := by decide +kernel
theorem dX6_change_32 : decode cX6_change 32 = .ok (.ldc 55, 2) := by decide +kernel
theorem dX6_change_34 : decode cX6_change 34 = .ok (.invokevirtual 56, 3) := by decide +kernel
theorem dX6_change_37 : decode cX6_change 37 = .ok (.ireturn, 1) := by decide +kernel
theorem dX6_change_38 : decode cX6_change 38 = .ok (.aload_n 0, 1) := by decide +kernel
theorem dX6_change_39 : decode cX6_change 39 = .ok (.getfield 12, 3) := by decide +kernel
theorem dX6_change_42 : decode cX6_change 42 = .ok (.getfield 72, 3) := by decide +kernel
theorem dX6_change_45 : decode cX6_change 45 = .ok (.iload_n 1, 1) := by decide +kernel
theorem dX6_change_46 : decode cX6_change 46 = .ok (.aaload, 1) := by decide +kernel
theorem dX6_change_47 : decode cX6_change 47 = .ok (.iload_n 2, 1) := by decide +kernel
theorem dX6_change_48 : decode cX6_change 48 = .ok (.invokevirtual 76, 3) := by decide +kernel
theorem dX6_change_51 : decode cX6_change 51 = .ok (.istore 4, 2) := by decide +kernel
theorem dX6_change_53 : decode cX6_change 53 = .ok (.aload_n 0, 1) := by decide +kernel
theorem dX6_change_54 : decode cX6_change 54 = .ok (.getfield 12, 3) := by decide +kernel
theorem dX6_change_57 : decode cX6_change 57 = .ok (.getfield 72, 3) := by decide +kernel
theorem dX6_change_60 : decode cX6_change 60 = .ok (.iload_n 1, 1) := by decide +kernel
theorem dX6_change_61 : decode cX6_change 61 = .ok (.aaload, 1) := by decide +kernel
theorem dX6_change_62 : decode cX6_change 62 = .ok (.iload_n 2, 1) := by decide +kernel
theorem dX6_change_63 : decode cX6_change 63 = .ok (.iload_n 3, 1) := by decide +kernel
theorem dX6_change_64 : decode cX6_change 64 = .ok (.invokevirtual 84, 3) := by decide +kernel
theorem dX6_change_67 : decode cX6_change 67 = .ok (.iload 4, 2) := by decide +kernel
theorem dX6_change_69 : decode cX6_change 69 = .ok (.ireturn, 1) := by decide +kernel
theorem dX6_motion_0 : decode cX6_motion 0 = .ok (.iload_n 1, 1) := by decide +kernel
theorem dX6_motion_1 : decode cX6_motion 1 = .ok (.iconst 3, 1) := by decide +kernel
theorem dX6_motion_2 : decode cX6_motion 2 = .ok (.invokestatic 51, 3) := by decide +kernel
theorem dX6_motion_5 : decode cX6_motion 5 = .ok (.ifCond .ne 10, 3) := by decide +kernel
theorem dX6_motion_8 : decode cX6_motion 8 = .ok (.aload_n 0, 1) := by decide +kernel
theorem dX6_motion_9 : decode cX6_motion 9 = .ok (.ldc 55, 2) := by decide +kernel
theorem dX6_motion_11 : decode cX6_motion 11 = .ok (.invokevirtual 56, 3) := by decide +kernel
theorem dX6_motion_14 : decode cX6_motion 14 = .ok (.ireturn, 1) := by decide +kernel
theorem dX6_motion_15 : decode cX6_motion 15 = .ok (.aload_n 0, 1) := by decide +kernel
theorem dX6_motion_16 : decode cX6_motion 16 = .ok (.getfield 12, 3) := by decide +kernel
theorem dX6_motion_19 : decode cX6_motion 19 = .ok (.getfield 88, 3) := by decide +kernel
theorem dX6_motion_22 : decode cX6_motion 22 = .ok (.bipush 8, 2) := by decide +kernel
theorem dX6_motion_24 : decode cX6_motion 24 = .ok (.if_icmp .lt 10, 3) := by decide +kernel
theorem dX6_motion_27 : decode cX6_motion 27 = .ok (.aload_n 0, 1) := by decide +kernel
theorem dX6_motion_28 : decode cX6_motion 28 = .ok (.ldc 64, 2) := by decide +kernel
theorem dX6_motion_30 : decode cX6_motion 30 = .ok (.invokevirtual 56, 3) := by decide +kernel
theorem dX6_motion_33 : decode cX6_motion 33 = .ok (.ireturn, 1) := by decide +kernel
theorem dX6_motion_34 : decode cX6_motion 34 = .ok (.aload_n 0, 1) := by decide +kernel
theorem dX6_motion_35 : decode cX6_motion 35 = .ok (.getfield 12, 3) := by decide +kernel
theorem dX6_motion_38 : decode cX6_motion 38 = .ok (.iload_n 1, 1) := by decide +kernel
theorem dX6_motion_39 : decode cX6_motion 39 = .ok (.invokevirtual 91, 3) := by decide +kernel
theorem dX6_motion_42 : decode cX6_motion 42 = .ok (.ireturn, 1) := by decide +kernel
theorem dX6_told_0 : decode cX6_told 0 = .ok (.aload_n 0, 1) := by decide +kernel
theorem dX6_told_1 : decode cX6_told 1 = .ok (.getfield 12, 3) := by decide +kernel
theorem dX6_told_4 : decode cX6_told 4 = .ok (.iload_n 1, 1) := by decide +kernel
theorem dX6_told_5 : decode cX6_told 5 = .ok (.invokevirtual 94, 3) := by decide +kernel
theorem dX6_told_8 : decode cX6_told 8 = .ok (.ifCond .eq 11, 3) := by decide +kernel
theorem dX6_told_11 : decode cX6_told 11 = .ok (.iload_n 2, 1) := by decide +kernel
theorem dX6_told_12 : decode cX6_told 12 = .ok (.iconst 4, 1) := by decide +kernel
theorem dX6_told_13 : decode cX6_told 13 = .ok (.invokestatic 51, 3) := by decide +kernel
theorem dX6_told_16 : decode cX6_told 16 = .ok (.ifCond .ne 10, 3) := by decide +kernel
theorem dX6_told_19 : decode cX6_told 19 = .ok (.aload_n 0, 1) := by decide +kernel
theorem dX6_told_20 : decode cX6_told 20 = .ok (.ldc 55, 2) := by decide +kernel
theorem dX6_told_22 : decode cX6_told 22 = .ok (.invokevirtual 56, 3) := by decide +kernel
theorem dX6_told_25 : decode cX6_told 25 = .ok (.ireturn, 1) := by decide +kernel
theorem dX6_told_26 : decode cX6_told 26 = .ok (.aload_n 0, 1) := by decide +kernel
theorem dX6_told_27 : decode cX6_told 27 = .ok (.getfield 12, 3) := by decide +kernel
theorem dX6_told_30 : decode cX6_told 30 = .ok (.getfield 97, 3) := by decide +kernel
theorem dX6_told_33 : decode cX6_told 33 = .ok (.iload_n 1, 1) := by decide +kernel
theorem dX6_told_34 : decode cX6_told 34 = .ok (.aaload, 1) := by decide +kernel
theorem dX6_told_35 : decode cX6_told 35 = .ok (.iload_n 2, 1) := by decide +kernel
theorem dX6_told_36 : decode cX6_told 36 = .ok (.invokevirtual 101, 3) := by decide +kernel
theorem dX6_told_39 : decode cX6_told 39 = .ok (.ireturn, 1) := by decide +kernel
theorem dX6_tell_0 : decode cX6_tell 0 = .ok (.aload_n 0, 1) := by decide +kernel
theorem dX6_tell_1 : decode cX6_tell 1 = .ok (.getfield 12, 3) := by decide +kernel
theorem dX6_tell_4 : decode cX6_tell 4 = .ok (.iload_n 1, 1) := by decide +kernel
theorem dX6_tell_5 : decode cX6_tell 5 = .ok (.invokevirtual 94, 3) := by decide +kernel
theorem dX6_tell_8 : decode cX6_tell 8 = .ok (.ifCond .eq 29, 3) := by decide +kernel
theorem dX6_tell_11 : decode cX6_tell 11 = .ok (.iload_n 2, 1) := by decide +kernel
theorem dX6_tell_12 : decode cX6_tell 12 = .ok (.iconst 4, 1) := by decide +kernel
theorem dX6_tell_13 : decode cX6_tell 13 = .ok (.invokestatic 51, 3) := by decide +kernel
theorem dX6_tell_16 : decode cX6_tell 16 = .ok (.ifCond .eq 21, 3) := by decide +kernel
theorem dX6_tell_19 : decode cX6_tell 19 = .ok (.iload_n 3, 1) := by decide +kernel
theorem dX6_tell_20 : decode cX6_tell 20 = .ok (.iload_n 2, 1) := by decide +kernel
theorem dX6_tell_21 : decode cX6_tell 21 = .ok (.aload_n 0, 1) := by decide +kernel
theorem dX6_tell_22 : decode cX6_tell 22 = .ok (.getfield 12, 3) := by decide +kernel
theorem dX6_tell_25 : decode cX6_tell 25 = .ok (.invokevirtual 104, 3) := by decide +kernel
theorem dX6_tell_28 : decode cX6_tell 28 = .ok (.invokestatic 108, 3) := by decide +kernel
theorem dX6_tell_31 : decode cX6_tell 31 = .ok (.invokestatic 51, 3) := by decide +kernel
theorem dX6_tell_34 : decode cX6_tell 34 = .ok (.ifCond .ne 10, 3) := by decide +kernel
theorem dX6_tell_37 : decode cX6_tell 37 = .ok (.aload_n 0, 1) := by decide +kernel
theorem dX6_tell_38 : decode cX6_tell 38 = .ok (.ldc 55, 2) := by decide +kernel
theorem dX6_tell_40 : decode cX6_tell 40 = .ok (.invokevirtual 56, 3) := by decide +kernel
theorem dX6_tell_43 : decode cX6_tell 43 = .ok (.ireturn, 1) := by decide +kernel
theorem dX6_tell_44 : decode cX6_tell 44 = .ok (.aload_n 0, 1) := by decide +kernel
theorem dX6_tell_45 : decode cX6_tell 45 = .ok (.getfield 12, 3) := by decide +kernel
theorem dX6_tell_48 : decode cX6_tell 48 = .ok (.getfield 97, 3) := by decide +kernel
theorem dX6_tell_51 : decode cX6_tell 51 = .ok (.iload_n 1, 1) := by decide +kernel
theorem dX6_tell_52 : decode cX6_tell 52 = .ok (.aaload, 1) := by decide +kernel
theorem dX6_tell_53 : decode cX6_tell 53 = .ok (.iload_n 2, 1) := by decide +kernel
theorem dX6_tell_54 : decode cX6_tell 54 = .ok (.invokevirtual 101, 3) := by decide +kernel
theorem dX6_tell_57 : decode cX6_tell 57 = .ok (.istore 4, 2) := by decide +kernel
theorem dX6_tell_59 : decode cX6_tell 59 = .ok (.aload_n 0, 1) := by decide +kernel
theorem dX6_tell_60 : decode cX6_tell 60 = .ok (.getfield 12, 3) := by decide +kernel
theorem dX6_tell_63 : decode cX6_tell 63 = .ok (.getfield 97, 3) := by decide +kernel
theorem dX6_tell_66 : decode cX6_tell 66 = .ok (.iload_n 1, 1) := by decide +kernel
theorem dX6_tell_67 : decode cX6_tell 67 = .ok (.aaload, 1) := by decide +kernel
theorem dX6_tell_68 : decode cX6_tell 68 = .ok (.iload_n 2, 1) := by decide +kernel
theorem dX6_tell_69 : decode cX6_tell 69 = .ok (.iload_n 3, 1) := by decide +kernel
theorem dX6_tell_70 : decode cX6_tell 70 = .ok (.invokevirtual 111, 3) := by decide +kernel
theorem dX6_tell_73 : decode cX6_tell 73 = .ok (.iload 4, 2) := by decide +kernel
theorem dX6_tell_75 : decode cX6_tell 75 = .ok (.ireturn, 1) := by decide +kernel
theorem dX6_drops_0 : decode cX6_drops 0 = .ok (.aload_n 0, 1) := by decide +kernel
theorem dX6_drops_1 : decode cX6_drops 1 = .ok (.getfield 12, 3) := by decide +kernel
theorem dX6_drops_4 : decode cX6_drops 4 = .ok (.iload_n 1, 1) := by decide +kernel
theorem dX6_drops_5 : decode cX6_drops 5 = .ok (.invokevirtual 68, 3) := by decide +kernel
theorem dX6_drops_8 : decode cX6_drops 8 = .ok (.ifCond .eq 14, 3) := by decide +kernel
theorem dX6_drops_11 : decode cX6_drops 11 = .ok (.aload_n 0, 1) := by decide +kernel
theorem dX6_drops_12 : decode cX6_drops 12 = .ok (.getfield 12, 3) := by decide +kernel
theorem dX6_drops_15 : decode cX6_drops 15 = .ok (.iload_n 2, 1) := by decide +kernel
theorem dX6_drops_16 : decode cX6_drops 16 = .ok (.invokevirtual 94, 3) := by decide +kernel
theorem dX6_drops_19 : decode cX6_drops 19 = .ok (.ifCond .ne 10, 3) := by decide +kernel
theorem dX6_drops_22 : decode cX6_drops 22 = .ok (.aload_n 0, 1) := by decide +kernel
theorem dX6_drops_23 : decode cX6_drops 23 = .ok (.ldc 55, 2) := by decide +kernel
theorem dX6_drops_25 : decode cX6_drops 25 = .ok (.invokevirtual 56, 3) := by decide +kernel
theorem dX6_drops_28 : decode cX6_drops 28 = .ok (.ireturn, 1) := by decide +kernel
theorem dX6_drops_29 : decode cX6_drops 29 = .ok (.aload_n 0, 1) := by decide +kernel
theorem dX6_drops_30 : decode cX6_drops 30 = .ok (.getfield 12, 3) := by decide +kernel
theorem dX6_drops_33 : decode cX6_drops 33 = .ok (.iload_n 1, 1) := by decide +kernel
theorem dX6_drops_34 : decode cX6_drops 34 = .ok (.aload_n 0, 1) := by decide +kernel
theorem dX6_drops_35 : decode cX6_drops 35 = .ok (.getfield 12, 3) := by decide +kernel
theorem dX6_drops_38 : decode cX6_drops 38 = .ok (.getfield 97, 3) := by decide +kernel
theorem dX6_drops_41 : decode cX6_drops 41 = .ok (.iload_n 2, 1) := by decide +kernel
theorem dX6_drops_42 : decode cX6_drops 42 = .ok (.aaload, 1) := by decide +kernel
theorem dX6_drops_43 : decode cX6_drops 43 = .ok (.invokevirtual 112, 3) := by decide +kernel
theorem dX6_drops_46 : decode cX6_drops 46 = .ok (.ireturn, 1) := by decide +kernel
theorem dX6_side_0 : decode cX6_side 0 = .ok (.aload_n 0, 1) := by decide +kernel
theorem dX6_side_1 : decode cX6_side 1 = .ok (.getfield 12, 3) := by decide +kernel
theorem dX6_side_4 : decode cX6_side 4 = .ok (.iload_n 1, 1) := by decide +kernel
theorem dX6_side_5 : decode cX6_side 5 = .ok (.invokevirtual 94, 3) := by decide +kernel
theorem dX6_side_8 : decode cX6_side 8 = .ok (.ifCond .eq 11, 3) := by decide +kernel
theorem dX6_side_11 : decode cX6_side 11 = .ok (.iload_n 2, 1) := by decide +kernel
theorem dX6_side_12 : decode cX6_side 12 = .ok (.iconst 1, 1) := by decide +kernel
theorem dX6_side_13 : decode cX6_side 13 = .ok (.invokestatic 51, 3) := by decide +kernel
theorem dX6_side_16 : decode cX6_side 16 = .ok (.ifCond .ne 10, 3) := by decide +kernel
theorem dX6_side_19 : decode cX6_side 19 = .ok (.aload_n 0, 1) := by decide +kernel
theorem dX6_side_20 : decode cX6_side 20 = .ok (.ldc 55, 2) := by decide +kernel
theorem dX6_side_22 : decode cX6_side 22 = .ok (.invokevirtual 56, 3) := by decide +kernel
theorem dX6_side_25 : decode cX6_side 25 = .ok (.ireturn, 1) := by decide +kernel
theorem dX6_side_26 : decode cX6_side 26 = .ok (.iload_n 2, 1) := by decide +kernel
theorem dX6_side_27 : decode cX6_side 27 = .ok (.iconst 1, 1) := by decide +kernel
theorem dX6_side_28 : decode cX6_side 28 = .ok (.if_icmp .ne 22, 3) := by decide +kernel
theorem dX6_side_31 : decode cX6_side 31 = .ok (.aload_n 0, 1) := by decide +kernel
theorem dX6_side_32 : decode cX6_side 32 = .ok (.getfield 12, 3) := by decide +kernel
theorem dX6_side_35 : decode cX6_side 35 = .ok (.aload_n 0, 1) := by decide +kernel
theorem dX6_side_36 : decode cX6_side 36 = .ok (.getfield 12, 3) := by decide +kernel
theorem dX6_side_39 : decode cX6_side 39 = .ok (.getfield 97, 3) := by decide +kernel
theorem dX6_side_42 : decode cX6_side 42 = .ok (.iload_n 1, 1) := by decide +kernel
theorem dX6_side_43 : decode cX6_side 43 = .ok (.aaload, 1) := by decide +kernel
theorem dX6_side_44 : decode cX6_side 44 = .ok (.invokevirtual 116, 3) := by decide +kernel
theorem dX6_side_47 : decode cX6_side 47 = .ok (.goto 19, 3) := by decide +kernel
theorem dX6_side_50 : decode cX6_side 50 = .ok (.aload_n 0, 1) := by decide +kernel
theorem dX6_side_51 : decode cX6_side 51 = .ok (.getfield 12, 3) := by decide +kernel
theorem dX6_side_54 : decode cX6_side 54 = .ok (.aload_n 0, 1) := by decide +kernel
theorem dX6_side_55 : decode cX6_side 55 = .ok (.getfield 12, 3) := by decide +kernel
theorem dX6_side_58 : decode cX6_side 58 = .ok (.getfield 97, 3) := by decide +kernel
theorem dX6_side_61 : decode cX6_side 61 = .ok (.iload_n 1, 1) := by decide +kernel
theorem dX6_side_62 : decode cX6_side 62 = .ok (.aaload, 1) := by decide +kernel
theorem dX6_side_63 : decode cX6_side 63 = .ok (.invokevirtual 120, 3) := by decide +kernel
theorem dX6_side_66 : decode cX6_side 66 = .ok (.ireturn, 1) := by decide +kernel
theorem dX6_passes_0 : decode cX6_passes 0 = .ok (.aload_n 0, 1) := by decide +kernel
theorem dX6_passes_1 : decode cX6_passes 1 = .ok (.getfield 12, 3) := by decide +kernel
theorem dX6_passes_4 : decode cX6_passes 4 = .ok (.iload_n 1, 1) := by decide +kernel
theorem dX6_passes_5 : decode cX6_passes 5 = .ok (.invokevirtual 94, 3) := by decide +kernel
theorem dX6_passes_8 : decode cX6_passes 8 = .ok (.ifCond .ne 10, 3) := by decide +kernel
theorem dX6_passes_11 : decode cX6_passes 11 = .ok (.aload_n 0, 1) := by decide +kernel
theorem dX6_passes_12 : decode cX6_passes 12 = .ok (.ldc 55, 2) := by decide +kernel
theorem dX6_passes_14 : decode cX6_passes 14 = .ok (.invokevirtual 56, 3) := by decide +kernel
theorem dX6_passes_17 : decode cX6_passes 17 = .ok (.ireturn, 1) := by decide +kernel
theorem dX6_passes_18 : decode cX6_passes 18 = .ok (.aload_n 0, 1) := by decide +kernel
theorem dX6_passes_19 : decode cX6_passes 19 = .ok (.getfield 12, 3) := by decide +kernel
theorem dX6_passes_22 : decode cX6_passes 22 = .ok (.aload_n 0, 1) := by decide +kernel
theorem dX6_passes_23 : decode cX6_passes 23 = .ok (.getfield 12, 3) := by decide +kernel
theorem dX6_passes_26 : decode cX6_passes 26 = .ok (.getfield 97, 3) := by decide +kernel
theorem dX6_passes_29 : decode cX6_passes 29 = .ok (.iload_n 1, 1) := by decide +kernel
theorem dX6_passes_30 : decode cX6_passes 30 = .ok (.aaload, 1) := by decide +kernel
theorem dX6_passes_31 : decode cX6_passes 31 = .ok (.invokevirtual 123, 3) := by decide +kernel
theorem dX6_passes_34 : decode cX6_passes 34 = .ok (.ifCond .eq 7, 3) := by decide +kernel
theorem dX6_passes_37 : decode cX6_passes 37 = .ok (.iconst 1, 1) := by decide +kernel
theorem dX6_passes_38 : decode cX6_passes 38 = .ok (.goto 4, 3) := by decide +kernel
theorem dX6_passes_41 : decode cX6_passes 41 = .ok (.iconst 0, 1) := by decide +kernel
theorem dX6_passes_42 : decode cX6_passes 42 = .ok (.ireturn, 1) := by decide +kernel
theorem dX6_vote_0 : decode cX6_vote 0 = .ok (.aload_n 0, 1) := by decide +kernel
theorem dX6_vote_1 : decode cX6_vote 1 = .ok (.getfield 12, 3) := by decide +kernel
theorem dX6_vote_4 : decode cX6_vote 4 = .ok (.iload_n 1, 1) := by decide +kernel
theorem dX6_vote_5 : decode cX6_vote 5 = .ok (.invokevirtual 94, 3) := by decide +kernel
theorem dX6_vote_8 : decode cX6_vote 8 = .ok (.ifCond .ne 10, 3) := by decide +kernel
theorem dX6_vote_11 : decode cX6_vote 11 = .ok (.aload_n 0, 1) := by decide +kernel
theorem dX6_vote_12 : decode cX6_vote 12 = .ok (.ldc 55, 2) := by decide +kernel
theorem dX6_vote_14 : decode cX6_vote 14 = .ok (.invokevirtual 56, 3) := by decide +kernel
theorem dX6_vote_17 : decode cX6_vote 17 = .ok (.ireturn, 1) := by decide +kernel
theorem dX6_vote_18 : decode cX6_vote 18 = .ok (.aload_n 0, 1) := by decide +kernel
theorem dX6_vote_19 : decode cX6_vote 19 = .ok (.getfield 12, 3) := by decide +kernel
theorem dX6_vote_22 : decode cX6_vote 22 = .ok (.aload_n 0, 1) := by decide +kernel
theorem dX6_vote_23 : decode cX6_vote 23 = .ok (.getfield 12, 3) := by decide +kernel
theorem dX6_vote_26 : decode cX6_vote 26 = .ok (.getfield 97, 3) := by decide +kernel
theorem dX6_vote_29 : decode cX6_vote 29 = .ok (.iload_n 1, 1) := by decide +kernel
theorem dX6_vote_30 : decode cX6_vote 30 = .ok (.aaload, 1) := by decide +kernel
theorem dX6_vote_31 : decode cX6_vote 31 = .ok (.invokevirtual 127, 3) := by decide +kernel
theorem dX6_vote_34 : decode cX6_vote 34 = .ok (.ifCond .eq 7, 3) := by decide +kernel
theorem dX6_vote_37 : decode cX6_vote 37 = .ok (.iconst 1, 1) := by decide +kernel
theorem dX6_vote_38 : decode cX6_vote 38 = .ok (.goto 4, 3) := by decide +kernel
theorem dX6_vote_41 : decode cX6_vote 41 = .ok (.iconst 0, 1) := by decide +kernel
theorem dX6_vote_42 : decode cX6_vote 42 = .ok (.ireturn, 1) := by decide +kernel
theorem dX6_seasons_0 : decode cX6_seasons 0 = .ok (.iload_n 1, 1) := by decide +kernel
theorem dX6_seasons_1 : decode cX6_seasons 1 = .ok (.iconst 1, 1) := by decide +kernel
theorem dX6_seasons_2 : decode cX6_seasons 2 = .ok (.if_icmp .lt 9, 3) := by decide +kernel
theorem dX6_seasons_5 : decode cX6_seasons 5 = .ok (.iload_n 1, 1) := by decide +kernel
theorem dX6_seasons_6 : decode cX6_seasons 6 = .ok (.bipush 40, 2) := by decide +kernel
theorem dX6_seasons_8 : decode cX6_seasons 8 = .ok (.if_icmp .le 10, 3) := by decide +kernel
theorem dX6_seasons_11 : decode cX6_seasons 11 = .ok (.aload_n 0, 1) := by decide +kernel
theorem dX6_seasons_12 : decode cX6_seasons 12 = .ok (.ldc 55, 2) := by decide +kernel
theorem dX6_seasons_14 : decode cX6_seasons 14 = .ok (.invokevirtual 56, 3) := by decide +kernel
theorem dX6_seasons_17 : decode cX6_seasons 17 = .ok (.ireturn, 1) := by decide +kernel
theorem dX6_seasons_18 : decode cX6_seasons 18 = .ok (.aload_n 0, 1) := by decide +kernel
theorem dX6_seasons_19 : decode cX6_seasons 19 = .ok (.getfield 12, 3) := by decide +kernel
theorem dX6_seasons_22 : decode cX6_seasons 22 = .ok (.getfield 130, 3) := by decide +kernel
theorem dX6_seasons_25 : decode cX6_seasons 25 = .ok (.iload_n 1, 1) := by decide +kernel
theorem dX6_seasons_26 : decode cX6_seasons 26 = .ok (.iadd, 1) := by decide +kernel
theorem dX6_seasons_27 : decode cX6_seasons 27 = .ok (.ldc 133, 2) := by decide +kernel
theorem dX6_seasons_29 : decode cX6_seasons 29 = .ok (.if_icmp .le 10, 3) := by decide +kernel
theorem dX6_seasons_32 : decode cX6_seasons 32 = .ok (.aload_n 0, 1) := by decide +kernel
theorem dX6_seasons_33 : decode cX6_seasons 33 = .ok (.ldc 134, 2) := by decide +kernel
theorem dX6_seasons_35 : decode cX6_seasons 35 = .ok (.invokevirtual 56, 3) := by decide +kernel
theorem dX6_seasons_38 : decode cX6_seasons 38 = .ok (.ireturn, 1) := by decide +kernel
theorem dX6_seasons_39 : decode cX6_seasons 39 = .ok (.iconst 0, 1) := by decide +kernel
theorem dX6_seasons_40 : decode cX6_seasons 40 = .ok (.istore_n 2, 1) := by decide +kernel
theorem dX6_seasons_41 : decode cX6_seasons 41 = .ok (.iload_n 2, 1) := by decide +kernel
theorem dX6_seasons_42 : decode cX6_seasons 42 = .ok (.iload_n 1, 1) := by decide +kernel
theorem dX6_seasons_43 : decode cX6_seasons 43 = .ok (.if_icmp .ge 16, 3) := by decide +kernel
theorem dX6_seasons_46 : decode cX6_seasons 46 = .ok (.aload_n 0, 1) := by decide +kernel
theorem dX6_seasons_47 : decode cX6_seasons 47 = .ok (.getfield 12, 3) := by decide +kernel
theorem dX6_seasons_50 : decode cX6_seasons 50 = .ok (.invokevirtual 135, 3) := by decide +kernel
theorem dX6_seasons_53 : decode cX6_seasons 53 = .ok (.iinc 2 1, 3) := by decide +kernel
theorem dX6_seasons_56 : decode cX6_seasons 56 = .ok (.goto (-15), 3) := by decide +kernel
theorem dX6_seasons_59 : decode cX6_seasons 59 = .ok (.aload_n 0, 1) := by decide +kernel
theorem dX6_seasons_60 : decode cX6_seasons 60 = .ok (.getfield 12, 3) := by decide +kernel
theorem dX6_seasons_63 : decode cX6_seasons 63 = .ok (.invokevirtual 138, 3) := by decide +kernel
theorem dX6_seasons_66 : decode cX6_seasons 66 = .ok (.ireturn, 1) := by decide +kernel
theorem dX6_now_0 : decode cX6_now 0 = .ok (.iload_n 1, 1) := by decide +kernel
theorem dX6_now_1 : decode cX6_now 1 = .ok (.bipush 7, 2) := by decide +kernel
theorem dX6_now_3 : decode cX6_now 3 = .ok (.invokestatic 51, 3) := by decide +kernel
theorem dX6_now_6 : decode cX6_now 6 = .ok (.ifCond .ne 10, 3) := by decide +kernel
theorem dX6_now_9 : decode cX6_now 9 = .ok (.aload_n 0, 1) := by decide +kernel
theorem dX6_now_10 : decode cX6_now 10 = .ok (.ldc 55, 2) := by decide +kernel
theorem dX6_now_12 : decode cX6_now 12 = .ok (.invokevirtual 56, 3) := by decide +kernel
theorem dX6_now_15 : decode cX6_now 15 = .ok (.ireturn, 1) := by decide +kernel
theorem dX6_now_16 : decode cX6_now 16 = .ok (.iload_n 1, 1) := by decide +kernel
theorem dX6_now_17 : decode cX6_now 17 = .ok (.tableswitch 63 0 3 #[31, 39, 47, 55], 31) := by decide +kernel
theorem dX6_now_48 : decode cX6_now 48 = .ok (.aload_n 0, 1) := by decide +kernel
theorem dX6_now_49 : decode cX6_now 49 = .ok (.getfield 12, 3) := by decide +kernel
theorem dX6_now_52 : decode cX6_now 52 = .ok (.getfield 130, 3) := by decide +kernel
theorem dX6_now_55 : decode cX6_now 55 = .ok (.ireturn, 1) := by decide +kernel
theorem dX6_now_56 : decode cX6_now 56 = .ok (.aload_n 0, 1) := by decide +kernel
theorem dX6_now_57 : decode cX6_now 57 = .ok (.getfield 12, 3) := by decide +kernel
theorem dX6_now_60 : decode cX6_now 60 = .ok (.invokevirtual 138, 3) := by decide +kernel
theorem dX6_now_63 : decode cX6_now 63 = .ok (.ireturn, 1) := by decide +kernel
theorem dX6_now_64 : decode cX6_now 64 = .ok (.aload_n 0, 1) := by decide +kernel
theorem dX6_now_65 : decode cX6_now 65 = .ok (.getfield 12, 3) := by decide +kernel
theorem dX6_now_68 : decode cX6_now 68 = .ok (.invokevirtual 141, 3) := by decide +kernel
theorem dX6_now_71 : decode cX6_now 71 = .ok (.ireturn, 1) := by decide +kernel
theorem dX6_now_72 : decode cX6_now 72 = .ok (.aload_n 0, 1) := by decide +kernel
theorem dX6_now_73 : decode cX6_now 73 = .ok (.getfield 12, 3) := by decide +kernel
theorem dX6_now_76 : decode cX6_now 76 = .ok (.invokevirtual 144, 3) := by decide +kernel
theorem dX6_now_79 : decode cX6_now 79 = .ok (.ireturn, 1) := by decide +kernel
theorem dX6_now_80 : decode cX6_now 80 = .ok (.aload_n 0, 1) := by decide +kernel
theorem dX6_now_81 : decode cX6_now 81 = .ok (.getfield 12, 3) := by decide +kernel
theorem dX6_now_84 : decode cX6_now 84 = .ok (.getfield 147, 3) := by decide +kernel
theorem dX6_now_87 : decode cX6_now 87 = .ok (.iload_n 1, 1) := by decide +kernel
theorem dX6_now_88 : decode cX6_now 88 = .ok (.iconst 4, 1) := by decide +kernel
theorem dX6_now_89 : decode cX6_now 89 = .ok (.isub, 1) := by decide +kernel
theorem dX6_now_90 : decode cX6_now 90 = .ok (.iaload, 1) := by decide +kernel
theorem dX6_now_91 : decode cX6_now 91 = .ok (.ireturn, 1) := by decide +kernel
theorem dX6_clears_0 : decode cX6_clears 0 = .ok (.iconst 0, 1) := by decide +kernel
theorem dX6_clears_1 : decode cX6_clears 1 = .ok (.istore_n 1, 1) := by decide +kernel
theorem dX6_clears_2 : decode cX6_clears 2 = .ok (.iconst 0, 1) := by decide +kernel
theorem dX6_clears_3 : decode cX6_clears 3 = .ok (.istore_n 2, 1) := by decide +kernel
theorem dX6_clears_4 : decode cX6_clears 4 = .ok (.iload_n 2, 1) := by decide +kernel
theorem dX6_clears_5 : decode cX6_clears 5 = .ok (.iconst 4, 1) := by decide +kernel
theorem dX6_clears_6 : decode cX6_clears 6 = .ok (.if_icmp .ge 31, 3) := by decide +kernel
theorem dX6_clears_9 : decode cX6_clears 9 = .ok (.iload_n 1, 1) := by decide +kernel
theorem dX6_clears_10 : decode cX6_clears 10 = .ok (.aload_n 0, 1) := by decide +kernel
theorem dX6_clears_11 : decode cX6_clears 11 = .ok (.getfield 12, 3) := by decide +kernel
theorem dX6_clears_14 : decode cX6_clears 14 = .ok (.getfield 147, 3) := by decide +kernel
theorem dX6_clears_17 : decode cX6_clears 17 = .ok (.iload_n 2, 1) := by decide +kernel
theorem dX6_clears_18 : decode cX6_clears 18 = .ok (.iaload, 1) := by decide +kernel
theorem dX6_clears_19 : decode cX6_clears 19 = .ok (.iadd, 1) := by decide +kernel
theorem dX6_clears_20 : decode cX6_clears 20 = .ok (.istore_n 1, 1) := by decide +kernel
theorem dX6_clears_21 : decode cX6_clears 21 = .ok (.aload_n 0, 1) := by decide +kernel
theorem dX6_clears_22 : decode cX6_clears 22 = .ok (.getfield 12, 3) := by decide +kernel
theorem dX6_clears_25 : decode cX6_clears 25 = .ok (.getfield 147, 3) := by decide +kernel
theorem dX6_clears_28 : decode cX6_clears 28 = .ok (.iload_n 2, 1) := by decide +kernel
theorem dX6_clears_29 : decode cX6_clears 29 = .ok (.iconst 0, 1) := by decide +kernel
theorem dX6_clears_30 : decode cX6_clears 30 = .ok (.iastore, 1) := by decide +kernel
theorem dX6_clears_31 : decode cX6_clears 31 = .ok (.iinc 2 1, 3) := by decide +kernel
theorem dX6_clears_34 : decode cX6_clears 34 = .ok (.goto (-30), 3) := by decide +kernel
theorem dX6_clears_37 : decode cX6_clears 37 = .ok (.iload_n 1, 1) := by decide +kernel
theorem dX6_clears_38 : decode cX6_clears 38 = .ok (.ireturn, 1) := by decide +kernel
theorem dX6_when_0 : decode cX6_when 0 = .ok (.aload_n 0, 1) := by decide +kernel
theorem dX6_when_1 : decode cX6_when 1 = .ok (.getfield 12, 3) := by decide +kernel
theorem dX6_when_4 : decode cX6_when 4 = .ok (.iload_n 1, 1) := by decide +kernel
theorem dX6_when_5 : decode cX6_when 5 = .ok (.invokevirtual 94, 3) := by decide +kernel
theorem dX6_when_8 : decode cX6_when 8 = .ok (.ifCond .ne 10, 3) := by decide +kernel
theorem dX6_when_11 : decode cX6_when 11 = .ok (.aload_n 0, 1) := by decide +kernel
theorem dX6_when_12 : decode cX6_when 12 = .ok (.ldc 55, 2) := by decide +kernel
theorem dX6_when_14 : decode cX6_when 14 = .ok (.invokevirtual 56, 3) := by decide +kernel
theorem dX6_when_17 : decode cX6_when 17 = .ok (.ireturn, 1) := by decide +kernel
theorem dX6_when_18 : decode cX6_when 18 = .ok (.aload_n 0, 1) := by decide +kernel
theorem dX6_when_19 : decode cX6_when 19 = .ok (.getfield 16, 3) := by decide +kernel
theorem dX6_when_22 : decode cX6_when 22 = .ok (.aload_n 0, 1) := by decide +kernel
theorem dX6_when_23 : decode cX6_when 23 = .ok (.getfield 12, 3) := by decide +kernel
theorem dX6_when_26 : decode cX6_when 26 = .ok (.invokevirtual 150, 3) := by decide +kernel
theorem dX6_when_29 : decode cX6_when 29 = .ok (.iconst 0, 1) := by decide +kernel
theorem dX6_when_30 : decode cX6_when 30 = .ok (.istore_n 2, 1) := by decide +kernel
theorem dX6_when_31 : decode cX6_when 31 = .ok (.iload_n 2, 1) := by decide +kernel
theorem dX6_when_32 : decode cX6_when 32 = .ok (.sipush 200, 3) := by decide +kernel
theorem dX6_when_35 : decode cX6_when 35 = .ok (.if_icmp .gt 37, 3) := by decide +kernel
theorem dX6_when_38 : decode cX6_when 38 = .ok (.aload_n 0, 1) := by decide +kernel
theorem dX6_when_39 : decode cX6_when 39 = .ok (.getfield 16, 3) := by decide +kernel
theorem dX6_when_42 : decode cX6_when 42 = .ok (.aload_n 0, 1) := by decide +kernel
theorem dX6_when_43 : decode cX6_when 43 = .ok (.getfield 16, 3) := by decide +kernel
theorem dX6_when_46 : decode cX6_when 46 = .ok (.getfield 97, 3) := by decide +kernel
theorem dX6_when_49 : decode cX6_when 49 = .ok (.iload_n 1, 1) := by decide +kernel
theorem dX6_when_50 : decode cX6_when 50 = .ok (.aaload, 1) := by decide +kernel
theorem dX6_when_51 : decode cX6_when 51 = .ok (.invokevirtual 123, 3) := by decide +kernel
theorem dX6_when_54 : decode cX6_when 54 = .ok (.ifCond .eq 5, 3) := by decide +kernel
theorem dX6_when_57 : decode cX6_when 57 = .ok (.iload_n 2, 1) := by decide +kernel
theorem dX6_when_58 : decode cX6_when 58 = .ok (.ireturn, 1) := by decide +kernel
theorem dX6_when_59 : decode cX6_when 59 = .ok (.aload_n 0, 1) := by decide +kernel
theorem dX6_when_60 : decode cX6_when 60 = .ok (.getfield 16, 3) := by decide +kernel
theorem dX6_when_63 : decode cX6_when 63 = .ok (.invokevirtual 135, 3) := by decide +kernel
theorem dX6_when_66 : decode cX6_when 66 = .ok (.iinc 2 1, 3) := by decide +kernel
theorem dX6_when_69 : decode cX6_when 69 = .ok (.goto (-38), 3) := by decide +kernel
theorem dX6_when_72 : decode cX6_when 72 = .ok (.aload_n 0, 1) := by decide +kernel
theorem dX6_when_73 : decode cX6_when 73 = .ok (.ldc 154, 2) := by decide +kernel
theorem dX6_when_75 : decode cX6_when 75 = .ok (.invokevirtual 56, 3) := by decide +kernel
theorem dX6_when_78 : decode cX6_when 78 = .ok (.ireturn, 1) := by decide +kernel
theorem dX6_flies_0 : decode cX6_flies 0 = .ok (.aload_n 0, 1) := by decide +kernel
theorem dX6_flies_1 : decode cX6_flies 1 = .ok (.getfield 12, 3) := by decide +kernel
theorem dX6_flies_4 : decode cX6_flies 4 = .ok (.iload_n 1, 1) := by decide +kernel
theorem dX6_flies_5 : decode cX6_flies 5 = .ok (.invokevirtual 68, 3) := by decide +kernel
theorem dX6_flies_8 : decode cX6_flies 8 = .ok (.ifCond .ne 10, 3) := by decide +kernel
theorem dX6_flies_11 : decode cX6_flies 11 = .ok (.aload_n 0, 1) := by decide +kernel
theorem dX6_flies_12 : decode cX6_flies 12 = .ok (.ldc 55, 2) := by decide +kernel
theorem dX6_flies_14 : decode cX6_flies 14 = .ok (.invokevirtual 56, 3) := by decide +kernel
theorem dX6_flies_17 : decode cX6_flies 17 = .ok (.ireturn, 1) := by decide +kernel
theorem dX6_flies_18 : decode cX6_flies 18 = .ok (.aload_n 0, 1) := by decide +kernel
theorem dX6_flies_19 : decode cX6_flies 19 = .ok (.getfield 16, 3) := by decide +kernel
theorem dX6_flies_22 : decode cX6_flies 22 = .ok (.aload_n 0, 1) := by decide +kernel
theorem dX6_flies_23 : decode cX6_flies 23 = .ok (.getfield 12, 3) := by decide +kernel
theorem dX6_flies_26 : decode cX6_flies 26 = .ok (.invokevirtual 150, 3) := by decide +kernel
theorem dX6_flies_29 : decode cX6_flies 29 = .ok (.iconst 0, 1) := by decide +kernel
theorem dX6_flies_30 : decode cX6_flies 30 = .ok (.istore_n 2, 1) := by decide +kernel
theorem dX6_flies_31 : decode cX6_flies 31 = .ok (.iload_n 2, 1) := by decide +kernel
theorem dX6_flies_32 : decode cX6_flies 32 = .ok (.sipush 200, 3) := by decide +kernel
theorem dX6_flies_35 : decode cX6_flies 35 = .ok (.if_icmp .gt 33, 3) := by decide +kernel
theorem dX6_flies_38 : decode cX6_flies 38 = .ok (.aload_n 0, 1) := by decide +kernel
theorem dX6_flies_39 : decode cX6_flies 39 = .ok (.getfield 16, 3) := by decide +kernel
theorem dX6_flies_42 : decode cX6_flies 42 = .ok (.getfield 72, 3) := by decide +kernel
theorem dX6_flies_45 : decode cX6_flies 45 = .ok (.iload_n 1, 1) := by decide +kernel
theorem dX6_flies_46 : decode cX6_flies 46 = .ok (.aaload, 1) := by decide +kernel
theorem dX6_flies_47 : decode cX6_flies 47 = .ok (.invokevirtual 155, 3) := by decide +kernel
theorem dX6_flies_50 : decode cX6_flies 50 = .ok (.ifCond .eq 5, 3) := by decide +kernel
theorem dX6_flies_53 : decode cX6_flies 53 = .ok (.iload_n 2, 1) := by decide +kernel
theorem dX6_flies_54 : decode cX6_flies 54 = .ok (.ireturn, 1) := by decide +kernel
theorem dX6_flies_55 : decode cX6_flies 55 = .ok (.aload_n 0, 1) := by decide +kernel
theorem dX6_flies_56 : decode cX6_flies 56 = .ok (.getfield 16, 3) := by decide +kernel
theorem dX6_flies_59 : decode cX6_flies 59 = .ok (.invokevirtual 135, 3) := by decide +kernel
theorem dX6_flies_62 : decode cX6_flies 62 = .ok (.iinc 2 1, 3) := by decide +kernel
theorem dX6_flies_65 : decode cX6_flies 65 = .ok (.goto (-34), 3) := by decide +kernel
theorem dX6_flies_68 : decode cX6_flies 68 = .ok (.aload_n 0, 1) := by decide +kernel
theorem dX6_flies_69 : decode cX6_flies 69 = .ok (.ldc 154, 2) := by decide +kernel
theorem dX6_flies_71 : decode cX6_flies 71 = .ok (.invokevirtual 56, 3) := by decide +kernel
theorem dX6_flies_74 : decode cX6_flies 74 = .ok (.ireturn, 1) := by decide +kernel
theorem dX6_plucked_0 : decode cX6_plucked 0 = .ok (.aload_n 0, 1) := by decide +kernel
theorem dX6_plucked_1 : decode cX6_plucked 1 = .ok (.getfield 12, 3) := by decide +kernel
theorem dX6_plucked_4 : decode cX6_plucked 4 = .ok (.iload_n 1, 1) := by decide +kernel
theorem dX6_plucked_5 : decode cX6_plucked 5 = .ok (.invokevirtual 94, 3) := by decide +kernel
theorem dX6_plucked_8 : decode cX6_plucked 8 = .ok (.ifCond .ne 10, 3) := by decide +kernel
theorem dX6_plucked_11 : decode cX6_plucked 11 = .ok (.aload_n 0, 1) := by decide +kernel
theorem dX6_plucked_12 : decode cX6_plucked 12 = .ok (.ldc 55, 2) := by decide +kernel
theorem dX6_plucked_14 : decode cX6_plucked 14 = .ok (.invokevirtual 56, 3) := by decide +kernel
theorem dX6_plucked_17 : decode cX6_plucked 17 = .ok (.ireturn, 1) := by decide +kernel
theorem dX6_plucked_18 : decode cX6_plucked 18 = .ok (.aload_n 0, 1) := by decide +kernel
theorem dX6_plucked_19 : decode cX6_plucked 19 = .ok (.getfield 16, 3) := by decide +kernel
theorem dX6_plucked_22 : decode cX6_plucked 22 = .ok (.aload_n 0, 1) := by decide +kernel
theorem dX6_plucked_23 : decode cX6_plucked 23 = .ok (.getfield 12, 3) := by decide +kernel
theorem dX6_plucked_26 : decode cX6_plucked 26 = .ok (.invokevirtual 150, 3) := by decide +kernel
theorem dX6_plucked_29 : decode cX6_plucked 29 = .ok (.aload_n 0, 1) := by decide +kernel
theorem dX6_plucked_30 : decode cX6_plucked 30 = .ok (.getfield 16, 3) := by decide +kernel
theorem dX6_plucked_33 : decode cX6_plucked 33 = .ok (.aload_n 0, 1) := by decide +kernel
theorem dX6_plucked_34 : decode cX6_plucked 34 = .ok (.getfield 16, 3) := by decide +kernel
theorem dX6_plucked_37 : decode cX6_plucked 37 = .ok (.getfield 97, 3) := by decide +kernel
theorem dX6_plucked_40 : decode cX6_plucked 40 = .ok (.iload_n 1, 1) := by decide +kernel
theorem dX6_plucked_41 : decode cX6_plucked 41 = .ok (.aaload, 1) := by decide +kernel
theorem dX6_plucked_42 : decode cX6_plucked 42 = .ok (.invokevirtual 127, 3) := by decide +kernel
theorem dX6_plucked_45 : decode cX6_plucked 45 = .ok (.pop, 1) := by decide +kernel
theorem dX6_plucked_46 : decode cX6_plucked 46 = .ok (.aload_n 0, 1) := by decide +kernel
theorem dX6_plucked_47 : decode cX6_plucked 47 = .ok (.getfield 12, 3) := by decide +kernel
theorem dX6_plucked_50 : decode cX6_plucked 50 = .ok (.invokevirtual 144, 3) := by decide +kernel
theorem dX6_plucked_53 : decode cX6_plucked 53 = .ok (.aload_n 0, 1) := by decide +kernel
theorem dX6_plucked_54 : decode cX6_plucked 54 = .ok (.getfield 16, 3) := by decide +kernel
theorem dX6_plucked_57 : decode cX6_plucked 57 = .ok (.invokevirtual 144, 3) := by decide +kernel
theorem dX6_plucked_60 : decode cX6_plucked 60 = .ok (.iconst (-1), 1) := by decide +kernel
theorem dX6_plucked_61 : decode cX6_plucked 61 = .ok (.ixor, 1) := by decide +kernel
theorem dX6_plucked_62 : decode cX6_plucked 62 = .ok (.iand, 1) := by decide +kernel
theorem dX6_plucked_63 : decode cX6_plucked 63 = .ok (.ireturn, 1) := by decide +kernel
theorem dX6_hinges_0 : decode cX6_hinges 0 = .ok (.aload_n 0, 1) := by decide +kernel
theorem dX6_hinges_1 : decode cX6_hinges 1 = .ok (.getfield 12, 3) := by decide +kernel
theorem dX6_hinges_4 : decode cX6_hinges 4 = .ok (.iload_n 1, 1) := by decide +kernel
theorem dX6_hinges_5 : decode cX6_hinges 5 = .ok (.invokevirtual 94, 3) := by decide +kernel
theorem dX6_hinges_8 : decode cX6_hinges 8 = .ok (.ifCond .ne 10, 3) := by decide +kernel
theorem dX6_hinges_11 : decode cX6_hinges 11 = .ok (.aload_n 0, 1) := by decide +kernel
theorem dX6_hinges_12 : decode cX6_hinges 12 = .ok (.ldc 55, 2) := by decide +kernel
theorem dX6_hinges_14 : decode cX6_hinges 14 = .ok (.invokevirtual 56, 3) := by decide +kernel
theorem dX6_hinges_17 : decode cX6_hinges 17 = .ok (.ireturn, 1) := by decide +kernel
theorem dX6_hinges_18 : decode cX6_hinges 18 = .ok (.aload_n 0, 1) := by decide +kernel
theorem dX6_hinges_19 : decode cX6_hinges 19 = .ok (.getfield 16, 3) := by decide +kernel
theorem dX6_hinges_22 : decode cX6_hinges 22 = .ok (.aload_n 0, 1) := by decide +kernel
theorem dX6_hinges_23 : decode cX6_hinges 23 = .ok (.getfield 12, 3) := by decide +kernel
theorem dX6_hinges_26 : decode cX6_hinges 26 = .ok (.invokevirtual 150, 3) := by decide +kernel
theorem dX6_hinges_29 : decode cX6_hinges 29 = .ok (.aload_n 0, 1) := by decide +kernel
theorem dX6_hinges_30 : decode cX6_hinges 30 = .ok (.getfield 12, 3) := by decide +kernel
theorem dX6_hinges_33 : decode cX6_hinges 33 = .ok (.getfield 97, 3) := by decide +kernel
theorem dX6_hinges_36 : decode cX6_hinges 36 = .ok (.iload_n 1, 1) := by decide +kernel
theorem dX6_hinges_37 : decode cX6_hinges 37 = .ok (.aaload, 1) := by decide +kernel
theorem dX6_hinges_38 : decode cX6_hinges 38 = .ok (.getfield 159, 3) := by decide +kernel
theorem dX6_hinges_41 : decode cX6_hinges 41 = .ok (.istore_n 2, 1) := by decide +kernel
theorem dX6_hinges_42 : decode cX6_hinges 42 = .ok (.aload_n 0, 1) := by decide +kernel
theorem dX6_hinges_43 : decode cX6_hinges 43 = .ok (.getfield 12, 3) := by decide +kernel
theorem dX6_hinges_46 : decode cX6_hinges 46 = .ok (.aload_n 0, 1) := by decide +kernel
theorem dX6_hinges_47 : decode cX6_hinges 47 = .ok (.getfield 12, 3) := by decide +kernel
theorem dX6_hinges_50 : decode cX6_hinges 50 = .ok (.getfield 97, 3) := by decide +kernel
theorem dX6_hinges_53 : decode cX6_hinges 53 = .ok (.iload_n 1, 1) := by decide +kernel
theorem dX6_hinges_54 : decode cX6_hinges 54 = .ok (.aaload, 1) := by decide +kernel
theorem dX6_hinges_55 : decode cX6_hinges 55 = .ok (.invokevirtual 123, 3) := by decide +kernel
theorem dX6_hinges_58 : decode cX6_hinges 58 = .ok (.istore_n 3, 1) := by decide +kernel
theorem dX6_hinges_59 : decode cX6_hinges 59 = .ok (.iconst 0, 1) := by decide +kernel
theorem dX6_hinges_60 : decode cX6_hinges 60 = .ok (.istore 4, 2) := by decide +kernel
theorem dX6_hinges_62 : decode cX6_hinges 62 = .ok (.iconst 0, 1) := by decide +kernel
theorem dX6_hinges_63 : decode cX6_hinges 63 = .ok (.istore 5, 2) := by decide +kernel
theorem dX6_hinges_65 : decode cX6_hinges 65 = .ok (.iload 5, 2) := by decide +kernel
theorem dX6_hinges_67 : decode cX6_hinges 67 = .ok (.aload_n 0, 1) := by decide +kernel
theorem dX6_hinges_68 : decode cX6_hinges 68 = .ok (.getfield 12, 3) := by decide +kernel
theorem dX6_hinges_71 : decode cX6_hinges 71 = .ok (.getfield 60, 3) := by decide +kernel
theorem dX6_hinges_74 : decode cX6_hinges 74 = .ok (.if_icmp .ge 33, 3) := by decide +kernel
theorem dX6_hinges_77 : decode cX6_hinges 77 = .ok (.aload_n 0, 1) := by decide +kernel
theorem dX6_hinges_78 : decode cX6_hinges 78 = .ok (.iload_n 1, 1) := by decide +kernel
theorem dX6_hinges_79 : decode cX6_hinges 79 = .ok (.iload_n 2, 1) := by decide +kernel
theorem dX6_hinges_80 : decode cX6_hinges 80 = .ok (.iconst 1, 1) := by decide +kernel
theorem dX6_hinges_81 : decode cX6_hinges 81 = .ok (.iload 5, 2) := by decide +kernel
theorem dX6_hinges_83 : decode cX6_hinges 83 = .ok (.ishl, 1) := by decide +kernel
theorem dX6_hinges_84 : decode cX6_hinges 84 = .ok (.ixor, 1) := by decide +kernel
theorem dX6_hinges_85 : decode cX6_hinges 85 = .ok (.invokevirtual 162, 3) := by decide +kernel
theorem dX6_hinges_88 : decode cX6_hinges 88 = .ok (.iload_n 3, 1) := by decide +kernel
theorem dX6_hinges_89 : decode cX6_hinges 89 = .ok (.if_icmp .eq 12, 3) := by decide +kernel
theorem dX6_hinges_92 : decode cX6_hinges 92 = .ok (.iload 4, 2) := by decide +kernel
theorem dX6_hinges_94 : decode cX6_hinges 94 = .ok (.iconst 1, 1) := by decide +kernel
theorem dX6_hinges_95 : decode cX6_hinges 95 = .ok (.iload 5, 2) := by decide +kernel
theorem dX6_hinges_97 : decode cX6_hinges 97 = .ok (.ishl, 1) := by decide +kernel
theorem dX6_hinges_98 : decode cX6_hinges 98 = .ok (.ior, 1) := by decide +kernel
theorem dX6_hinges_99 : decode cX6_hinges 99 = .ok (.istore 4, 2) := by decide +kernel
theorem dX6_hinges_101 : decode cX6_hinges 101 = .ok (.iinc 5 1, 3) := by decide +kernel
theorem dX6_hinges_104 : decode cX6_hinges 104 = .ok (.goto (-39), 3) := by decide +kernel
theorem dX6_hinges_107 : decode cX6_hinges 107 = .ok (.iload 4, 2) := by decide +kernel
theorem dX6_hinges_109 : decode cX6_hinges 109 = .ok (.ireturn, 1) := by decide +kernel
theorem dX6_sets_0 : decode cX6_sets 0 = .ok (.aload_n 0, 1) := by decide +kernel
theorem dX6_sets_1 : decode cX6_sets 1 = .ok (.getfield 12, 3) := by decide +kernel
theorem dX6_sets_4 : decode cX6_sets 4 = .ok (.iload_n 1, 1) := by decide +kernel
theorem dX6_sets_5 : decode cX6_sets 5 = .ok (.invokevirtual 94, 3) := by decide +kernel
theorem dX6_sets_8 : decode cX6_sets 8 = .ok (.ifCond .ne 10, 3) := by decide +kernel
theorem dX6_sets_11 : decode cX6_sets 11 = .ok (.aload_n 0, 1) := by decide +kernel
theorem dX6_sets_12 : decode cX6_sets 12 = .ok (.ldc 55, 2) := by decide +kernel
theorem dX6_sets_14 : decode cX6_sets 14 = .ok (.invokevirtual 56, 3) := by decide +kernel
theorem dX6_sets_17 : decode cX6_sets 17 = .ok (.ireturn, 1) := by decide +kernel
theorem dX6_sets_18 : decode cX6_sets 18 = .ok (.aload_n 0, 1) := by decide +kernel
theorem dX6_sets_19 : decode cX6_sets 19 = .ok (.getfield 16, 3) := by decide +kernel
theorem dX6_sets_22 : decode cX6_sets 22 = .ok (.aload_n 0, 1) := by decide +kernel
theorem dX6_sets_23 : decode cX6_sets 23 = .ok (.getfield 12, 3) := by decide +kernel
theorem dX6_sets_26 : decode cX6_sets 26 = .ok (.invokevirtual 150, 3) := by decide +kernel
theorem dX6_sets_29 : decode cX6_sets 29 = .ok (.aload_n 0, 1) := by decide +kernel
theorem dX6_sets_30 : decode cX6_sets 30 = .ok (.getfield 12, 3) := by decide +kernel
theorem dX6_sets_33 : decode cX6_sets 33 = .ok (.invokevirtual 104, 3) := by decide +kernel
theorem dX6_sets_36 : decode cX6_sets 36 = .ok (.istore_n 2, 1) := by decide +kernel
theorem dX6_sets_37 : decode cX6_sets 37 = .ok (.iconst 0, 1) := by decide +kernel
theorem dX6_sets_38 : decode cX6_sets 38 = .ok (.istore_n 3, 1) := by decide +kernel
theorem dX6_sets_39 : decode cX6_sets 39 = .ok (.iconst 0, 1) := by decide +kernel
theorem dX6_sets_40 : decode cX6_sets 40 = .ok (.istore 4, 2) := by decide +kernel
theorem dX6_sets_42 : decode cX6_sets 42 = .ok (.iload 4, 2) := by decide +kernel
theorem dX6_sets_44 : decode cX6_sets 44 = .ok (.iload_n 2, 1) := by decide +kernel
theorem dX6_sets_45 : decode cX6_sets 45 = .ok (.if_icmp .gt 22, 3) := by decide +kernel
theorem dX6_sets_48 : decode cX6_sets 48 = .ok (.aload_n 0, 1) := by decide +kernel
theorem dX6_sets_49 : decode cX6_sets 49 = .ok (.iload_n 1, 1) := by decide +kernel
theorem dX6_sets_50 : decode cX6_sets 50 = .ok (.iload 4, 2) := by decide +kernel
theorem dX6_sets_52 : decode cX6_sets 52 = .ok (.invokevirtual 162, 3) := by decide +kernel
theorem dX6_sets_55 : decode cX6_sets 55 = .ok (.ifCond .eq 6, 3) := by decide +kernel
theorem dX6_sets_58 : decode cX6_sets 58 = .ok (.iinc 3 1, 3) := by decide +kernel
theorem dX6_sets_61 : decode cX6_sets 61 = .ok (.iinc 4 1, 3) := by decide +kernel
theorem dX6_sets_64 : decode cX6_sets 64 = .ok (.goto (-22), 3) := by decide +kernel
theorem dX6_sets_67 : decode cX6_sets 67 = .ok (.iload_n 3, 1) := by decide +kernel
theorem dX6_sets_68 : decode cX6_sets 68 = .ok (.ireturn, 1) := by decide +kernel
theorem dX6_power_0 : decode cX6_power 0 = .ok (.aload_n 0, 1) := by decide +kernel
theorem dX6_power_1 : decode cX6_power 1 = .ok (.getfield 12, 3) := by decide +kernel
theorem dX6_power_4 : decode cX6_power 4 = .ok (.iload_n 1, 1) := by decide +kernel
theorem dX6_power_5 : decode cX6_power 5 = .ok (.invokevirtual 68, 3) := by decide +kernel
theorem dX6_power_8 : decode cX6_power 8 = .ok (.ifCond .eq 14, 3) := by decide +kernel
theorem dX6_power_11 : decode cX6_power 11 = .ok (.aload_n 0, 1) := by decide +kernel
theorem dX6_power_12 : decode cX6_power 12 = .ok (.getfield 12, 3) := by decide +kernel
theorem dX6_power_15 : decode cX6_power 15 = .ok (.iload_n 2, 1) := by decide +kernel
theorem dX6_power_16 : decode cX6_power 16 = .ok (.invokevirtual 94, 3) := by decide +kernel
theorem dX6_power_19 : decode cX6_power 19 = .ok (.ifCond .ne 10, 3) := by decide +kernel
theorem dX6_power_22 : decode cX6_power 22 = .ok (.aload_n 0, 1) := by decide +kernel
theorem dX6_power_23 : decode cX6_power 23 = .ok (.ldc 55, 2) := by decide +kernel
theorem dX6_power_25 : decode cX6_power 25 = .ok (.invokevirtual 56, 3) := by decide +kernel
theorem dX6_power_28 : decode cX6_power 28 = .ok (.ireturn, 1) := by decide +kernel
theorem dX6_power_29 : decode cX6_power 29 = .ok (.aload_n 0, 1) := by decide +kernel
theorem dX6_power_30 : decode cX6_power 30 = .ok (.getfield 16, 3) := by decide +kernel
theorem dX6_power_33 : decode cX6_power 33 = .ok (.aload_n 0, 1) := by decide +kernel
theorem dX6_power_34 : decode cX6_power 34 = .ok (.getfield 12, 3) := by decide +kernel
theorem dX6_power_37 : decode cX6_power 37 = .ok (.invokevirtual 150, 3) := by decide +kernel
theorem dX6_power_40 : decode cX6_power 40 = .ok (.aload_n 0, 1) := by decide +kernel
theorem dX6_power_41 : decode cX6_power 41 = .ok (.getfield 12, 3) := by decide +kernel
theorem dX6_power_44 : decode cX6_power 44 = .ok (.invokevirtual 104, 3) := by decide +kernel
theorem dX6_power_47 : decode cX6_power 47 = .ok (.istore_n 3, 1) := by decide +kernel
theorem dX6_power_48 : decode cX6_power 48 = .ok (.iconst 1, 1) := by decide +kernel
theorem dX6_power_49 : decode cX6_power 49 = .ok (.iload_n 1, 1) := by decide +kernel
theorem dX6_power_50 : decode cX6_power 50 = .ok (.ishl, 1) := by decide +kernel
theorem dX6_power_51 : decode cX6_power 51 = .ok (.istore 4, 2) := by decide +kernel
theorem dX6_power_53 : decode cX6_power 53 = .ok (.iconst 0, 1) := by decide +kernel
theorem dX6_power_54 : decode cX6_power 54 = .ok (.istore 5, 2) := by decide +kernel
theorem dX6_power_56 : decode cX6_power 56 = .ok (.iconst 0, 1) := by decide +kernel
theorem dX6_power_57 : decode cX6_power 57 = .ok (.istore 6, 2) := by decide +kernel
theorem dX6_power_59 : decode cX6_power 59 = .ok (.iload 6, 2) := by decide +kernel
theorem dX6_power_61 : decode cX6_power 61 = .ok (.iload_n 3, 1) := by decide +kernel
theorem dX6_power_62 : decode cX6_power 62 = .ok (.if_icmp .gt 45, 3) := by decide +kernel
theorem dX6_power_65 : decode cX6_power 65 = .ok (.iload 6, 2) := by decide +kernel
theorem dX6_power_67 : decode cX6_power 67 = .ok (.iload 4, 2) := by decide +kernel
theorem dX6_power_69 : decode cX6_power 69 = .ok (.iand, 1) := by decide +kernel
theorem dX6_power_70 : decode cX6_power 70 = .ok (.ifCond .eq 31, 3) := by decide +kernel
theorem dX6_power_73 : decode cX6_power 73 = .ok (.aload_n 0, 1) := by decide +kernel
theorem dX6_power_74 : decode cX6_power 74 = .ok (.iload_n 2, 1) := by decide +kernel
theorem dX6_power_75 : decode cX6_power 75 = .ok (.iload 6, 2) := by decide +kernel
theorem dX6_power_77 : decode cX6_power 77 = .ok (.invokevirtual 162, 3) := by decide +kernel
theorem dX6_power_80 : decode cX6_power 80 = .ok (.ifCond .eq 21, 3) := by decide +kernel
theorem dX6_power_83 : decode cX6_power 83 = .ok (.aload_n 0, 1) := by decide +kernel
theorem dX6_power_84 : decode cX6_power 84 = .ok (.iload_n 2, 1) := by decide +kernel
theorem dX6_power_85 : decode cX6_power 85 = .ok (.iload 6, 2) := by decide +kernel
theorem dX6_power_87 : decode cX6_power 87 = .ok (.iload 4, 2) := by decide +kernel
theorem dX6_power_89 : decode cX6_power 89 = .ok (.iconst (-1), 1) := by decide +kernel
theorem dX6_power_90 : decode cX6_power 90 = .ok (.ixor, 1) := by decide +kernel
theorem dX6_power_91 : decode cX6_power 91 = .ok (.iand, 1) := by decide +kernel
theorem dX6_power_92 : decode cX6_power 92 = .ok (.invokevirtual 162, 3) := by decide +kernel
theorem dX6_power_95 : decode cX6_power 95 = .ok (.ifCond .ne 6, 3) := by decide +kernel
theorem dX6_power_98 : decode cX6_power 98 = .ok (.iinc 5 1, 3) := by decide +kernel
theorem dX6_power_101 : decode cX6_power 101 = .ok (.iinc 6 1, 3) := by decide +kernel
theorem dX6_power_104 : decode cX6_power 104 = .ok (.goto (-45), 3) := by decide +kernel
theorem dX6_power_107 : decode cX6_power 107 = .ok (.iload 5, 2) := by decide +kernel
theorem dX6_power_109 : decode cX6_power 109 = .ok (.ireturn, 1) := by decide +kernel
theorem dX6_won_0 : decode cX6_won 0 = .ok (.aload_n 0, 1) := by decide +kernel
theorem dX6_won_1 : decode cX6_won 1 = .ok (.getfield 12, 3) := by decide +kernel
theorem dX6_won_4 : decode cX6_won 4 = .ok (.iload_n 1, 1) := by decide +kernel
theorem dX6_won_5 : decode cX6_won 5 = .ok (.invokevirtual 94, 3) := by decide +kernel
theorem dX6_won_8 : decode cX6_won 8 = .ok (.ifCond .ne 10, 3) := by decide +kernel
theorem dX6_won_11 : decode cX6_won 11 = .ok (.aload_n 0, 1) := by decide +kernel
theorem dX6_won_12 : decode cX6_won 12 = .ok (.ldc 55, 2) := by decide +kernel
theorem dX6_won_14 : decode cX6_won 14 = .ok (.invokevirtual 56, 3) := by decide +kernel
theorem dX6_won_17 : decode cX6_won 17 = .ok (.ireturn, 1) := by decide +kernel
theorem dX6_won_18 : decode cX6_won 18 = .ok (.aload_n 0, 1) := by decide +kernel
theorem dX6_won_19 : decode cX6_won 19 = .ok (.getfield 16, 3) := by decide +kernel
theorem dX6_won_22 : decode cX6_won 22 = .ok (.aload_n 0, 1) := by decide +kernel
theorem dX6_won_23 : decode cX6_won 23 = .ok (.getfield 12, 3) := by decide +kernel
theorem dX6_won_26 : decode cX6_won 26 = .ok (.invokevirtual 150, 3) := by decide +kernel
theorem dX6_won_29 : decode cX6_won 29 = .ok (.aload_n 0, 1) := by decide +kernel
theorem dX6_won_30 : decode cX6_won 30 = .ok (.getfield 12, 3) := by decide +kernel
theorem dX6_won_33 : decode cX6_won 33 = .ok (.invokevirtual 104, 3) := by decide +kernel
theorem dX6_won_36 : decode cX6_won 36 = .ok (.istore_n 2, 1) := by decide +kernel
theorem dX6_won_37 : decode cX6_won 37 = .ok (.aload_n 0, 1) := by decide +kernel
theorem dX6_won_38 : decode cX6_won 38 = .ok (.getfield 12, 3) := by decide +kernel
theorem dX6_won_41 : decode cX6_won 41 = .ok (.getfield 97, 3) := by decide +kernel
theorem dX6_won_44 : decode cX6_won 44 = .ok (.iload_n 1, 1) := by decide +kernel
theorem dX6_won_45 : decode cX6_won 45 = .ok (.aaload, 1) := by decide +kernel
theorem dX6_won_46 : decode cX6_won 46 = .ok (.getfield 159, 3) := by decide +kernel
theorem dX6_won_49 : decode cX6_won 49 = .ok (.istore_n 3, 1) := by decide +kernel
theorem dX6_won_50 : decode cX6_won 50 = .ok (.ldc 154, 2) := by decide +kernel
theorem dX6_won_52 : decode cX6_won 52 = .ok (.istore 4, 2) := by decide +kernel
theorem dX6_won_54 : decode cX6_won 54 = .ok (.bipush 9, 2) := by decide +kernel
theorem dX6_won_56 : decode cX6_won 56 = .ok (.istore 5, 2) := by decide +kernel
theorem dX6_won_58 : decode cX6_won 58 = .ok (.iconst 0, 1) := by decide +kernel
theorem dX6_won_59 : decode cX6_won 59 = .ok (.istore 6, 2) := by decide +kernel
theorem dX6_won_61 : decode cX6_won 61 = .ok (.iload 6, 2) := by decide +kernel
theorem dX6_won_63 : decode cX6_won 63 = .ok (.iload_n 2, 1) := by decide +kernel
theorem dX6_won_64 : decode cX6_won 64 = .ok (.if_icmp .gt 61, 3) := by decide +kernel
theorem dX6_won_67 : decode cX6_won 67 = .ok (.iload 6, 2) := by decide +kernel
theorem dX6_won_69 : decode cX6_won 69 = .ok (.iload_n 3, 1) := by decide +kernel
theorem dX6_won_70 : decode cX6_won 70 = .ok (.iand, 1) := by decide +kernel
theorem dX6_won_71 : decode cX6_won 71 = .ok (.ifCond .ne 17, 3) := by decide +kernel
theorem dX6_won_74 : decode cX6_won 74 = .ok (.iload 6, 2) := by decide +kernel
theorem dX6_won_76 : decode cX6_won 76 = .ok (.invokestatic 165, 3) := by decide +kernel
theorem dX6_won_79 : decode cX6_won 79 = .ok (.iload 5, 2) := by decide +kernel
theorem dX6_won_81 : decode cX6_won 81 = .ok (.if_icmp .ge 7, 3) := by decide +kernel
theorem dX6_won_84 : decode cX6_won 84 = .ok (.iconst 1, 1) := by decide +kernel
theorem dX6_won_85 : decode cX6_won 85 = .ok (.goto 4, 3) := by decide +kernel
theorem dX6_won_88 : decode cX6_won 88 = .ok (.iconst 0, 1) := by decide +kernel
theorem dX6_won_89 : decode cX6_won 89 = .ok (.istore 7, 2) := by decide +kernel
theorem dX6_won_91 : decode cX6_won 91 = .ok (.iload 7, 2) := by decide +kernel
theorem dX6_won_93 : decode cX6_won 93 = .ok (.ifCond .eq 26, 3) := by decide +kernel
theorem dX6_won_96 : decode cX6_won 96 = .ok (.aload_n 0, 1) := by decide +kernel
theorem dX6_won_97 : decode cX6_won 97 = .ok (.iload_n 1, 1) := by decide +kernel
theorem dX6_won_98 : decode cX6_won 98 = .ok (.iload_n 3, 1) := by decide +kernel
theorem dX6_won_99 : decode cX6_won 99 = .ok (.iload 6, 2) := by decide +kernel
theorem dX6_won_101 : decode cX6_won 101 = .ok (.ior, 1) := by decide +kernel
theorem dX6_won_102 : decode cX6_won 102 = .ok (.invokevirtual 162, 3) := by decide +kernel
theorem dX6_won_105 : decode cX6_won 105 = .ok (.ifCond .eq 14, 3) := by decide +kernel
theorem dX6_won_108 : decode cX6_won 108 = .ok (.iload 6, 2) := by decide +kernel
theorem dX6_won_110 : decode cX6_won 110 = .ok (.istore 4, 2) := by decide +kernel
theorem dX6_won_112 : decode cX6_won 112 = .ok (.iload 6, 2) := by decide +kernel
theorem dX6_won_114 : decode cX6_won 114 = .ok (.invokestatic 165, 3) := by decide +kernel
theorem dX6_won_117 : decode cX6_won 117 = .ok (.istore 5, 2) := by decide +kernel
theorem dX6_won_119 : decode cX6_won 119 = .ok (.iinc 6 1, 3) := by decide +kernel
theorem dX6_won_122 : decode cX6_won 122 = .ok (.goto (-61), 3) := by decide +kernel
theorem dX6_won_125 : decode cX6_won 125 = .ok (.iload 4, 2) := by decide +kernel
theorem dX6_won_127 : decode cX6_won 127 = .ok (.ldc 154, 2) := by decide +kernel
theorem dX6_won_129 : decode cX6_won 129 = .ok (.if_icmp .ne 12, 3) := by decide +kernel
theorem dX6_won_132 : decode cX6_won 132 = .ok (.aload_n 0, 1) := by decide +kernel
theorem dX6_won_133 : decode cX6_won 133 = .ok (.ldc 154, 2) := by decide +kernel
theorem dX6_won_135 : decode cX6_won 135 = .ok (.invokevirtual 56, 3) := by decide +kernel
theorem dX6_won_138 : decode cX6_won 138 = .ok (.goto 5, 3) := by decide +kernel
theorem dX6_won_141 : decode cX6_won 141 = .ok (.iload 4, 2) := by decide +kernel
theorem dX6_won_143 : decode cX6_won 143 = .ok (.ireturn, 1) := by decide +kernel
theorem dX6_colour_0 : decode cX6_colour 0 = .ok (.aload_n 0, 1) := by decide +kernel
theorem dX6_colour_1 : decode cX6_colour 1 = .ok (.getfield 12, 3) := by decide +kernel
theorem dX6_colour_4 : decode cX6_colour 4 = .ok (.iload_n 1, 1) := by decide +kernel
theorem dX6_colour_5 : decode cX6_colour 5 = .ok (.invokevirtual 94, 3) := by decide +kernel
theorem dX6_colour_8 : decode cX6_colour 8 = .ok (.ifCond .ne 10, 3) := by decide +kernel
theorem dX6_colour_11 : decode cX6_colour 11 = .ok (.aload_n 0, 1) := by decide +kernel
theorem dX6_colour_12 : decode cX6_colour 12 = .ok (.ldc 55, 2) := by decide +kernel
theorem dX6_colour_14 : decode cX6_colour 14 = .ok (.invokevirtual 56, 3) := by decide +kernel
theorem dX6_colour_17 : decode cX6_colour 17 = .ok (.ireturn, 1) := by decide +kernel
theorem dX6_colour_18 : decode cX6_colour 18 = .ok (.aload_n 0, 1) := by decide +kernel
theorem dX6_colour_19 : decode cX6_colour 19 = .ok (.getfield 16, 3) := by decide +kernel
theorem dX6_colour_22 : decode cX6_colour 22 = .ok (.aload_n 0, 1) := by decide +kernel
theorem dX6_colour_23 : decode cX6_colour 23 = .ok (.getfield 12, 3) := by decide +kernel
theorem dX6_colour_26 : decode cX6_colour 26 = .ok (.invokevirtual 150, 3) := by decide +kernel
theorem dX6_colour_29 : decode cX6_colour 29 = .ok (.aload_n 0, 1) := by decide +kernel
theorem dX6_colour_30 : decode cX6_colour 30 = .ok (.getfield 16, 3) := by decide +kernel
theorem dX6_colour_33 : decode cX6_colour 33 = .ok (.getfield 97, 3) := by decide +kernel
theorem dX6_colour_36 : decode cX6_colour 36 = .ok (.iload_n 1, 1) := by decide +kernel
theorem dX6_colour_37 : decode cX6_colour 37 = .ok (.aaload, 1) := by decide +kernel
theorem dX6_colour_38 : decode cX6_colour 38 = .ok (.astore_n 2, 1) := by decide +kernel
theorem dX6_colour_39 : decode cX6_colour 39 = .ok (.ldc 154, 2) := by decide +kernel
theorem dX6_colour_41 : decode cX6_colour 41 = .ok (.istore_n 3, 1) := by decide +kernel
theorem dX6_colour_42 : decode cX6_colour 42 = .ok (.iconst 0, 1) := by decide +kernel
theorem dX6_colour_43 : decode cX6_colour 43 = .ok (.istore 4, 2) := by decide +kernel
theorem dX6_colour_45 : decode cX6_colour 45 = .ok (.iconst 0, 1) := by decide +kernel
theorem dX6_colour_46 : decode cX6_colour 46 = .ok (.istore 5, 2) := by decide +kernel
theorem dX6_colour_48 : decode cX6_colour 48 = .ok (.iload 5, 2) := by decide +kernel
theorem dX6_colour_50 : decode cX6_colour 50 = .ok (.iconst 4, 1) := by decide +kernel
theorem dX6_colour_51 : decode cX6_colour 51 = .ok (.if_icmp .ge 56, 3) := by decide +kernel
theorem dX6_colour_54 : decode cX6_colour 54 = .ok (.aload_n 2, 1) := by decide +kernel
theorem dX6_colour_55 : decode cX6_colour 55 = .ok (.iload 5, 2) := by decide +kernel
theorem dX6_colour_57 : decode cX6_colour 57 = .ok (.putfield 170, 3) := by decide +kernel
theorem dX6_colour_60 : decode cX6_colour 60 = .ok (.aload_n 0, 1) := by decide +kernel
theorem dX6_colour_61 : decode cX6_colour 61 = .ok (.getfield 16, 3) := by decide +kernel
theorem dX6_colour_64 : decode cX6_colour 64 = .ok (.aload_n 2, 1) := by decide +kernel
theorem dX6_colour_65 : decode cX6_colour 65 = .ok (.invokevirtual 173, 3) := by decide +kernel
theorem dX6_colour_68 : decode cX6_colour 68 = .ok (.istore 6, 2) := by decide +kernel
theorem dX6_colour_70 : decode cX6_colour 70 = .ok (.aload_n 0, 1) := by decide +kernel
theorem dX6_colour_71 : decode cX6_colour 71 = .ok (.getfield 16, 3) := by decide +kernel
theorem dX6_colour_74 : decode cX6_colour 74 = .ok (.aload_n 2, 1) := by decide +kernel
theorem dX6_colour_75 : decode cX6_colour 75 = .ok (.invokevirtual 123, 3) := by decide +kernel
theorem dX6_colour_78 : decode cX6_colour 78 = .ok (.ifCond .eq 23, 3) := by decide +kernel
theorem dX6_colour_81 : decode cX6_colour 81 = .ok (.iload_n 3, 1) := by decide +kernel
theorem dX6_colour_82 : decode cX6_colour 82 = .ok (.ldc 154, 2) := by decide +kernel
theorem dX6_colour_84 : decode cX6_colour 84 = .ok (.if_icmp .eq 10, 3) := by decide +kernel
theorem dX6_colour_87 : decode cX6_colour 87 = .ok (.iload 6, 2) := by decide +kernel
theorem dX6_colour_89 : decode cX6_colour 89 = .ok (.iload 4, 2) := by decide +kernel
theorem dX6_colour_91 : decode cX6_colour 91 = .ok (.if_icmp .ge 10, 3) := by decide +kernel
theorem dX6_colour_94 : decode cX6_colour 94 = .ok (.iload 5, 2) := by decide +kernel
theorem dX6_colour_96 : decode cX6_colour 96 = .ok (.istore_n 3, 1) := by decide +kernel
theorem dX6_colour_97 : decode cX6_colour 97 = .ok (.iload 6, 2) := by decide +kernel
theorem dX6_colour_99 : decode cX6_colour 99 = .ok (.istore 4, 2) := by decide +kernel
theorem dX6_colour_101 : decode cX6_colour 101 = .ok (.iinc 5 1, 3) := by decide +kernel
theorem dX6_colour_104 : decode cX6_colour 104 = .ok (.goto (-56), 3) := by decide +kernel
theorem dX6_colour_107 : decode cX6_colour 107 = .ok (.iload_n 3, 1) := by decide +kernel
theorem dX6_colour_108 : decode cX6_colour 108 = .ok (.ldc 154, 2) := by decide +kernel
theorem dX6_colour_110 : decode cX6_colour 110 = .ok (.if_icmp .ne 12, 3) := by decide +kernel
theorem dX6_colour_113 : decode cX6_colour 113 = .ok (.aload_n 0, 1) := by decide +kernel
theorem dX6_colour_114 : decode cX6_colour 114 = .ok (.ldc 154, 2) := by decide +kernel
theorem dX6_colour_116 : decode cX6_colour 116 = .ok (.invokevirtual 56, 3) := by decide +kernel
theorem dX6_colour_119 : decode cX6_colour 119 = .ok (.goto 4, 3) := by decide +kernel
theorem dX6_colour_122 : decode cX6_colour 122 = .ok (.iload_n 3, 1) := by decide +kernel
theorem dX6_colour_123 : decode cX6_colour 123 = .ok (.ireturn, 1) := by decide +kernel
theorem dX6_kindFor_0 : decode cX6_kindFor 0 = .ok (.aload_n 0, 1) := by decide +kernel
theorem dX6_kindFor_1 : decode cX6_kindFor 1 = .ok (.getfield 12, 3) := by decide +kernel
theorem dX6_kindFor_4 : decode cX6_kindFor 4 = .ok (.iload_n 1, 1) := by decide +kernel
theorem dX6_kindFor_5 : decode cX6_kindFor 5 = .ok (.invokevirtual 68, 3) := by decide +kernel
theorem dX6_kindFor_8 : decode cX6_kindFor 8 = .ok (.ifCond .ne 10, 3) := by decide +kernel
theorem dX6_kindFor_11 : decode cX6_kindFor 11 = .ok (.aload_n 0, 1) := by decide +kernel
theorem dX6_kindFor_12 : decode cX6_kindFor 12 = .ok (.ldc 55, 2) := by decide +kernel
theorem dX6_kindFor_14 : decode cX6_kindFor 14 = .ok (.invokevirtual 56, 3) := by decide +kernel
theorem dX6_kindFor_17 : decode cX6_kindFor 17 = .ok (.ireturn, 1) := by decide +kernel
theorem dX6_kindFor_18 : decode cX6_kindFor 18 = .ok (.aload_n 0, 1) := by decide +kernel
theorem dX6_kindFor_19 : decode cX6_kindFor 19 = .ok (.getfield 16, 3) := by decide +kernel
theorem dX6_kindFor_22 : decode cX6_kindFor 22 = .ok (.aload_n 0, 1) := by decide +kernel
theorem dX6_kindFor_23 : decode cX6_kindFor 23 = .ok (.getfield 12, 3) := by decide +kernel
theorem dX6_kindFor_26 : decode cX6_kindFor 26 = .ok (.invokevirtual 150, 3) := by decide +kernel
theorem dX6_kindFor_29 : decode cX6_kindFor 29 = .ok (.iconst 0, 1) := by decide +kernel
theorem dX6_kindFor_30 : decode cX6_kindFor 30 = .ok (.istore_n 2, 1) := by decide +kernel
theorem dX6_kindFor_31 : decode cX6_kindFor 31 = .ok (.iconst (-1), 1) := by decide +kernel
theorem dX6_kindFor_32 : decode cX6_kindFor 32 = .ok (.istore_n 3, 1) := by decide +kernel
theorem dX6_kindFor_33 : decode cX6_kindFor 33 = .ok (.iconst 0, 1) := by decide +kernel
theorem dX6_kindFor_34 : decode cX6_kindFor 34 = .ok (.istore 4, 2) := by decide +kernel
theorem dX6_kindFor_36 : decode cX6_kindFor 36 = .ok (.iload 4, 2) := by decide +kernel
theorem dX6_kindFor_38 : decode cX6_kindFor 38 = .ok (.bipush 7, 2) := by decide +kernel
theorem dX6_kindFor_40 : decode cX6_kindFor 40 = .ok (.if_icmp .ge 44, 3) := by decide +kernel
theorem dX6_kindFor_43 : decode cX6_kindFor 43 = .ok (.aload_n 0, 1) := by decide +kernel
theorem dX6_kindFor_44 : decode cX6_kindFor 44 = .ok (.getfield 16, 3) := by decide +kernel
theorem dX6_kindFor_47 : decode cX6_kindFor 47 = .ok (.getfield 72, 3) := by decide +kernel
theorem dX6_kindFor_50 : decode cX6_kindFor 50 = .ok (.iload_n 1, 1) := by decide +kernel
theorem dX6_kindFor_51 : decode cX6_kindFor 51 = .ok (.aaload, 1) := by decide +kernel
theorem dX6_kindFor_52 : decode cX6_kindFor 52 = .ok (.iload 4, 2) := by decide +kernel
theorem dX6_kindFor_54 : decode cX6_kindFor 54 = .ok (.putfield 176, 3) := by decide +kernel
theorem dX6_kindFor_57 : decode cX6_kindFor 57 = .ok (.aload_n 0, 1) := by decide +kernel
theorem dX6_kindFor_58 : decode cX6_kindFor 58 = .ok (.getfield 16, 3) := by decide +kernel
theorem dX6_kindFor_61 : decode cX6_kindFor 61 = .ok (.invokevirtual 179, 3) := by decide +kernel
theorem dX6_kindFor_64 : decode cX6_kindFor 64 = .ok (.istore 5, 2) := by decide +kernel
theorem dX6_kindFor_66 : decode cX6_kindFor 66 = .ok (.iload 5, 2) := by decide +kernel
theorem dX6_kindFor_68 : decode cX6_kindFor 68 = .ok (.iload_n 3, 1) := by decide +kernel
theorem dX6_kindFor_69 : decode cX6_kindFor 69 = .ok (.if_icmp .le 9, 3) := by decide +kernel
theorem dX6_kindFor_72 : decode cX6_kindFor 72 = .ok (.iload 4, 2) := by decide +kernel
theorem dX6_kindFor_74 : decode cX6_kindFor 74 = .ok (.istore_n 2, 1) := by decide +kernel
theorem dX6_kindFor_75 : decode cX6_kindFor 75 = .ok (.iload 5, 2) := by decide +kernel
theorem dX6_kindFor_77 : decode cX6_kindFor 77 = .ok (.istore_n 3, 1) := by decide +kernel
theorem dX6_kindFor_78 : decode cX6_kindFor 78 = .ok (.iinc 4 1, 3) := by decide +kernel
theorem dX6_kindFor_81 : decode cX6_kindFor 81 = .ok (.goto (-45), 3) := by decide +kernel
theorem dX6_kindFor_84 : decode cX6_kindFor 84 = .ok (.iload_n 2, 1) := by decide +kernel
theorem dX6_kindFor_85 : decode cX6_kindFor 85 = .ok (.ireturn, 1) := by decide +kernel
theorem dX6_quorum_0 : decode cX6_quorum 0 = .ok (.aload_n 0, 1) := by decide +kernel
theorem dX6_quorum_1 : decode cX6_quorum 1 = .ok (.getfield 12, 3) := by decide +kernel
theorem dX6_quorum_4 : decode cX6_quorum 4 = .ok (.iload_n 1, 1) := by decide +kernel
theorem dX6_quorum_5 : decode cX6_quorum 5 = .ok (.invokevirtual 94, 3) := by decide +kernel
theorem dX6_quorum_8 : decode cX6_quorum 8 = .ok (.ifCond .ne 10, 3) := by decide +kernel
theorem dX6_quorum_11 : decode cX6_quorum 11 = .ok (.aload_n 0, 1) := by decide +kernel
theorem dX6_quorum_12 : decode cX6_quorum 12 = .ok (.ldc 55, 2) := by decide +kernel
theorem dX6_quorum_14 : decode cX6_quorum 14 = .ok (.invokevirtual 56, 3) := by decide +kernel
theorem dX6_quorum_17 : decode cX6_quorum 17 = .ok (.ireturn, 1) := by decide +kernel
theorem dX6_quorum_18 : decode cX6_quorum 18 = .ok (.aload_n 0, 1) := by decide +kernel
theorem dX6_quorum_19 : decode cX6_quorum 19 = .ok (.getfield 12, 3) := by decide +kernel
theorem dX6_quorum_22 : decode cX6_quorum 22 = .ok (.getfield 97, 3) := by decide +kernel
theorem dX6_quorum_25 : decode cX6_quorum 25 = .ok (.iload_n 1, 1) := by decide +kernel
theorem dX6_quorum_26 : decode cX6_quorum 26 = .ok (.aaload, 1) := by decide +kernel
theorem dX6_quorum_27 : decode cX6_quorum 27 = .ok (.astore_n 2, 1) := by decide +kernel
theorem dX6_quorum_28 : decode cX6_quorum 28 = .ok (.aload_n 0, 1) := by decide +kernel
theorem dX6_quorum_29 : decode cX6_quorum 29 = .ok (.getfield 12, 3) := by decide +kernel
theorem dX6_quorum_32 : decode cX6_quorum 32 = .ok (.aload_n 2, 1) := by decide +kernel
theorem dX6_quorum_33 : decode cX6_quorum 33 = .ok (.invokevirtual 116, 3) := by decide +kernel
theorem dX6_quorum_36 : decode cX6_quorum 36 = .ok (.aload_n 0, 1) := by decide +kernel
theorem dX6_quorum_37 : decode cX6_quorum 37 = .ok (.getfield 12, 3) := by decide +kernel
theorem dX6_quorum_40 : decode cX6_quorum 40 = .ok (.aload_n 2, 1) := by decide +kernel
theorem dX6_quorum_41 : decode cX6_quorum 41 = .ok (.invokevirtual 120, 3) := by decide +kernel
theorem dX6_quorum_44 : decode cX6_quorum 44 = .ok (.if_icmp .gt 10, 3) := by decide +kernel
theorem dX6_quorum_47 : decode cX6_quorum 47 = .ok (.aload_n 0, 1) := by decide +kernel
theorem dX6_quorum_48 : decode cX6_quorum 48 = .ok (.ldc 154, 2) := by decide +kernel
theorem dX6_quorum_50 : decode cX6_quorum 50 = .ok (.invokevirtual 56, 3) := by decide +kernel
theorem dX6_quorum_53 : decode cX6_quorum 53 = .ok (.ireturn, 1) := by decide +kernel
theorem dX6_quorum_54 : decode cX6_quorum 54 = .ok (.bipush 99, 2) := by decide +kernel
theorem dX6_quorum_56 : decode cX6_quorum 56 = .ok (.aload_n 0, 1) := by decide +kernel
theorem dX6_quorum_57 : decode cX6_quorum 57 = .ok (.getfield 12, 3) := by decide +kernel
theorem dX6_quorum_60 : decode cX6_quorum 60 = .ok (.aload_n 2, 1) := by decide +kernel
theorem dX6_quorum_61 : decode cX6_quorum 61 = .ok (.invokevirtual 173, 3) := by decide +kernel
theorem dX6_quorum_64 : decode cX6_quorum 64 = .ok (.invokestatic 182, 3) := by decide +kernel
theorem dX6_quorum_67 : decode cX6_quorum 67 = .ok (.ireturn, 1) := by decide +kernel
theorem dX6_agenda_0 : decode cX6_agenda 0 = .ok (.aload_n 0, 1) := by decide +kernel
theorem dX6_agenda_1 : decode cX6_agenda 1 = .ok (.iload_n 1, 1) := by decide +kernel
theorem dX6_agenda_2 : decode cX6_agenda 2 = .ok (.invokevirtual 187, 3) := by decide +kernel
theorem dX6_agenda_5 : decode cX6_agenda 5 = .ok (.ifCond .ne 10, 3) := by decide +kernel
theorem dX6_agenda_8 : decode cX6_agenda 8 = .ok (.aload_n 0, 1) := by decide +kernel
theorem dX6_agenda_9 : decode cX6_agenda 9 = .ok (.ldc 55, 2) := by decide +kernel
theorem dX6_agenda_11 : decode cX6_agenda 11 = .ok (.invokevirtual 56, 3) := by decide +kernel
theorem dX6_agenda_14 : decode cX6_agenda 14 = .ok (.ireturn, 1) := by decide +kernel
theorem dX6_agenda_15 : decode cX6_agenda 15 = .ok (.aload_n 0, 1) := by decide +kernel
theorem dX6_agenda_16 : decode cX6_agenda 16 = .ok (.getfield 42, 3) := by decide +kernel
theorem dX6_agenda_19 : decode cX6_agenda 19 = .ok (.aload_n 0, 1) := by decide +kernel
theorem dX6_agenda_20 : decode cX6_agenda 20 = .ok (.getfield 12, 3) := by decide +kernel
theorem dX6_agenda_23 : decode cX6_agenda 23 = .ok (.aload_n 0, 1) := by decide +kernel
theorem dX6_agenda_24 : decode cX6_agenda 24 = .ok (.getfield 16, 3) := by decide +kernel
theorem dX6_agenda_27 : decode cX6_agenda 27 = .ok (.iload_n 1, 1) := by decide +kernel
theorem dX6_agenda_28 : decode cX6_agenda 28 = .ok (.invokevirtual 190, 3) := by decide +kernel
theorem dX6_agenda_31 : decode cX6_agenda 31 = .ok (.aload_n 0, 1) := by decide +kernel
theorem dX6_agenda_32 : decode cX6_agenda 32 = .ok (.getfield 42, 3) := by decide +kernel
theorem dX6_agenda_35 : decode cX6_agenda 35 = .ok (.getfield 194, 3) := by decide +kernel
theorem dX6_agenda_38 : decode cX6_agenda 38 = .ok (.ireturn, 1) := by decide +kernel
theorem dX6_ith_0 : decode cX6_ith 0 = .ok (.aload_n 0, 1) := by decide +kernel
theorem dX6_ith_1 : decode cX6_ith 1 = .ok (.iload_n 1, 1) := by decide +kernel
theorem dX6_ith_2 : decode cX6_ith 2 = .ok (.invokevirtual 187, 3) := by decide +kernel
theorem dX6_ith_5 : decode cX6_ith 5 = .ok (.ifCond .eq 16, 3) := by decide +kernel
theorem dX6_ith_8 : decode cX6_ith 8 = .ok (.iload_n 2, 1) := by decide +kernel
theorem dX6_ith_9 : decode cX6_ith 9 = .ok (.iload_n 1, 1) := by decide +kernel
theorem dX6_ith_10 : decode cX6_ith 10 = .ok (.invokestatic 165, 3) := by decide +kernel
theorem dX6_ith_13 : decode cX6_ith 13 = .ok (.iconst 1, 1) := by decide +kernel
theorem dX6_ith_14 : decode cX6_ith 14 = .ok (.isub, 1) := by decide +kernel
theorem dX6_ith_15 : decode cX6_ith 15 = .ok (.invokestatic 51, 3) := by decide +kernel
theorem dX6_ith_18 : decode cX6_ith 18 = .ok (.ifCond .ne 10, 3) := by decide +kernel
theorem dX6_ith_21 : decode cX6_ith 21 = .ok (.aload_n 0, 1) := by decide +kernel
theorem dX6_ith_22 : decode cX6_ith 22 = .ok (.ldc 55, 2) := by decide +kernel
theorem dX6_ith_24 : decode cX6_ith 24 = .ok (.invokevirtual 56, 3) := by decide +kernel
theorem dX6_ith_27 : decode cX6_ith 27 = .ok (.ireturn, 1) := by decide +kernel
theorem dX6_ith_28 : decode cX6_ith 28 = .ok (.aload_n 0, 1) := by decide +kernel
theorem dX6_ith_29 : decode cX6_ith 29 = .ok (.getfield 42, 3) := by decide +kernel
theorem dX6_ith_32 : decode cX6_ith 32 = .ok (.aload_n 0, 1) := by decide +kernel
theorem dX6_ith_33 : decode cX6_ith 33 = .ok (.getfield 12, 3) := by decide +kernel
theorem dX6_ith_36 : decode cX6_ith 36 = .ok (.aload_n 0, 1) := by decide +kernel
theorem dX6_ith_37 : decode cX6_ith 37 = .ok (.getfield 16, 3) := by decide +kernel
theorem dX6_ith_40 : decode cX6_ith 40 = .ok (.iload_n 1, 1) := by decide +kernel
theorem dX6_ith_41 : decode cX6_ith 41 = .ok (.invokevirtual 190, 3) := by decide +kernel
theorem dX6_ith_44 : decode cX6_ith 44 = .ok (.aload_n 0, 1) := by decide +kernel
theorem dX6_ith_45 : decode cX6_ith 45 = .ok (.getfield 42, 3) := by decide +kernel
theorem dX6_ith_48 : decode cX6_ith 48 = .ok (.getfield 197, 3) := by decide +kernel
theorem dX6_ith_51 : decode cX6_ith 51 = .ok (.iload_n 2, 1) := by decide +kernel
theorem dX6_ith_52 : decode cX6_ith 52 = .ok (.iaload, 1) := by decide +kernel
theorem dX6_ith_53 : decode cX6_ith 53 = .ok (.ireturn, 1) := by decide +kernel
theorem dX6_ways_0 : decode cX6_ways 0 = .ok (.aload_n 0, 1) := by decide +kernel
theorem dX6_ways_1 : decode cX6_ways 1 = .ok (.iload_n 1, 1) := by decide +kernel
theorem dX6_ways_2 : decode cX6_ways 2 = .ok (.invokevirtual 187, 3) := by decide +kernel
theorem dX6_ways_5 : decode cX6_ways 5 = .ok (.ifCond .ne 10, 3) := by decide +kernel
theorem dX6_ways_8 : decode cX6_ways 8 = .ok (.aload_n 0, 1) := by decide +kernel
theorem dX6_ways_9 : decode cX6_ways 9 = .ok (.ldc 55, 2) := by decide +kernel
theorem dX6_ways_11 : decode cX6_ways 11 = .ok (.invokevirtual 56, 3) := by decide +kernel
theorem dX6_ways_14 : decode cX6_ways 14 = .ok (.ireturn, 1) := by decide +kernel
theorem dX6_ways_15 : decode cX6_ways 15 = .ok (.aload_n 0, 1) := by decide +kernel
theorem dX6_ways_16 : decode cX6_ways 16 = .ok (.getfield 42, 3) := by decide +kernel
theorem dX6_ways_19 : decode cX6_ways 19 = .ok (.aload_n 0, 1) := by decide +kernel
theorem dX6_ways_20 : decode cX6_ways 20 = .ok (.getfield 12, 3) := by decide +kernel
theorem dX6_ways_23 : decode cX6_ways 23 = .ok (.aload_n 0, 1) := by decide +kernel
theorem dX6_ways_24 : decode cX6_ways 24 = .ok (.getfield 16, 3) := by decide +kernel
theorem dX6_ways_27 : decode cX6_ways 27 = .ok (.iload_n 1, 1) := by decide +kernel
theorem dX6_ways_28 : decode cX6_ways 28 = .ok (.invokevirtual 190, 3) := by decide +kernel
theorem dX6_ways_31 : decode cX6_ways 31 = .ok (.aload_n 0, 1) := by decide +kernel
theorem dX6_ways_32 : decode cX6_ways 32 = .ok (.getfield 42, 3) := by decide +kernel
theorem dX6_ways_35 : decode cX6_ways 35 = .ok (.getfield 200, 3) := by decide +kernel
theorem dX6_ways_38 : decode cX6_ways 38 = .ok (.ireturn, 1) := by decide +kernel
theorem dX6_left_0 : decode cX6_left 0 = .ok (.aload_n 0, 1) := by decide +kernel
theorem dX6_left_1 : decode cX6_left 1 = .ok (.iload_n 1, 1) := by decide +kernel
theorem dX6_left_2 : decode cX6_left 2 = .ok (.invokevirtual 187, 3) := by decide +kernel
theorem dX6_left_5 : decode cX6_left 5 = .ok (.ifCond .ne 10, 3) := by decide +kernel
theorem dX6_left_8 : decode cX6_left 8 = .ok (.aload_n 0, 1) := by decide +kernel
theorem dX6_left_9 : decode cX6_left 9 = .ok (.ldc 55, 2) := by decide +kernel
theorem dX6_left_11 : decode cX6_left 11 = .ok (.invokevirtual 56, 3) := by decide +kernel
theorem dX6_left_14 : decode cX6_left 14 = .ok (.ireturn, 1) := by decide +kernel
theorem dX6_left_15 : decode cX6_left 15 = .ok (.aload_n 0, 1) := by decide +kernel
theorem dX6_left_16 : decode cX6_left 16 = .ok (.getfield 42, 3) := by decide +kernel
theorem dX6_left_19 : decode cX6_left 19 = .ok (.aload_n 0, 1) := by decide +kernel
theorem dX6_left_20 : decode cX6_left 20 = .ok (.getfield 12, 3) := by decide +kernel
theorem dX6_left_23 : decode cX6_left 23 = .ok (.aload_n 0, 1) := by decide +kernel
theorem dX6_left_24 : decode cX6_left 24 = .ok (.getfield 16, 3) := by decide +kernel
theorem dX6_left_27 : decode cX6_left 27 = .ok (.iload_n 1, 1) := by decide +kernel
theorem dX6_left_28 : decode cX6_left 28 = .ok (.invokevirtual 190, 3) := by decide +kernel
theorem dX6_left_31 : decode cX6_left 31 = .ok (.aload_n 0, 1) := by decide +kernel
theorem dX6_left_32 : decode cX6_left 32 = .ok (.getfield 42, 3) := by decide +kernel
theorem dX6_left_35 : decode cX6_left 35 = .ok (.getfield 203, 3) := by decide +kernel
theorem dX6_left_38 : decode cX6_left 38 = .ok (.ireturn, 1) := by decide +kernel
theorem dX6_wind_0 : decode cX6_wind 0 = .ok (.aload_n 0, 1) := by decide +kernel
theorem dX6_wind_1 : decode cX6_wind 1 = .ok (.getfield 12, 3) := by decide +kernel
theorem dX6_wind_4 : decode cX6_wind 4 = .ok (.iload_n 1, 1) := by decide +kernel
theorem dX6_wind_5 : decode cX6_wind 5 = .ok (.invokevirtual 94, 3) := by decide +kernel
theorem dX6_wind_8 : decode cX6_wind 8 = .ok (.ifCond .eq 20, 3) := by decide +kernel
theorem dX6_wind_11 : decode cX6_wind 11 = .ok (.iload_n 2, 1) := by decide +kernel
theorem dX6_wind_12 : decode cX6_wind 12 = .ok (.bipush 10, 2) := by decide +kernel
theorem dX6_wind_14 : decode cX6_wind 14 = .ok (.invokestatic 51, 3) := by decide +kernel
theorem dX6_wind_17 : decode cX6_wind 17 = .ok (.ifCond .eq 11, 3) := by decide +kernel
theorem dX6_wind_20 : decode cX6_wind 20 = .ok (.iload_n 3, 1) := by decide +kernel
theorem dX6_wind_21 : decode cX6_wind 21 = .ok (.iconst 1, 1) := by decide +kernel
theorem dX6_wind_22 : decode cX6_wind 22 = .ok (.invokestatic 51, 3) := by decide +kernel
theorem dX6_wind_25 : decode cX6_wind 25 = .ok (.ifCond .ne 11, 3) := by decide +kernel
theorem dX6_wind_28 : decode cX6_wind 28 = .ok (.aload_n 0, 1) := by decide +kernel
theorem dX6_wind_29 : decode cX6_wind 29 = .ok (.ldc 55, 2) := by decide +kernel
theorem dX6_wind_31 : decode cX6_wind 31 = .ok (.invokevirtual 56, 3) := by decide +kernel
theorem dX6_wind_34 : decode cX6_wind 34 = .ok (.i2l, 1) := by decide +kernel
theorem dX6_wind_35 : decode cX6_wind 35 = .ok (.lreturn, 1) := by decide +kernel
theorem dX6_wind_36 : decode cX6_wind 36 = .ok (.aload_n 0, 1) := by decide +kernel
theorem dX6_wind_37 : decode cX6_wind 37 = .ok (.getfield 12, 3) := by decide +kernel
theorem dX6_wind_40 : decode cX6_wind 40 = .ok (.aload_n 0, 1) := by decide +kernel
theorem dX6_wind_41 : decode cX6_wind 41 = .ok (.getfield 12, 3) := by decide +kernel
theorem dX6_wind_44 : decode cX6_wind 44 = .ok (.getfield 97, 3) := by decide +kernel
theorem dX6_wind_47 : decode cX6_wind 47 = .ok (.iload_n 1, 1) := by decide +kernel
theorem dX6_wind_48 : decode cX6_wind 48 = .ok (.aaload, 1) := by decide +kernel
theorem dX6_wind_49 : decode cX6_wind 49 = .ok (.invokevirtual 173, 3) := by decide +kernel
theorem dX6_wind_52 : decode cX6_wind 52 = .ok (.istore 4, 2) := by decide +kernel
theorem dX6_wind_54 : decode cX6_wind 54 = .ok (.iload 4, 2) := by decide +kernel
theorem dX6_wind_56 : decode cX6_wind 56 = .ok (.bipush 15, 2) := by decide +kernel
theorem dX6_wind_58 : decode cX6_wind 58 = .ok (.if_icmp .le 11, 3) := by decide +kernel
theorem dX6_wind_61 : decode cX6_wind 61 = .ok (.aload_n 0, 1) := by decide +kernel
theorem dX6_wind_62 : decode cX6_wind 62 = .ok (.ldc 206, 2) := by decide +kernel
theorem dX6_wind_64 : decode cX6_wind 64 = .ok (.invokevirtual 56, 3) := by decide +kernel
theorem dX6_wind_67 : decode cX6_wind 67 = .ok (.i2l, 1) := by decide +kernel
theorem dX6_wind_68 : decode cX6_wind 68 = .ok (.lreturn, 1) := by decide +kernel
theorem dX6_wind_69 : decode cX6_wind 69 = .ok (.bipush 10, 2) := by decide +kernel
theorem dX6_wind_71 : decode cX6_wind 71 = .ok (.iload_n 2, 1) := by decide +kernel
theorem dX6_wind_72 : decode cX6_wind 72 = .ok (.isub, 1) := by decide +kernel
theorem dX6_wind_73 : decode cX6_wind 73 = .ok (.bipush 10, 2) := by decide +kernel
theorem dX6_wind_75 : decode cX6_wind 75 = .ok (.invokestatic 207, 3) := by decide +kernel
theorem dX6_wind_78 : decode cX6_wind 78 = .ok (.istore 5, 2) := by decide +kernel
theorem dX6_wind_80 : decode cX6_wind 80 = .ok (.iload_n 3, 1) := by decide +kernel
theorem dX6_wind_81 : decode cX6_wind 81 = .ok (.ifCond .ne 10, 3) := by decide +kernel
theorem dX6_wind_84 : decode cX6_wind 84 = .ok (.bipush 10, 2) := by decide +kernel
theorem dX6_wind_86 : decode cX6_wind 86 = .ok (.iload_n 2, 1) := by decide +kernel
theorem dX6_wind_87 : decode cX6_wind 87 = .ok (.isub, 1) := by decide +kernel
theorem dX6_wind_88 : decode cX6_wind 88 = .ok (.goto 5, 3) := by decide +kernel
theorem dX6_wind_91 : decode cX6_wind 91 = .ok (.bipush 10, 2) := by decide +kernel
theorem dX6_wind_93 : decode cX6_wind 93 = .ok (.istore 6, 2) := by decide +kernel
theorem dX6_wind_95 : decode cX6_wind 95 = .ok (.iload 6, 2) := by decide +kernel
theorem dX6_wind_97 : decode cX6_wind 97 = .ok (.iload 5, 2) := by decide +kernel
theorem dX6_wind_99 : decode cX6_wind 99 = .ok (.idiv, 1) := by decide +kernel
theorem dX6_wind_100 : decode cX6_wind 100 = .ok (.iload 4, 2) := by decide +kernel
theorem dX6_wind_102 : decode cX6_wind 102 = .ok (.invokestatic 210, 3) := by decide +kernel
theorem dX6_wind_105 : decode cX6_wind 105 = .ok (.lreturn, 1) := by decide +kernel
theorem dX6_fits_0 : decode cX6_fits 0 = .ok (.iload_n 1, 1) := by decide +kernel
theorem dX6_fits_1 : decode cX6_fits 1 = .ok (.iconst 3, 1) := by decide +kernel
theorem dX6_fits_2 : decode cX6_fits 2 = .ok (.invokestatic 51, 3) := by decide +kernel
theorem dX6_fits_5 : decode cX6_fits 5 = .ok (.ifCond .ne 10, 3) := by decide +kernel
theorem dX6_fits_8 : decode cX6_fits 8 = .ok (.aload_n 0, 1) := by decide +kernel
theorem dX6_fits_9 : decode cX6_fits 9 = .ok (.ldc 55, 2) := by decide +kernel
theorem dX6_fits_11 : decode cX6_fits 11 = .ok (.invokevirtual 56, 3) := by decide +kernel
theorem dX6_fits_14 : decode cX6_fits 14 = .ok (.ireturn, 1) := by decide +kernel
theorem dX6_fits_15 : decode cX6_fits 15 = .ok (.aload_n 0, 1) := by decide +kernel
theorem dX6_fits_16 : decode cX6_fits 16 = .ok (.getfield 35, 3) := by decide +kernel
theorem dX6_fits_19 : decode cX6_fits 19 = .ok (.iload_n 1, 1) := by decide +kernel
theorem dX6_fits_20 : decode cX6_fits 20 = .ok (.aaload, 1) := by decide +kernel
theorem dX6_fits_21 : decode cX6_fits 21 = .ok (.astore_n 2, 1) := by decide +kernel
theorem dX6_fits_22 : decode cX6_fits 22 = .ok (.aload_n 2, 1) := by decide +kernel
theorem dX6_fits_23 : decode cX6_fits 23 = .ok (.invokevirtual 214, 3) := by decide +kernel
theorem dX6_fits_26 : decode cX6_fits 26 = .ok (.ifCond .eq 10, 3) := by decide +kernel
theorem dX6_fits_29 : decode cX6_fits 29 = .ok (.aload_n 0, 1) := by decide +kernel
theorem dX6_fits_30 : decode cX6_fits 30 = .ok (.ldc 217, 2) := by decide +kernel
theorem dX6_fits_32 : decode cX6_fits 32 = .ok (.invokevirtual 56, 3) := by decide +kernel
theorem dX6_fits_35 : decode cX6_fits 35 = .ok (.ireturn, 1) := by decide +kernel
theorem dX6_fits_36 : decode cX6_fits 36 = .ok (.iconst 0, 1) := by decide +kernel
theorem dX6_fits_37 : decode cX6_fits 37 = .ok (.istore_n 3, 1) := by decide +kernel
theorem dX6_fits_38 : decode cX6_fits 38 = .ok (.iconst 0, 1) := by decide +kernel
theorem dX6_fits_39 : decode cX6_fits 39 = .ok (.istore 4, 2) := by decide +kernel
theorem dX6_fits_41 : decode cX6_fits 41 = .ok (.iload 4, 2) := by decide +kernel
theorem dX6_fits_43 : decode cX6_fits 43 = .ok (.aload_n 0, 1) := by decide +kernel
theorem dX6_fits_44 : decode cX6_fits 44 = .ok (.getfield 12, 3) := by decide +kernel
theorem dX6_fits_47 : decode cX6_fits 47 = .ok (.getfield 88, 3) := by decide +kernel
theorem dX6_fits_50 : decode cX6_fits 50 = .ok (.if_icmp .ge 62, 3) := by decide +kernel
theorem dX6_fits_53 : decode cX6_fits 53 = .ok (.aload_n 0, 1) := by decide +kernel
theorem dX6_fits_54 : decode cX6_fits 54 = .ok (.getfield 12, 3) := by decide +kernel
theorem dX6_fits_57 : decode cX6_fits 57 = .ok (.getfield 97, 3) := by decide +kernel
theorem dX6_fits_60 : decode cX6_fits 60 = .ok (.iload 4, 2) := by decide +kernel
theorem dX6_fits_62 : decode cX6_fits 62 = .ok (.aaload, 1) := by decide +kernel
theorem dX6_fits_63 : decode cX6_fits 63 = .ok (.astore 5, 2) := by decide +kernel
theorem dX6_fits_65 : decode cX6_fits 65 = .ok (.aload_n 2, 1) := by decide +kernel
theorem dX6_fits_66 : decode cX6_fits 66 = .ok (.iconst 0, 1) := by decide +kernel
theorem dX6_fits_67 : decode cX6_fits 67 = .ok (.aload_n 0, 1) := by decide +kernel
theorem dX6_fits_68 : decode cX6_fits 68 = .ok (.getfield 12, 3) := by decide +kernel
theorem dX6_fits_71 : decode cX6_fits 71 = .ok (.aload 5, 2) := by decide +kernel
theorem dX6_fits_73 : decode cX6_fits 73 = .ok (.invokevirtual 116, 3) := by decide +kernel
theorem dX6_fits_76 : decode cX6_fits 76 = .ok (.invokevirtual 218, 3) := by decide +kernel
theorem dX6_fits_79 : decode cX6_fits 79 = .ok (.ifCond .eq 27, 3) := by decide +kernel
theorem dX6_fits_82 : decode cX6_fits 82 = .ok (.aload_n 2, 1) := by decide +kernel
theorem dX6_fits_83 : decode cX6_fits 83 = .ok (.iconst 1, 1) := by decide +kernel
theorem dX6_fits_84 : decode cX6_fits 84 = .ok (.aload_n 0, 1) := by decide +kernel
theorem dX6_fits_85 : decode cX6_fits 85 = .ok (.getfield 12, 3) := by decide +kernel
theorem dX6_fits_88 : decode cX6_fits 88 = .ok (.aload 5, 2) := by decide +kernel
theorem dX6_fits_90 : decode cX6_fits 90 = .ok (.invokevirtual 120, 3) := by decide +kernel
theorem dX6_fits_93 : decode cX6_fits 93 = .ok (.invokevirtual 218, 3) := by decide +kernel
theorem dX6_fits_96 : decode cX6_fits 96 = .ok (.ifCond .eq 10, 3) := by decide +kernel
theorem dX6_fits_99 : decode cX6_fits 99 = .ok (.iload_n 3, 1) := by decide +kernel
theorem dX6_fits_100 : decode cX6_fits 100 = .ok (.iconst 1, 1) := by decide +kernel
theorem dX6_fits_101 : decode cX6_fits 101 = .ok (.iload 4, 2) := by decide +kernel
theorem dX6_fits_103 : decode cX6_fits 103 = .ok (.ishl, 1) := by decide +kernel
theorem dX6_fits_104 : decode cX6_fits 104 = .ok (.ior, 1) := by decide +kernel
theorem dX6_fits_105 : decode cX6_fits 105 = .ok (.istore_n 3, 1) := by decide +kernel
theorem dX6_fits_106 : decode cX6_fits 106 = .ok (.iinc 4 1, 3) := by decide +kernel
theorem dX6_fits_109 : decode cX6_fits 109 = .ok (.goto (-68), 3) := by decide +kernel
theorem dX6_fits_112 : decode cX6_fits 112 = .ok (.iload_n 3, 1) := by decide +kernel
theorem dX6_fits_113 : decode cX6_fits 113 = .ok (.ireturn, 1) := by decide +kernel
theorem dX6_stolen_0 : decode cX6_stolen 0 = .ok (.iload_n 1, 1) := by decide +kernel
theorem dX6_stolen_1 : decode cX6_stolen 1 = .ok (.iconst 3, 1) := by decide +kernel
theorem dX6_stolen_2 : decode cX6_stolen 2 = .ok (.invokestatic 51, 3) := by decide +kernel
theorem dX6_stolen_5 : decode cX6_stolen 5 = .ok (.ifCond .ne 10, 3) := by decide +kernel
theorem dX6_stolen_8 : decode cX6_stolen 8 = .ok (.aload_n 0, 1) := by decide +kernel
theorem dX6_stolen_9 : decode cX6_stolen 9 = .ok (.ldc 55, 2) := by decide +kernel
theorem dX6_stolen_11 : decode cX6_stolen 11 = .ok (.invokevirtual 56, 3) := by decide +kernel
theorem dX6_stolen_14 : decode cX6_stolen 14 = .ok (.ireturn, 1) := by decide +kernel
theorem dX6_stolen_15 : decode cX6_stolen 15 = .ok (.aload_n 0, 1) := by decide +kernel
theorem dX6_stolen_16 : decode cX6_stolen 16 = .ok (.getfield 35, 3) := by decide +kernel
theorem dX6_stolen_19 : decode cX6_stolen 19 = .ok (.iload_n 1, 1) := by decide +kernel
theorem dX6_stolen_20 : decode cX6_stolen 20 = .ok (.aaload, 1) := by decide +kernel
theorem dX6_stolen_21 : decode cX6_stolen 21 = .ok (.invokevirtual 214, 3) := by decide +kernel
theorem dX6_stolen_24 : decode cX6_stolen 24 = .ok (.ifCond .eq 10, 3) := by decide +kernel
theorem dX6_stolen_27 : decode cX6_stolen 27 = .ok (.aload_n 0, 1) := by decide +kernel
theorem dX6_stolen_28 : decode cX6_stolen 28 = .ok (.ldc 217, 2) := by decide +kernel
theorem dX6_stolen_30 : decode cX6_stolen 30 = .ok (.invokevirtual 56, 3) := by decide +kernel
theorem dX6_stolen_33 : decode cX6_stolen 33 = .ok (.ireturn, 1) := by decide +kernel
theorem dX6_stolen_34 : decode cX6_stolen 34 = .ok (.iload_n 2, 1) := by decide +kernel
theorem dX6_stolen_35 : decode cX6_stolen 35 = .ok (.bipush 9, 2) := by decide +kernel
theorem dX6_stolen_37 : decode cX6_stolen 37 = .ok (.invokestatic 51, 3) := by decide +kernel
theorem dX6_stolen_40 : decode cX6_stolen 40 = .ok (.ifCond .ne 10, 3) := by decide +kernel
theorem dX6_stolen_43 : decode cX6_stolen 43 = .ok (.aload_n 0, 1) := by decide +kernel
theorem dX6_stolen_44 : decode cX6_stolen 44 = .ok (.ldc 55, 2) := by decide +kernel
theorem dX6_stolen_46 : decode cX6_stolen 46 = .ok (.invokevirtual 56, 3) := by decide +kernel
theorem dX6_stolen_49 : decode cX6_stolen 49 = .ok (.ireturn, 1) := by decide +kernel
theorem dX6_stolen_50 : decode cX6_stolen 50 = .ok (.iconst 0, 1) := by decide +kernel
theorem dX6_stolen_51 : decode cX6_stolen 51 = .ok (.istore_n 3, 1) := by decide +kernel
theorem dX6_stolen_52 : decode cX6_stolen 52 = .ok (.iconst 0, 1) := by decide +kernel
theorem dX6_stolen_53 : decode cX6_stolen 53 = .ok (.istore 4, 2) := by decide +kernel
theorem dX6_stolen_55 : decode cX6_stolen 55 = .ok (.iload 4, 2) := by decide +kernel
theorem dX6_stolen_57 : decode cX6_stolen 57 = .ok (.aload_n 0, 1) := by decide +kernel
theorem dX6_stolen_58 : decode cX6_stolen 58 = .ok (.getfield 12, 3) := by decide +kernel
theorem dX6_stolen_61 : decode cX6_stolen 61 = .ok (.getfield 60, 3) := by decide +kernel
theorem dX6_stolen_64 : decode cX6_stolen 64 = .ok (.if_icmp .ge 39, 3) := by decide +kernel
theorem dX6_stolen_67 : decode cX6_stolen 67 = .ok (.aload_n 0, 1) := by decide +kernel
theorem dX6_stolen_68 : decode cX6_stolen 68 = .ok (.getfield 12, 3) := by decide +kernel
theorem dX6_stolen_71 : decode cX6_stolen 71 = .ok (.getfield 72, 3) := by decide +kernel
theorem dX6_stolen_74 : decode cX6_stolen 74 = .ok (.iload 4, 2) := by decide +kernel
theorem dX6_stolen_76 : decode cX6_stolen 76 = .ok (.aaload, 1) := by decide +kernel
theorem dX6_stolen_77 : decode cX6_stolen 77 = .ok (.iload_n 2, 1) := by decide +kernel
theorem dX6_stolen_78 : decode cX6_stolen 78 = .ok (.aload_n 0, 1) := by decide +kernel
theorem dX6_stolen_79 : decode cX6_stolen 79 = .ok (.getfield 35, 3) := by decide +kernel
theorem dX6_stolen_82 : decode cX6_stolen 82 = .ok (.iload_n 1, 1) := by decide +kernel
theorem dX6_stolen_83 : decode cX6_stolen 83 = .ok (.aaload, 1) := by decide +kernel
theorem dX6_stolen_84 : decode cX6_stolen 84 = .ok (.invokestatic 221, 3) := by decide +kernel
theorem dX6_stolen_87 : decode cX6_stolen 87 = .ok (.ifCond .eq 10, 3) := by decide +kernel
theorem dX6_stolen_90 : decode cX6_stolen 90 = .ok (.iload_n 3, 1) := by decide +kernel
theorem dX6_stolen_91 : decode cX6_stolen 91 = .ok (.iconst 1, 1) := by decide +kernel
theorem dX6_stolen_92 : decode cX6_stolen 92 = .ok (.iload 4, 2) := by decide +kernel
theorem dX6_stolen_94 : decode cX6_stolen 94 = .ok (.ishl, 1) := by decide +kernel
theorem dX6_stolen_95 : decode cX6_stolen 95 = .ok (.ior, 1) := by decide +kernel
theorem dX6_stolen_96 : decode cX6_stolen 96 = .ok (.istore_n 3, 1) := by decide +kernel
theorem dX6_stolen_97 : decode cX6_stolen 97 = .ok (.iinc 4 1, 3) := by decide +kernel
theorem dX6_stolen_100 : decode cX6_stolen 100 = .ok (.goto (-45), 3) := by decide +kernel
theorem dX6_stolen_103 : decode cX6_stolen 103 = .ok (.iload_n 3, 1) := by decide +kernel
theorem dX6_stolen_104 : decode cX6_stolen 104 = .ok (.ireturn, 1) := by decide +kernel
theorem dX6_years_0 : decode cX6_years 0 = .ok (.iload_n 1, 1) := by decide +kernel
theorem dX6_years_1 : decode cX6_years 1 = .ok (.iconst 1, 1) := by decide +kernel
theorem dX6_years_2 : decode cX6_years 2 = .ok (.if_icmp .lt 9, 3) := by decide +kernel
theorem dX6_years_5 : decode cX6_years 5 = .ok (.iload_n 1, 1) := by decide +kernel
theorem dX6_years_6 : decode cX6_years 6 = .ok (.bipush 20, 2) := by decide +kernel
theorem dX6_years_8 : decode cX6_years 8 = .ok (.if_icmp .le 10, 3) := by decide +kernel
theorem dX6_years_11 : decode cX6_years 11 = .ok (.aload_n 0, 1) := by decide +kernel
theorem dX6_years_12 : decode cX6_years 12 = .ok (.ldc 55, 2) := by decide +kernel
theorem dX6_years_14 : decode cX6_years 14 = .ok (.invokevirtual 56, 3) := by decide +kernel
theorem dX6_years_17 : decode cX6_years 17 = .ok (.ireturn, 1) := by decide +kernel
theorem dX6_years_18 : decode cX6_years 18 = .ok (.aload_n 0, 1) := by decide +kernel
theorem dX6_years_19 : decode cX6_years 19 = .ok (.getfield 12, 3) := by decide +kernel
theorem dX6_years_22 : decode cX6_years 22 = .ok (.getfield 130, 3) := by decide +kernel
theorem dX6_years_25 : decode cX6_years 25 = .ok (.iload_n 1, 1) := by decide +kernel
theorem dX6_years_26 : decode cX6_years 26 = .ok (.iadd, 1) := by decide +kernel
theorem dX6_years_27 : decode cX6_years 27 = .ok (.ldc 133, 2) := by decide +kernel
theorem dX6_years_29 : decode cX6_years 29 = .ok (.if_icmp .le 10, 3) := by decide +kernel
theorem dX6_years_32 : decode cX6_years 32 = .ok (.aload_n 0, 1) := by decide +kernel
theorem dX6_years_33 : decode cX6_years 33 = .ok (.ldc 134, 2) := by decide +kernel
theorem dX6_years_35 : decode cX6_years 35 = .ok (.invokevirtual 56, 3) := by decide +kernel
theorem dX6_years_38 : decode cX6_years 38 = .ok (.ireturn, 1) := by decide +kernel
theorem dX6_years_39 : decode cX6_years 39 = .ok (.iconst 0, 1) := by decide +kernel
theorem dX6_years_40 : decode cX6_years 40 = .ok (.istore_n 2, 1) := by decide +kernel
theorem dX6_years_41 : decode cX6_years 41 = .ok (.iconst 0, 1) := by decide +kernel
theorem dX6_years_42 : decode cX6_years 42 = .ok (.istore_n 3, 1) := by decide +kernel
theorem dX6_years_43 : decode cX6_years 43 = .ok (.iload_n 3, 1) := by decide +kernel
theorem dX6_years_44 : decode cX6_years 44 = .ok (.iload_n 1, 1) := by decide +kernel
theorem dX6_years_45 : decode cX6_years 45 = .ok (.if_icmp .ge 62, 3) := by decide +kernel
theorem dX6_years_48 : decode cX6_years 48 = .ok (.aload_n 0, 1) := by decide +kernel
theorem dX6_years_49 : decode cX6_years 49 = .ok (.getfield 12, 3) := by decide +kernel
theorem dX6_years_52 : decode cX6_years 52 = .ok (.invokevirtual 135, 3) := by decide +kernel
theorem dX6_years_55 : decode cX6_years 55 = .ok (.aload_n 0, 1) := by decide +kernel
theorem dX6_years_56 : decode cX6_years 56 = .ok (.getfield 12, 3) := by decide +kernel
theorem dX6_years_59 : decode cX6_years 59 = .ok (.getfield 88, 3) := by decide +kernel
theorem dX6_years_62 : decode cX6_years 62 = .ok (.ifCond .le 39, 3) := by decide +kernel
theorem dX6_years_65 : decode cX6_years 65 = .ok (.aload_n 0, 1) := by decide +kernel
theorem dX6_years_66 : decode cX6_years 66 = .ok (.getfield 12, 3) := by decide +kernel
theorem dX6_years_69 : decode cX6_years 69 = .ok (.aload_n 0, 1) := by decide +kernel
theorem dX6_years_70 : decode cX6_years 70 = .ok (.getfield 12, 3) := by decide +kernel
theorem dX6_years_73 : decode cX6_years 73 = .ok (.getfield 97, 3) := by decide +kernel
theorem dX6_years_76 : decode cX6_years 76 = .ok (.aload_n 0, 1) := by decide +kernel
theorem dX6_years_77 : decode cX6_years 77 = .ok (.getfield 12, 3) := by decide +kernel
theorem dX6_years_80 : decode cX6_years 80 = .ok (.invokevirtual 225, 3) := by decide +kernel
theorem dX6_years_83 : decode cX6_years 83 = .ok (.aload_n 0, 1) := by decide +kernel
theorem dX6_years_84 : decode cX6_years 84 = .ok (.getfield 12, 3) := by decide +kernel
theorem dX6_years_87 : decode cX6_years 87 = .ok (.getfield 88, 3) := by decide +kernel
theorem dX6_years_90 : decode cX6_years 90 = .ok (.irem, 1) := by decide +kernel
theorem dX6_years_91 : decode cX6_years 91 = .ok (.aaload, 1) := by decide +kernel
theorem dX6_years_92 : decode cX6_years 92 = .ok (.invokevirtual 127, 3) := by decide +kernel
theorem dX6_years_95 : decode cX6_years 95 = .ok (.ifCond .eq 6, 3) := by decide +kernel
theorem dX6_years_98 : decode cX6_years 98 = .ok (.iinc 2 1, 3) := by decide +kernel
theorem dX6_years_101 : decode cX6_years 101 = .ok (.iinc 3 1, 3) := by decide +kernel
theorem dX6_years_104 : decode cX6_years 104 = .ok (.goto (-61), 3) := by decide +kernel
theorem dX6_years_107 : decode cX6_years 107 = .ok (.iload_n 2, 1) := by decide +kernel
theorem dX6_years_108 : decode cX6_years 108 = .ok (.ireturn, 1) := by decide +kernel
theorem dX6_seed_0 : decode cX6_seed 0 = .ok (.aload_n 0, 1) := by decide +kernel
theorem dX6_seed_1 : decode cX6_seed 1 = .ok (.getfield 12, 3) := by decide +kernel
theorem dX6_seed_4 : decode cX6_seed 4 = .ok (.getfield 228, 3) := by decide +kernel
theorem dX6_seed_7 : decode cX6_seed 7 = .ok (.istore_n 2, 1) := by decide +kernel
theorem dX6_seed_8 : decode cX6_seed 8 = .ok (.aload_n 0, 1) := by decide +kernel
theorem dX6_seed_9 : decode cX6_seed 9 = .ok (.getfield 12, 3) := by decide +kernel
theorem dX6_seed_12 : decode cX6_seed 12 = .ok (.iload_n 1, 1) := by decide +kernel
theorem dX6_seed_13 : decode cX6_seed 13 = .ok (.putfield 228, 3) := by decide +kernel
theorem dX6_seed_16 : decode cX6_seed 16 = .ok (.iload_n 2, 1) := by decide +kernel
theorem dX6_seed_17 : decode cX6_seed 17 = .ok (.ireturn, 1) := by decide +kernel
theorem dX6_feed_0 : decode cX6_feed 0 = .ok (.iload_n 2, 1) := by decide +kernel
theorem dX6_feed_1 : decode cX6_feed 1 = .ok (.iconst 1, 1) := by decide +kernel
theorem dX6_feed_2 : decode cX6_feed 2 = .ok (.if_icmp .lt 8, 3) := by decide +kernel
theorem dX6_feed_5 : decode cX6_feed 5 = .ok (.iload_n 2, 1) := by decide +kernel
theorem dX6_feed_6 : decode cX6_feed 6 = .ok (.iconst 4, 1) := by decide +kernel
theorem dX6_feed_7 : decode cX6_feed 7 = .ok (.if_icmp .le 10, 3) := by decide +kernel
theorem dX6_feed_10 : decode cX6_feed 10 = .ok (.aload_n 0, 1) := by decide +kernel
theorem dX6_feed_11 : decode cX6_feed 11 = .ok (.ldc 55, 2) := by decide +kernel
theorem dX6_feed_13 : decode cX6_feed 13 = .ok (.invokevirtual 56, 3) := by decide +kernel
theorem dX6_feed_16 : decode cX6_feed 16 = .ok (.ireturn, 1) := by decide +kernel
theorem dX6_feed_17 : decode cX6_feed 17 = .ok (.aload_n 0, 1) := by decide +kernel
theorem dX6_feed_18 : decode cX6_feed 18 = .ok (.getfield 29, 3) := by decide +kernel
theorem dX6_feed_21 : decode cX6_feed 21 = .ok (.getfield 231, 3) := by decide +kernel
theorem dX6_feed_24 : decode cX6_feed 24 = .ok (.iload_n 2, 1) := by decide +kernel
theorem dX6_feed_25 : decode cX6_feed 25 = .ok (.iadd, 1) := by decide +kernel
theorem dX6_feed_26 : decode cX6_feed 26 = .ok (.bipush 120, 2) := by decide +kernel
theorem dX6_feed_28 : decode cX6_feed 28 = .ok (.if_icmp .le 10, 3) := by decide +kernel
theorem dX6_feed_31 : decode cX6_feed 31 = .ok (.aload_n 0, 1) := by decide +kernel
theorem dX6_feed_32 : decode cX6_feed 32 = .ok (.ldc 64, 2) := by decide +kernel
theorem dX6_feed_34 : decode cX6_feed 34 = .ok (.invokevirtual 56, 3) := by decide +kernel
theorem dX6_feed_37 : decode cX6_feed 37 = .ok (.ireturn, 1) := by decide +kernel
theorem dX6_feed_38 : decode cX6_feed 38 = .ok (.iload_n 2, 1) := by decide +kernel
theorem dX6_feed_39 : decode cX6_feed 39 = .ok (.iconst 1, 1) := by decide +kernel
theorem dX6_feed_40 : decode cX6_feed 40 = .ok (.isub, 1) := by decide +kernel
theorem dX6_feed_41 : decode cX6_feed 41 = .ok (.istore_n 3, 1) := by decide +kernel
theorem dX6_feed_42 : decode cX6_feed 42 = .ok (.iload_n 3, 1) := by decide +kernel
theorem dX6_feed_43 : decode cX6_feed 43 = .ok (.ifCond .lt 26, 3) := by decide +kernel
theorem dX6_feed_46 : decode cX6_feed 46 = .ok (.aload_n 0, 1) := by decide +kernel
theorem dX6_feed_47 : decode cX6_feed 47 = .ok (.getfield 29, 3) := by decide +kernel
theorem dX6_feed_50 : decode cX6_feed 50 = .ok (.iload_n 1, 1) := by decide +kernel
theorem dX6_feed_51 : decode cX6_feed 51 = .ok (.bipush 8, 2) := by decide +kernel
theorem dX6_feed_53 : decode cX6_feed 53 = .ok (.iload_n 3, 1) := by decide +kernel
theorem dX6_feed_54 : decode cX6_feed 54 = .ok (.imul, 1) := by decide +kernel
theorem dX6_feed_55 : decode cX6_feed 55 = .ok (.iushr, 1) := by decide +kernel
theorem dX6_feed_56 : decode cX6_feed 56 = .ok (.sipush 255, 3) := by decide +kernel
theorem dX6_feed_59 : decode cX6_feed 59 = .ok (.iand, 1) := by decide +kernel
theorem dX6_feed_60 : decode cX6_feed 60 = .ok (.invokevirtual 234, 3) := by decide +kernel
theorem dX6_feed_63 : decode cX6_feed 63 = .ok (.iinc 3 (-1), 3) := by decide +kernel
theorem dX6_feed_66 : decode cX6_feed 66 = .ok (.goto (-24), 3) := by decide +kernel
theorem dX6_feed_69 : decode cX6_feed 69 = .ok (.aload_n 0, 1) := by decide +kernel
theorem dX6_feed_70 : decode cX6_feed 70 = .ok (.getfield 29, 3) := by decide +kernel
theorem dX6_feed_73 : decode cX6_feed 73 = .ok (.getfield 231, 3) := by decide +kernel
theorem dX6_feed_76 : decode cX6_feed 76 = .ok (.ireturn, 1) := by decide +kernel
theorem dX6_wipe_0 : decode cX6_wipe 0 = .ok (.aload_n 0, 1) := by decide +kernel
theorem dX6_wipe_1 : decode cX6_wipe 1 = .ok (.getfield 29, 3) := by decide +kernel
theorem dX6_wipe_4 : decode cX6_wipe 4 = .ok (.getfield 231, 3) := by decide +kernel
theorem dX6_wipe_7 : decode cX6_wipe 7 = .ok (.istore_n 1, 1) := by decide +kernel
theorem dX6_wipe_8 : decode cX6_wipe 8 = .ok (.aload_n 0, 1) := by decide +kernel
theorem dX6_wipe_9 : decode cX6_wipe 9 = .ok (.getfield 29, 3) := by decide +kernel
theorem dX6_wipe_12 : decode cX6_wipe 12 = .ok (.iconst 0, 1) := by decide +kernel
theorem dX6_wipe_13 : decode cX6_wipe 13 = .ok (.putfield 231, 3) := by decide +kernel
theorem dX6_wipe_16 : decode cX6_wipe 16 = .ok (.iload_n 1, 1) := by decide +kernel
theorem dX6_wipe_17 : decode cX6_wipe 17 = .ok (.ireturn, 1) := by decide +kernel
theorem dX6_text_0 : decode cX6_text 0 = .ok (.aload_n 0, 1) := by decide +kernel
theorem dX6_text_1 : decode cX6_text 1 = .ok (.getfield 16, 3) := by decide +kernel
theorem dX6_text_4 : decode cX6_text 4 = .ok (.aload_n 0, 1) := by decide +kernel
theorem dX6_text_5 : decode cX6_text 5 = .ok (.getfield 12, 3) := by decide +kernel
theorem dX6_text_8 : decode cX6_text 8 = .ok (.invokevirtual 150, 3) := by decide +kernel
theorem dX6_text_11 : decode cX6_text 11 = .ok (.aload_n 0, 1) := by decide +kernel
theorem dX6_text_12 : decode cX6_text 12 = .ok (.getfield 29, 3) := by decide +kernel
theorem dX6_text_15 : decode cX6_text 15 = .ok (.aload_n 0, 1) := by decide +kernel
theorem dX6_text_16 : decode cX6_text 16 = .ok (.getfield 16, 3) := by decide +kernel
theorem dX6_text_19 : decode cX6_text 19 = .ok (.invokevirtual 238, 3) := by decide +kernel
theorem dX6_text_22 : decode cX6_text 22 = .ok (.istore_n 1, 1) := by decide +kernel
theorem dX6_text_23 : decode cX6_text 23 = .ok (.aload_n 0, 1) := by decide +kernel
theorem dX6_text_24 : decode cX6_text 24 = .ok (.getfield 29, 3) := by decide +kernel
theorem dX6_text_27 : decode cX6_text 27 = .ok (.iconst 0, 1) := by decide +kernel
theorem dX6_text_28 : decode cX6_text 28 = .ok (.putfield 231, 3) := by decide +kernel
theorem dX6_text_31 : decode cX6_text 31 = .ok (.iload_n 1, 1) := by decide +kernel
theorem dX6_text_32 : decode cX6_text 32 = .ok (.ifCond .lt 14, 3) := by decide +kernel
theorem dX6_text_35 : decode cX6_text 35 = .ok (.aload_n 0, 1) := by decide +kernel
theorem dX6_text_36 : decode cX6_text 36 = .ok (.getfield 12, 3) := by decide +kernel
theorem dX6_text_39 : decode cX6_text 39 = .ok (.aload_n 0, 1) := by decide +kernel
theorem dX6_text_40 : decode cX6_text 40 = .ok (.getfield 16, 3) := by decide +kernel
theorem dX6_text_43 : decode cX6_text 43 = .ok (.invokevirtual 150, 3) := by decide +kernel
theorem dX6_text_46 : decode cX6_text 46 = .ok (.iload_n 1, 1) := by decide +kernel
theorem dX6_text_47 : decode cX6_text 47 = .ok (.ireturn, 1) := by decide +kernel
theorem dX6_hold_0 : decode cX6_hold 0 = .ok (.iload_n 1, 1) := by decide +kernel
theorem dX6_hold_1 : decode cX6_hold 1 = .ok (.bipush 9, 2) := by decide +kernel
theorem dX6_hold_3 : decode cX6_hold 3 = .ok (.invokestatic 51, 3) := by decide +kernel
theorem dX6_hold_6 : decode cX6_hold 6 = .ok (.ifCond .eq 19, 3) := by decide +kernel
theorem dX6_hold_9 : decode cX6_hold 9 = .ok (.iload_n 2, 1) := by decide +kernel
theorem dX6_hold_10 : decode cX6_hold 10 = .ok (.iconst (-1), 1) := by decide +kernel
theorem dX6_hold_11 : decode cX6_hold 11 = .ok (.if_icmp .eq 21, 3) := by decide +kernel
theorem dX6_hold_14 : decode cX6_hold 14 = .ok (.aload_n 0, 1) := by decide +kernel
theorem dX6_hold_15 : decode cX6_hold 15 = .ok (.getfield 12, 3) := by decide +kernel
theorem dX6_hold_18 : decode cX6_hold 18 = .ok (.iload_n 2, 1) := by decide +kernel
theorem dX6_hold_19 : decode cX6_hold 19 = .ok (.invokevirtual 68, 3) := by decide +kernel
theorem dX6_hold_22 : decode cX6_hold 22 = .ok (.ifCond .ne 10, 3) := by decide +kernel
theorem dX6_hold_25 : decode cX6_hold 25 = .ok (.aload_n 0, 1) := by decide +kernel
theorem dX6_hold_26 : decode cX6_hold 26 = .ok (.ldc 55, 2) := by decide +kernel
theorem dX6_hold_28 : decode cX6_hold 28 = .ok (.invokevirtual 56, 3) := by decide +kernel
theorem dX6_hold_31 : decode cX6_hold 31 = .ok (.ireturn, 1) := by decide +kernel
theorem dX6_hold_32 : decode cX6_hold 32 = .ok (.aload_n 0, 1) := by decide +kernel
theorem dX6_hold_33 : decode cX6_hold 33 = .ok (.getfield 12, 3) := by decide +kernel
theorem dX6_hold_36 : decode cX6_hold 36 = .ok (.getfield 242, 3) := by decide +kernel
theorem dX6_hold_39 : decode cX6_hold 39 = .ok (.iload_n 1, 1) := by decide +kernel
theorem dX6_hold_40 : decode cX6_hold 40 = .ok (.iload_n 2, 1) := by decide +kernel
theorem dX6_hold_41 : decode cX6_hold 41 = .ok (.iastore, 1) := by decide +kernel
theorem dX6_hold_42 : decode cX6_hold 42 = .ok (.iconst 1, 1) := by decide +kernel
theorem dX6_hold_43 : decode cX6_hold 43 = .ok (.ireturn, 1) := by decide +kernel
theorem dX6_as_0 : decode cX6_as 0 = .ok (.iload_n 1, 1) := by decide +kernel
theorem dX6_as_1 : decode cX6_as 1 = .ok (.bipush 9, 2) := by decide +kernel
theorem dX6_as_3 : decode cX6_as 3 = .ok (.invokestatic 51, 3) := by decide +kernel
theorem dX6_as_6 : decode cX6_as 6 = .ok (.ifCond .eq 12, 3) := by decide +kernel
theorem dX6_as_9 : decode cX6_as 9 = .ok (.iload_n 2, 1) := by decide +kernel
theorem dX6_as_10 : decode cX6_as 10 = .ok (.bipush 6, 2) := by decide +kernel
theorem dX6_as_12 : decode cX6_as 12 = .ok (.invokestatic 51, 3) := by decide +kernel
theorem dX6_as_15 : decode cX6_as 15 = .ok (.ifCond .ne 10, 3) := by decide +kernel
theorem dX6_as_18 : decode cX6_as 18 = .ok (.aload_n 0, 1) := by decide +kernel
theorem dX6_as_19 : decode cX6_as 19 = .ok (.ldc 55, 2) := by decide +kernel
theorem dX6_as_21 : decode cX6_as 21 = .ok (.invokevirtual 56, 3) := by decide +kernel
theorem dX6_as_24 : decode cX6_as 24 = .ok (.ireturn, 1) := by decide +kernel
theorem dX6_as_25 : decode cX6_as 25 = .ok (.aload_n 0, 1) := by decide +kernel
theorem dX6_as_26 : decode cX6_as 26 = .ok (.getfield 12, 3) := by decide +kernel
theorem dX6_as_29 : decode cX6_as 29 = .ok (.getfield 242, 3) := by decide +kernel
theorem dX6_as_32 : decode cX6_as 32 = .ok (.iload_n 1, 1) := by decide +kernel
theorem dX6_as_33 : decode cX6_as 33 = .ok (.iaload, 1) := by decide +kernel
theorem dX6_as_34 : decode cX6_as 34 = .ok (.istore_n 3, 1) := by decide +kernel
theorem dX6_as_35 : decode cX6_as 35 = .ok (.aload_n 0, 1) := by decide +kernel
theorem dX6_as_36 : decode cX6_as 36 = .ok (.getfield 12, 3) := by decide +kernel
theorem dX6_as_39 : decode cX6_as 39 = .ok (.iload_n 3, 1) := by decide +kernel
theorem dX6_as_40 : decode cX6_as 40 = .ok (.invokevirtual 68, 3) := by decide +kernel
theorem dX6_as_43 : decode cX6_as 43 = .ok (.ifCond .ne 10, 3) := by decide +kernel
theorem dX6_as_46 : decode cX6_as 46 = .ok (.aload_n 0, 1) := by decide +kernel
theorem dX6_as_47 : decode cX6_as 47 = .ok (.ldc 217, 2) := by decide +kernel
theorem dX6_as_49 : decode cX6_as 49 = .ok (.invokevirtual 56, 3) := by decide +kernel
theorem dX6_as_52 : decode cX6_as 52 = .ok (.ireturn, 1) := by decide +kernel
theorem dX6_as_53 : decode cX6_as 53 = .ok (.aload_n 0, 1) := by decide +kernel
theorem dX6_as_54 : decode cX6_as 54 = .ok (.getfield 12, 3) := by decide +kernel
theorem dX6_as_57 : decode cX6_as 57 = .ok (.getfield 72, 3) := by decide +kernel
theorem dX6_as_60 : decode cX6_as 60 = .ok (.iload_n 3, 1) := by decide +kernel
theorem dX6_as_61 : decode cX6_as 61 = .ok (.aaload, 1) := by decide +kernel
theorem dX6_as_62 : decode cX6_as 62 = .ok (.iload_n 2, 1) := by decide +kernel
theorem dX6_as_63 : decode cX6_as 63 = .ok (.invokevirtual 245, 3) := by decide +kernel
theorem dX6_as_66 : decode cX6_as 66 = .ok (.ifCond .eq 7, 3) := by decide +kernel
theorem dX6_as_69 : decode cX6_as 69 = .ok (.iload_n 3, 1) := by decide +kernel
theorem dX6_as_70 : decode cX6_as 70 = .ok (.goto 9, 3) := by decide +kernel
theorem dX6_as_73 : decode cX6_as 73 = .ok (.aload_n 0, 1) := by decide +kernel
theorem dX6_as_74 : decode cX6_as 74 = .ok (.ldc 248, 2) := by decide +kernel
theorem dX6_as_76 : decode cX6_as 76 = .ok (.invokevirtual 56, 3) := by decide +kernel
theorem dX6_as_79 : decode cX6_as 79 = .ok (.ireturn, 1) := by decide +kernel
theorem dX6_sheet_0 : decode cX6_sheet 0 = .ok (.iload_n 1, 1) := by decide +kernel
theorem dX6_sheet_1 : decode cX6_sheet 1 = .ok (.iconst 3, 1) := by decide +kernel
theorem dX6_sheet_2 : decode cX6_sheet 2 = .ok (.invokestatic 51, 3) := by decide +kernel
theorem dX6_sheet_5 : decode cX6_sheet 5 = .ok (.ifCond .eq 10, 3) := by decide +kernel
theorem dX6_sheet_8 : decode cX6_sheet 8 = .ok (.iload_n 2, 1) := by decide +kernel
theorem dX6_sheet_9 : decode cX6_sheet 9 = .ok (.invokestatic 249, 3) := by decide +kernel
theorem dX6_sheet_12 : decode cX6_sheet 12 = .ok (.ifCond .ne 10, 3) := by decide +kernel
theorem dX6_sheet_15 : decode cX6_sheet 15 = .ok (.aload_n 0, 1) := by decide +kernel
theorem dX6_sheet_16 : decode cX6_sheet 16 = .ok (.ldc 55, 2) := by decide +kernel
theorem dX6_sheet_18 : decode cX6_sheet 18 = .ok (.invokevirtual 56, 3) := by decide +kernel
theorem dX6_sheet_21 : decode cX6_sheet 21 = .ok (.ireturn, 1) := by decide +kernel
theorem dX6_sheet_22 : decode cX6_sheet 22 = .ok (.iload_n 3, 1) := by decide +kernel
theorem dX6_sheet_23 : decode cX6_sheet 23 = .ok (.ifCond .ge 10, 3) := by decide +kernel
theorem dX6_sheet_26 : decode cX6_sheet 26 = .ok (.aload_n 0, 1) := by decide +kernel
theorem dX6_sheet_27 : decode cX6_sheet 27 = .ok (.ldc 206, 2) := by decide +kernel
theorem dX6_sheet_29 : decode cX6_sheet 29 = .ok (.invokevirtual 56, 3) := by decide +kernel
theorem dX6_sheet_32 : decode cX6_sheet 32 = .ok (.ireturn, 1) := by decide +kernel
theorem dX6_sheet_33 : decode cX6_sheet 33 = .ok (.iload_n 3, 1) := by decide +kernel
theorem dX6_sheet_34 : decode cX6_sheet 34 = .ok (.bipush 40, 2) := by decide +kernel
theorem dX6_sheet_36 : decode cX6_sheet 36 = .ok (.if_icmp .le 10, 3) := by decide +kernel
theorem dX6_sheet_39 : decode cX6_sheet 39 = .ok (.aload_n 0, 1) := by decide +kernel
theorem dX6_sheet_40 : decode cX6_sheet 40 = .ok (.ldc 55, 2) := by decide +kernel
theorem dX6_sheet_42 : decode cX6_sheet 42 = .ok (.invokevirtual 56, 3) := by decide +kernel
theorem dX6_sheet_45 : decode cX6_sheet 45 = .ok (.ireturn, 1) := by decide +kernel
theorem dX6_sheet_46 : decode cX6_sheet 46 = .ok (.aload_n 0, 1) := by decide +kernel
theorem dX6_sheet_47 : decode cX6_sheet 47 = .ok (.getfield 35, 3) := by decide +kernel
theorem dX6_sheet_50 : decode cX6_sheet 50 = .ok (.iload_n 1, 1) := by decide +kernel
theorem dX6_sheet_51 : decode cX6_sheet 51 = .ok (.aaload, 1) := by decide +kernel
theorem dX6_sheet_52 : decode cX6_sheet 52 = .ok (.iload_n 2, 1) := by decide +kernel
theorem dX6_sheet_53 : decode cX6_sheet 53 = .ok (.iload_n 3, 1) := by decide +kernel
theorem dX6_sheet_54 : decode cX6_sheet 54 = .ok (.invokevirtual 252, 3) := by decide +kernel
theorem dX6_sheet_57 : decode cX6_sheet 57 = .ok (.aload_n 0, 1) := by decide +kernel
theorem dX6_sheet_58 : decode cX6_sheet 58 = .ok (.getfield 35, 3) := by decide +kernel
theorem dX6_sheet_61 : decode cX6_sheet 61 = .ok (.iload_n 1, 1) := by decide +kernel
theorem dX6_sheet_62 : decode cX6_sheet 62 = .ok (.aaload, 1) := by decide +kernel
theorem dX6_sheet_63 : decode cX6_sheet 63 = .ok (.getfield 255, 3) := by decide +kernel
theorem dX6_sheet_66 : decode cX6_sheet 66 = .ok (.ireturn, 1) := by decide +kernel
theorem dX6_write_0 : decode cX6_write 0 = .ok (.iload_n 1, 1) := by decide +kernel
theorem dX6_write_1 : decode cX6_write 1 = .ok (.iconst 3, 1) := by decide +kernel
theorem dX6_write_2 : decode cX6_write 2 = .ok (.invokestatic 51, 3) := by decide +kernel
theorem dX6_write_5 : decode cX6_write 5 = .ok (.ifCond .ne 10, 3) := by decide +kernel
theorem dX6_write_8 : decode cX6_write 8 = .ok (.aload_n 0, 1) := by decide +kernel
theorem dX6_write_9 : decode cX6_write 9 = .ok (.ldc 55, 2) := by decide +kernel
theorem dX6_write_11 : decode cX6_write 11 = .ok (.invokevirtual 56, 3) := by decide +kernel
theorem dX6_write_14 : decode cX6_write 14 = .ok (.ireturn, 1) := by decide +kernel
theorem dX6_write_15 : decode cX6_write 15 = .ok (.aload_n 0, 1) := by decide +kernel
theorem dX6_write_16 : decode cX6_write 16 = .ok (.getfield 35, 3) := by decide +kernel
theorem dX6_write_19 : decode cX6_write 19 = .ok (.iload_n 1, 1) := by decide +kernel
theorem dX6_write_20 : decode cX6_write 20 = .ok (.aaload, 1) := by decide +kernel
theorem dX6_write_21 : decode cX6_write 21 = .ok (.invokevirtual 214, 3) := by decide +kernel
theorem dX6_write_24 : decode cX6_write 24 = .ok (.ifCond .eq 10, 3) := by decide +kernel
theorem dX6_write_27 : decode cX6_write 27 = .ok (.aload_n 0, 1) := by decide +kernel
theorem dX6_write_28 : decode cX6_write 28 = .ok (.ldc 217, 2) := by decide +kernel
theorem dX6_write_30 : decode cX6_write 30 = .ok (.invokevirtual 56, 3) := by decide +kernel
theorem dX6_write_33 : decode cX6_write 33 = .ok (.ireturn, 1) := by decide +kernel
theorem dX6_write_34 : decode cX6_write 34 = .ok (.iload_n 2, 1) := by decide +kernel
theorem dX6_write_35 : decode cX6_write 35 = .ok (.aload_n 0, 1) := by decide +kernel
theorem dX6_write_36 : decode cX6_write 36 = .ok (.getfield 35, 3) := by decide +kernel
theorem dX6_write_39 : decode cX6_write 39 = .ok (.iload_n 1, 1) := by decide +kernel
theorem dX6_write_40 : decode cX6_write 40 = .ok (.aaload, 1) := by decide +kernel
theorem dX6_write_41 : decode cX6_write 41 = .ok (.getfield 255, 3) := by decide +kernel
theorem dX6_write_44 : decode cX6_write 44 = .ok (.iconst 1, 1) := by decide +kernel
theorem dX6_write_45 : decode cX6_write 45 = .ok (.isub, 1) := by decide +kernel
theorem dX6_write_46 : decode cX6_write 46 = .ok (.invokestatic 51, 3) := by decide +kernel
theorem dX6_write_49 : decode cX6_write 49 = .ok (.ifCond .ne 10, 3) := by decide +kernel
theorem dX6_write_52 : decode cX6_write 52 = .ok (.aload_n 0, 1) := by decide +kernel
theorem dX6_write_53 : decode cX6_write 53 = .ok (.ldc 55, 2) := by decide +kernel
theorem dX6_write_55 : decode cX6_write 55 = .ok (.invokevirtual 56, 3) := by decide +kernel
theorem dX6_write_58 : decode cX6_write 58 = .ok (.ireturn, 1) := by decide +kernel
theorem dX6_write_59 : decode cX6_write 59 = .ok (.aload_n 0, 1) := by decide +kernel
theorem dX6_write_60 : decode cX6_write 60 = .ok (.getfield 35, 3) := by decide +kernel
theorem dX6_write_63 : decode cX6_write 63 = .ok (.iload_n 1, 1) := by decide +kernel
theorem dX6_write_64 : decode cX6_write 64 = .ok (.aaload, 1) := by decide +kernel
theorem dX6_write_65 : decode cX6_write 65 = .ok (.iload_n 2, 1) := by decide +kernel
theorem dX6_write_66 : decode cX6_write 66 = .ok (.iload_n 3, 1) := by decide +kernel
theorem dX6_write_67 : decode cX6_write 67 = .ok (.invokevirtual 258, 3) := by decide +kernel
theorem dX6_write_70 : decode cX6_write 70 = .ok (.iconst 1, 1) := by decide +kernel
theorem dX6_write_71 : decode cX6_write 71 = .ok (.ireturn, 1) := by decide +kernel
theorem dX6_copy_0 : decode cX6_copy 0 = .ok (.iload_n 1, 1) := by decide +kernel
theorem dX6_copy_1 : decode cX6_copy 1 = .ok (.iconst 3, 1) := by decide +kernel
theorem dX6_copy_2 : decode cX6_copy 2 = .ok (.invokestatic 51, 3) := by decide +kernel
theorem dX6_copy_5 : decode cX6_copy 5 = .ok (.ifCond .eq 11, 3) := by decide +kernel
theorem dX6_copy_8 : decode cX6_copy 8 = .ok (.iload_n 3, 1) := by decide +kernel
theorem dX6_copy_9 : decode cX6_copy 9 = .ok (.iconst 3, 1) := by decide +kernel
theorem dX6_copy_10 : decode cX6_copy 10 = .ok (.invokestatic 51, 3) := by decide +kernel
theorem dX6_copy_13 : decode cX6_copy 13 = .ok (.ifCond .ne 10, 3) := by decide +kernel
theorem dX6_copy_16 : decode cX6_copy 16 = .ok (.aload_n 0, 1) := by decide +kernel
theorem dX6_copy_17 : decode cX6_copy 17 = .ok (.ldc 55, 2) := by decide +kernel
theorem dX6_copy_19 : decode cX6_copy 19 = .ok (.invokevirtual 56, 3) := by decide +kernel
theorem dX6_copy_22 : decode cX6_copy 22 = .ok (.ireturn, 1) := by decide +kernel
theorem dX6_copy_23 : decode cX6_copy 23 = .ok (.aload_n 0, 1) := by decide +kernel
theorem dX6_copy_24 : decode cX6_copy 24 = .ok (.getfield 35, 3) := by decide +kernel
theorem dX6_copy_27 : decode cX6_copy 27 = .ok (.iload_n 1, 1) := by decide +kernel
theorem dX6_copy_28 : decode cX6_copy 28 = .ok (.aaload, 1) := by decide +kernel
theorem dX6_copy_29 : decode cX6_copy 29 = .ok (.astore 6, 2) := by decide +kernel
theorem dX6_copy_31 : decode cX6_copy 31 = .ok (.aload_n 0, 1) := by decide +kernel
theorem dX6_copy_32 : decode cX6_copy 32 = .ok (.getfield 35, 3) := by decide +kernel
theorem dX6_copy_35 : decode cX6_copy 35 = .ok (.iload_n 3, 1) := by decide +kernel
theorem dX6_copy_36 : decode cX6_copy 36 = .ok (.aaload, 1) := by decide +kernel
theorem dX6_copy_37 : decode cX6_copy 37 = .ok (.astore 7, 2) := by decide +kernel
theorem dX6_copy_39 : decode cX6_copy 39 = .ok (.aload 6, 2) := by decide +kernel
theorem dX6_copy_41 : decode cX6_copy 41 = .ok (.invokevirtual 214, 3) := by decide +kernel
theorem dX6_copy_44 : decode cX6_copy 44 = .ok (.ifCond .ne 11, 3) := by decide +kernel
theorem dX6_copy_47 : decode cX6_copy 47 = .ok (.aload 7, 2) := by decide +kernel
theorem dX6_copy_49 : decode cX6_copy 49 = .ok (.invokevirtual 214, 3) := by decide +kernel
theorem dX6_copy_52 : decode cX6_copy 52 = .ok (.ifCond .eq 10, 3) := by decide +kernel
theorem dX6_copy_55 : decode cX6_copy 55 = .ok (.aload_n 0, 1) := by decide +kernel
theorem dX6_copy_56 : decode cX6_copy 56 = .ok (.ldc 217, 2) := by decide +kernel
theorem dX6_copy_58 : decode cX6_copy 58 = .ok (.invokevirtual 56, 3) := by decide +kernel
theorem dX6_copy_61 : decode cX6_copy 61 = .ok (.ireturn, 1) := by decide +kernel
theorem dX6_copy_62 : decode cX6_copy 62 = .ok (.aload 6, 2) := by decide +kernel
theorem dX6_copy_64 : decode cX6_copy 64 = .ok (.getfield 261, 3) := by decide +kernel
theorem dX6_copy_67 : decode cX6_copy 67 = .ok (.aload 7, 2) := by decide +kernel
theorem dX6_copy_69 : decode cX6_copy 69 = .ok (.getfield 261, 3) := by decide +kernel
theorem dX6_copy_72 : decode cX6_copy 72 = .ok (.if_icmp .eq 10, 3) := by decide +kernel
theorem dX6_copy_75 : decode cX6_copy 75 = .ok (.aload_n 0, 1) := by decide +kernel
theorem dX6_copy_76 : decode cX6_copy 76 = .ok (.ldc 248, 2) := by decide +kernel
theorem dX6_copy_78 : decode cX6_copy 78 = .ok (.invokevirtual 56, 3) := by decide +kernel
theorem dX6_copy_81 : decode cX6_copy 81 = .ok (.ireturn, 1) := by decide +kernel
theorem dX6_copy_82 : decode cX6_copy 82 = .ok (.aload 6, 2) := by decide +kernel
theorem dX6_copy_84 : decode cX6_copy 84 = .ok (.iload_n 2, 1) := by decide +kernel
theorem dX6_copy_85 : decode cX6_copy 85 = .ok (.iload 5, 2) := by decide +kernel
theorem dX6_copy_87 : decode cX6_copy 87 = .ok (.invokevirtual 264, 3) := by decide +kernel
theorem dX6_copy_90 : decode cX6_copy 90 = .ok (.ifCond .eq 15, 3) := by decide +kernel
theorem dX6_copy_93 : decode cX6_copy 93 = .ok (.aload 7, 2) := by decide +kernel
theorem dX6_copy_95 : decode cX6_copy 95 = .ok (.iload 4, 2) := by decide +kernel
theorem dX6_copy_97 : decode cX6_copy 97 = .ok (.iload 5, 2) := by decide +kernel
theorem dX6_copy_99 : decode cX6_copy 99 = .ok (.invokevirtual 264, 3) := by decide +kernel
theorem dX6_copy_102 : decode cX6_copy 102 = .ok (.ifCond .ne 10, 3) := by decide +kernel
theorem dX6_copy_105 : decode cX6_copy 105 = .ok (.aload_n 0, 1) := by decide +kernel
theorem dX6_copy_106 : decode cX6_copy 106 = .ok (.ldc 55, 2) := by decide +kernel
theorem dX6_copy_108 : decode cX6_copy 108 = .ok (.invokevirtual 56, 3) := by decide +kernel
theorem dX6_copy_111 : decode cX6_copy 111 = .ok (.ireturn, 1) := by decide +kernel
theorem dX6_copy_112 : decode cX6_copy 112 = .ok (.aload 6, 2) := by decide +kernel
theorem dX6_copy_114 : decode cX6_copy 114 = .ok (.getfield 267, 3) := by decide +kernel
theorem dX6_copy_117 : decode cX6_copy 117 = .ok (.iload_n 2, 1) := by decide +kernel
theorem dX6_copy_118 : decode cX6_copy 118 = .ok (.aload 7, 2) := by decide +kernel
theorem dX6_copy_120 : decode cX6_copy 120 = .ok (.getfield 267, 3) := by decide +kernel
theorem dX6_copy_123 : decode cX6_copy 123 = .ok (.iload 4, 2) := by decide +kernel
theorem dX6_copy_125 : decode cX6_copy 125 = .ok (.iload 5, 2) := by decide +kernel
theorem dX6_copy_127 : decode cX6_copy 127 = .ok (.invokestatic 270, 3) := by decide +kernel
theorem dX6_copy_130 : decode cX6_copy 130 = .ok (.iload 5, 2) := by decide +kernel
theorem dX6_copy_132 : decode cX6_copy 132 = .ok (.ireturn, 1) := by decide +kernel
theorem dX6_load_0 : decode cX6_load 0 = .ok (.iload_n 1, 1) := by decide +kernel
theorem dX6_load_1 : decode cX6_load 1 = .ok (.iconst 3, 1) := by decide +kernel
theorem dX6_load_2 : decode cX6_load 2 = .ok (.invokestatic 51, 3) := by decide +kernel
theorem dX6_load_5 : decode cX6_load 5 = .ok (.ifCond .ne 10, 3) := by decide +kernel
theorem dX6_load_8 : decode cX6_load 8 = .ok (.aload_n 0, 1) := by decide +kernel
theorem dX6_load_9 : decode cX6_load 9 = .ok (.ldc 55, 2) := by decide +kernel
theorem dX6_load_11 : decode cX6_load 11 = .ok (.invokevirtual 56, 3) := by decide +kernel
theorem dX6_load_14 : decode cX6_load 14 = .ok (.ireturn, 1) := by decide +kernel
theorem dX6_load_15 : decode cX6_load 15 = .ok (.aload_n 0, 1) := by decide +kernel
theorem dX6_load_16 : decode cX6_load 16 = .ok (.getfield 35, 3) := by decide +kernel
theorem dX6_load_19 : decode cX6_load 19 = .ok (.iload_n 1, 1) := by decide +kernel
theorem dX6_load_20 : decode cX6_load 20 = .ok (.aaload, 1) := by decide +kernel
theorem dX6_load_21 : decode cX6_load 21 = .ok (.astore_n 2, 1) := by decide +kernel
theorem dX6_load_22 : decode cX6_load 22 = .ok (.aload_n 2, 1) := by decide +kernel
theorem dX6_load_23 : decode cX6_load 23 = .ok (.invokevirtual 214, 3) := by decide +kernel
theorem dX6_load_26 : decode cX6_load 26 = .ok (.ifCond .eq 10, 3) := by decide +kernel
theorem dX6_load_29 : decode cX6_load 29 = .ok (.aload_n 0, 1) := by decide +kernel
theorem dX6_load_30 : decode cX6_load 30 = .ok (.ldc 217, 2) := by decide +kernel
theorem dX6_load_32 : decode cX6_load 32 = .ok (.invokevirtual 56, 3) := by decide +kernel
theorem dX6_load_35 : decode cX6_load 35 = .ok (.ireturn, 1) := by decide +kernel
theorem dX6_load_36 : decode cX6_load 36 = .ok (.iconst 0, 1) := by decide +kernel
theorem dX6_load_37 : decode cX6_load 37 = .ok (.istore_n 3, 1) := by decide +kernel
theorem dX6_load_38 : decode cX6_load 38 = .ok (.iload_n 3, 1) := by decide +kernel
theorem dX6_load_39 : decode cX6_load 39 = .ok (.aload_n 2, 1) := by decide +kernel
theorem dX6_load_40 : decode cX6_load 40 = .ok (.getfield 255, 3) := by decide +kernel
theorem dX6_load_43 : decode cX6_load 43 = .ok (.if_icmp .ge 54, 3) := by decide +kernel
theorem dX6_load_46 : decode cX6_load 46 = .ok (.iload_n 3, 1) := by decide +kernel
theorem dX6_load_47 : decode cX6_load 47 = .ok (.aload_n 0, 1) := by decide +kernel
theorem dX6_load_48 : decode cX6_load 48 = .ok (.getfield 12, 3) := by decide +kernel
theorem dX6_load_51 : decode cX6_load 51 = .ok (.getfield 60, 3) := by decide +kernel
theorem dX6_load_54 : decode cX6_load 54 = .ok (.if_icmp .ge 43, 3) := by decide +kernel
theorem dX6_load_57 : decode cX6_load 57 = .ok (.aload_n 2, 1) := by decide +kernel
theorem dX6_load_58 : decode cX6_load 58 = .ok (.getfield 267, 3) := by decide +kernel
theorem dX6_load_61 : decode cX6_load 61 = .ok (.iload_n 3, 1) := by decide +kernel
theorem dX6_load_62 : decode cX6_load 62 = .ok (.iaload, 1) := by decide +kernel
theorem dX6_load_63 : decode cX6_load 63 = .ok (.bipush 99, 2) := by decide +kernel
theorem dX6_load_65 : decode cX6_load 65 = .ok (.invokestatic 51, 3) := by decide +kernel
theorem dX6_load_68 : decode cX6_load 68 = .ok (.ifCond .eq 29, 3) := by decide +kernel
theorem dX6_load_71 : decode cX6_load 71 = .ok (.aload_n 0, 1) := by decide +kernel
theorem dX6_load_72 : decode cX6_load 72 = .ok (.getfield 12, 3) := by decide +kernel
theorem dX6_load_75 : decode cX6_load 75 = .ok (.getfield 72, 3) := by decide +kernel
theorem dX6_load_78 : decode cX6_load 78 = .ok (.iload_n 3, 1) := by decide +kernel
theorem dX6_load_79 : decode cX6_load 79 = .ok (.aaload, 1) := by decide +kernel
theorem dX6_load_80 : decode cX6_load 80 = .ok (.getfield 276, 3) := by decide +kernel
theorem dX6_load_83 : decode cX6_load 83 = .ok (.iconst 0, 1) := by decide +kernel
theorem dX6_load_84 : decode cX6_load 84 = .ok (.aload_n 2, 1) := by decide +kernel
theorem dX6_load_85 : decode cX6_load 85 = .ok (.getfield 267, 3) := by decide +kernel
theorem dX6_load_88 : decode cX6_load 88 = .ok (.iload_n 3, 1) := by decide +kernel
theorem dX6_load_89 : decode cX6_load 89 = .ok (.iaload, 1) := by decide +kernel
theorem dX6_load_90 : decode cX6_load 90 = .ok (.iastore, 1) := by decide +kernel
theorem dX6_load_91 : decode cX6_load 91 = .ok (.iinc 3 1, 3) := by decide +kernel
theorem dX6_load_94 : decode cX6_load 94 = .ok (.goto (-56), 3) := by decide +kernel
theorem dX6_load_97 : decode cX6_load 97 = .ok (.iload_n 3, 1) := by decide +kernel
theorem dX6_load_98 : decode cX6_load 98 = .ok (.ireturn, 1) := by decide +kernel
theorem dX6_judge_0 : decode cX6_judge 0 = .ok (.iload_n 1, 1) := by decide +kernel
theorem dX6_judge_1 : decode cX6_judge 1 = .ok (.iconst 3, 1) := by decide +kernel
theorem dX6_judge_2 : decode cX6_judge 2 = .ok (.invokestatic 51, 3) := by decide +kernel
theorem dX6_judge_5 : decode cX6_judge 5 = .ok (.ifCond .ne 10, 3) := by decide +kernel
theorem dX6_judge_8 : decode cX6_judge 8 = .ok (.aload_n 0, 1) := by decide +kernel
theorem dX6_judge_9 : decode cX6_judge 9 = .ok (.ldc 55, 2) := by decide +kernel
theorem dX6_judge_11 : decode cX6_judge 11 = .ok (.invokevirtual 56, 3) := by decide +kernel
theorem dX6_judge_14 : decode cX6_judge 14 = .ok (.ireturn, 1) := by decide +kernel
theorem dX6_judge_15 : decode cX6_judge 15 = .ok (.aload_n 0, 1) := by decide +kernel
theorem dX6_judge_16 : decode cX6_judge 16 = .ok (.getfield 35, 3) := by decide +kernel
theorem dX6_judge_19 : decode cX6_judge 19 = .ok (.iload_n 1, 1) := by decide +kernel
theorem dX6_judge_20 : decode cX6_judge 20 = .ok (.aaload, 1) := by decide +kernel
theorem dX6_judge_21 : decode cX6_judge 21 = .ok (.astore_n 2, 1) := by decide +kernel
theorem dX6_judge_22 : decode cX6_judge 22 = .ok (.aload_n 2, 1) := by decide +kernel
theorem dX6_judge_23 : decode cX6_judge 23 = .ok (.invokevirtual 214, 3) := by decide +kernel
theorem dX6_judge_26 : decode cX6_judge 26 = .ok (.ifCond .eq 10, 3) := by decide +kernel
theorem dX6_judge_29 : decode cX6_judge 29 = .ok (.aload_n 0, 1) := by decide +kernel
theorem dX6_judge_30 : decode cX6_judge 30 = .ok (.ldc 217, 2) := by decide +kernel
theorem dX6_judge_32 : decode cX6_judge 32 = .ok (.invokevirtual 56, 3) := by decide +kernel
theorem dX6_judge_35 : decode cX6_judge 35 = .ok (.ireturn, 1) := by decide +kernel
theorem dX6_judge_36 : decode cX6_judge 36 = .ok (.iconst 0, 1) := by decide +kernel
theorem dX6_judge_37 : decode cX6_judge 37 = .ok (.istore_n 3, 1) := by decide +kernel
theorem dX6_judge_38 : decode cX6_judge 38 = .ok (.iload_n 3, 1) := by decide +kernel
theorem dX6_judge_39 : decode cX6_judge 39 = .ok (.aload_n 2, 1) := by decide +kernel
theorem dX6_judge_40 : decode cX6_judge 40 = .ok (.getfield 255, 3) := by decide +kernel
theorem dX6_judge_43 : decode cX6_judge 43 = .ok (.if_icmp .ge 32, 3) := by decide +kernel
theorem dX6_judge_46 : decode cX6_judge 46 = .ok (.aload_n 0, 1) := by decide +kernel
theorem dX6_judge_47 : decode cX6_judge 47 = .ok (.getfield 12, 3) := by decide +kernel
theorem dX6_judge_50 : decode cX6_judge 50 = .ok (.aload_n 2, 1) := by decide +kernel
theorem dX6_judge_51 : decode cX6_judge 51 = .ok (.getfield 267, 3) := by decide +kernel
theorem dX6_judge_54 : decode cX6_judge 54 = .ok (.iload_n 3, 1) := by decide +kernel
theorem dX6_judge_55 : decode cX6_judge 55 = .ok (.iaload, 1) := by decide +kernel
theorem dX6_judge_56 : decode cX6_judge 56 = .ok (.invokevirtual 94, 3) := by decide +kernel
theorem dX6_judge_59 : decode cX6_judge 59 = .ok (.ifCond .ne 10, 3) := by decide +kernel
theorem dX6_judge_62 : decode cX6_judge 62 = .ok (.aload_n 0, 1) := by decide +kernel
theorem dX6_judge_63 : decode cX6_judge 63 = .ok (.ldc 134, 2) := by decide +kernel
theorem dX6_judge_65 : decode cX6_judge 65 = .ok (.invokevirtual 56, 3) := by decide +kernel
theorem dX6_judge_68 : decode cX6_judge 68 = .ok (.ireturn, 1) := by decide +kernel
theorem dX6_judge_69 : decode cX6_judge 69 = .ok (.iinc 3 1, 3) := by decide +kernel
theorem dX6_judge_72 : decode cX6_judge 72 = .ok (.goto (-34), 3) := by decide +kernel
theorem dX6_judge_75 : decode cX6_judge 75 = .ok (.aload_n 0, 1) := by decide +kernel
theorem dX6_judge_76 : decode cX6_judge 76 = .ok (.getfield 16, 3) := by decide +kernel
theorem dX6_judge_79 : decode cX6_judge 79 = .ok (.aload_n 0, 1) := by decide +kernel
theorem dX6_judge_80 : decode cX6_judge 80 = .ok (.getfield 12, 3) := by decide +kernel
theorem dX6_judge_83 : decode cX6_judge 83 = .ok (.invokevirtual 150, 3) := by decide +kernel
theorem dX6_judge_86 : decode cX6_judge 86 = .ok (.aload_n 0, 1) := by decide +kernel
theorem dX6_judge_87 : decode cX6_judge 87 = .ok (.getfield 16, 3) := by decide +kernel
theorem dX6_judge_90 : decode cX6_judge 90 = .ok (.aload_n 2, 1) := by decide +kernel
theorem dX6_judge_91 : decode cX6_judge 91 = .ok (.getfield 267, 3) := by decide +kernel
theorem dX6_judge_94 : decode cX6_judge 94 = .ok (.aload_n 2, 1) := by decide +kernel
theorem dX6_judge_95 : decode cX6_judge 95 = .ok (.getfield 255, 3) := by decide +kernel
theorem dX6_judge_98 : decode cX6_judge 98 = .ok (.invokevirtual 279, 3) := by decide +kernel
theorem dX6_judge_101 : decode cX6_judge 101 = .ok (.ireturn, 1) := by decide +kernel
theorem dX6_image_0 : decode cX6_image 0 = .ok (.aload_n 0, 1) := by decide +kernel
theorem dX6_image_1 : decode cX6_image 1 = .ok (.getfield 19, 3) := by decide +kernel
theorem dX6_image_4 : decode cX6_image 4 = .ok (.aload_n 0, 1) := by decide +kernel
theorem dX6_image_5 : decode cX6_image 5 = .ok (.getfield 12, 3) := by decide +kernel
theorem dX6_image_8 : decode cX6_image 8 = .ok (.invokevirtual 150, 3) := by decide +kernel
theorem dX6_image_11 : decode cX6_image 11 = .ok (.aload_n 0, 1) := by decide +kernel
theorem dX6_image_12 : decode cX6_image 12 = .ok (.iconst 1, 1) := by decide +kernel
theorem dX6_image_13 : decode cX6_image 13 = .ok (.putfield 22, 3) := by decide +kernel
theorem dX6_image_16 : decode cX6_image 16 = .ok (.iconst 1, 1) := by decide +kernel
theorem dX6_image_17 : decode cX6_image 17 = .ok (.ireturn, 1) := by decide +kernel
theorem dX6_undo_0 : decode cX6_undo 0 = .ok (.aload_n 0, 1) := by decide +kernel
theorem dX6_undo_1 : decode cX6_undo 1 = .ok (.getfield 22, 3) := by decide +kernel
theorem dX6_undo_4 : decode cX6_undo 4 = .ok (.ifCond .ne 10, 3) := by decide +kernel
theorem dX6_undo_7 : decode cX6_undo 7 = .ok (.aload_n 0, 1) := by decide +kernel
theorem dX6_undo_8 : decode cX6_undo 8 = .ok (.ldc 154, 2) := by decide +kernel
theorem dX6_undo_10 : decode cX6_undo 10 = .ok (.invokevirtual 56, 3) := by decide +kernel
theorem dX6_undo_13 : decode cX6_undo 13 = .ok (.ireturn, 1) := by decide +kernel
theorem dX6_undo_14 : decode cX6_undo 14 = .ok (.aload_n 0, 1) := by decide +kernel
theorem dX6_undo_15 : decode cX6_undo 15 = .ok (.getfield 12, 3) := by decide +kernel
theorem dX6_undo_18 : decode cX6_undo 18 = .ok (.aload_n 0, 1) := by decide +kernel
theorem dX6_undo_19 : decode cX6_undo 19 = .ok (.getfield 19, 3) := by decide +kernel
theorem dX6_undo_22 : decode cX6_undo 22 = .ok (.invokevirtual 150, 3) := by decide +kernel
theorem dX6_undo_25 : decode cX6_undo 25 = .ok (.aload_n 0, 1) := by decide +kernel
theorem dX6_undo_26 : decode cX6_undo 26 = .ok (.getfield 12, 3) := by decide +kernel
theorem dX6_undo_29 : decode cX6_undo 29 = .ok (.getfield 130, 3) := by decide +kernel
theorem dX6_undo_32 : decode cX6_undo 32 = .ok (.ireturn, 1) := by decide +kernel
theorem dX6_tear_0 : decode cX6_tear 0 = .ok (.aload_n 0, 1) := by decide +kernel
theorem dX6_tear_1 : decode cX6_tear 1 = .ok (.getfield 22, 3) := by decide +kernel
theorem dX6_tear_4 : decode cX6_tear 4 = .ok (.ifCond .eq 7, 3) := by decide +kernel
theorem dX6_tear_7 : decode cX6_tear 7 = .ok (.iconst 1, 1) := by decide +kernel
theorem dX6_tear_8 : decode cX6_tear 8 = .ok (.goto 4, 3) := by decide +kernel
theorem dX6_tear_11 : decode cX6_tear 11 = .ok (.iconst 0, 1) := by decide +kernel
theorem dX6_tear_12 : decode cX6_tear 12 = .ok (.istore_n 1, 1) := by decide +kernel
theorem dX6_tear_13 : decode cX6_tear 13 = .ok (.aload_n 0, 1) := by decide +kernel
theorem dX6_tear_14 : decode cX6_tear 14 = .ok (.iconst 0, 1) := by decide +kernel
theorem dX6_tear_15 : decode cX6_tear 15 = .ok (.putfield 22, 3) := by decide +kernel
theorem dX6_tear_18 : decode cX6_tear 18 = .ok (.iload_n 1, 1) := by decide +kernel
theorem dX6_tear_19 : decode cX6_tear 19 = .ok (.ireturn, 1) := by decide +kernel
theorem dX6_count_0 : decode cX6_count 0 = .ok (.iload_n 1, 1) := by decide +kernel
theorem dX6_count_1 : decode cX6_count 1 = .ok (.tableswitch 114 0 7 #[47, 55, 63, 71, 82, 90, 98, 106], 47) := by decide +kernel
theorem dX6_count_48 : decode cX6_count 48 = .ok (.aload_n 0, 1) := by decide +kernel
theorem dX6_count_49 : decode cX6_count 49 = .ok (.getfield 12, 3) := by decide +kernel
theorem dX6_count_52 : decode cX6_count 52 = .ok (.getfield 130, 3) := by decide +kernel
theorem dX6_count_55 : decode cX6_count 55 = .ok (.ireturn, 1) := by decide +kernel
theorem dX6_count_56 : decode cX6_count 56 = .ok (.aload_n 0, 1) := by decide +kernel
theorem dX6_count_57 : decode cX6_count 57 = .ok (.getfield 12, 3) := by decide +kernel
theorem dX6_count_60 : decode cX6_count 60 = .ok (.getfield 60, 3) := by decide +kernel
theorem dX6_count_63 : decode cX6_count 63 = .ok (.ireturn, 1) := by decide +kernel
theorem dX6_count_64 : decode cX6_count 64 = .ok (.aload_n 0, 1) := by decide +kernel
theorem dX6_count_65 : decode cX6_count 65 = .ok (.getfield 12, 3) := by decide +kernel
theorem dX6_count_68 : decode cX6_count 68 = .ok (.getfield 88, 3) := by decide +kernel
theorem dX6_count_71 : decode cX6_count 71 = .ok (.ireturn, 1) := by decide +kernel
theorem dX6_count_72 : decode cX6_count 72 = .ok (.aload_n 0, 1) := by decide +kernel
theorem dX6_count_73 : decode cX6_count 73 = .ok (.getfield 12, 3) := by decide +kernel
theorem dX6_count_76 : decode cX6_count 76 = .ok (.invokevirtual 141, 3) := by decide +kernel
theorem dX6_count_79 : decode cX6_count 79 = .ok (.invokestatic 165, 3) := by decide +kernel
theorem dX6_count_82 : decode cX6_count 82 = .ok (.ireturn, 1) := by decide +kernel
theorem dX6_count_83 : decode cX6_count 83 = .ok (.aload_n 0, 1) := by decide +kernel
theorem dX6_count_84 : decode cX6_count 84 = .ok (.getfield 12, 3) := by decide +kernel
theorem dX6_count_87 : decode cX6_count 87 = .ok (.invokevirtual 138, 3) := by decide +kernel
theorem dX6_count_90 : decode cX6_count 90 = .ok (.ireturn, 1) := by decide +kernel
theorem dX6_count_91 : decode cX6_count 91 = .ok (.aload_n 0, 1) := by decide +kernel
theorem dX6_count_92 : decode cX6_count 92 = .ok (.getfield 29, 3) := by decide +kernel
theorem dX6_count_95 : decode cX6_count 95 = .ok (.getfield 231, 3) := by decide +kernel
theorem dX6_count_98 : decode cX6_count 98 = .ok (.ireturn, 1) := by decide +kernel
theorem dX6_count_99 : decode cX6_count 99 = .ok (.aload_n 0, 1) := by decide +kernel
theorem dX6_count_100 : decode cX6_count 100 = .ok (.getfield 12, 3) := by decide +kernel
theorem dX6_count_103 : decode cX6_count 103 = .ok (.getfield 228, 3) := by decide +kernel
theorem dX6_count_106 : decode cX6_count 106 = .ok (.ireturn, 1) := by decide +kernel
theorem dX6_count_107 : decode cX6_count 107 = .ok (.aload_n 0, 1) := by decide +kernel
theorem dX6_count_108 : decode cX6_count 108 = .ok (.getfield 12, 3) := by decide +kernel
theorem dX6_count_111 : decode cX6_count 111 = .ok (.invokevirtual 283, 3) := by decide +kernel
theorem dX6_count_114 : decode cX6_count 114 = .ok (.ireturn, 1) := by decide +kernel
theorem dX6_count_115 : decode cX6_count 115 = .ok (.aload_n 0, 1) := by decide +kernel
theorem dX6_count_116 : decode cX6_count 116 = .ok (.ldc 55, 2) := by decide +kernel
theorem dX6_count_118 : decode cX6_count 118 = .ok (.invokevirtual 56, 3) := by decide +kernel
theorem dX6_count_121 : decode cX6_count 121 = .ok (.ireturn, 1) := by decide +kernel
theorem dX6_status_0 : decode cX6_status 0 = .ok (.iload_n 1, 1) := by decide +kernel
theorem dX6_status_1 : decode cX6_status 1 = .ok (.iconst (-1), 1) := by decide +kernel
theorem dX6_status_2 : decode cX6_status 2 = .ok (.if_icmp .ne 30, 3) := by decide +kernel
theorem dX6_status_5 : decode cX6_status 5 = .ok (.iconst 0, 1) := by decide +kernel
theorem dX6_status_6 : decode cX6_status 6 = .ok (.istore_n 2, 1) := by decide +kernel
theorem dX6_status_7 : decode cX6_status 7 = .ok (.iconst 0, 1) := by decide +kernel
theorem dX6_status_8 : decode cX6_status 8 = .ok (.istore_n 3, 1) := by decide +kernel
theorem dX6_status_9 : decode cX6_status 9 = .ok (.iload_n 3, 1) := by decide +kernel
theorem dX6_status_10 : decode cX6_status 10 = .ok (.bipush 7, 2) := by decide +kernel
theorem dX6_status_12 : decode cX6_status 12 = .ok (.if_icmp .ge 18, 3) := by decide +kernel
theorem dX6_status_15 : decode cX6_status 15 = .ok (.iload_n 2, 1) := by decide +kernel
theorem dX6_status_16 : decode cX6_status 16 = .ok (.aload_n 0, 1) := by decide +kernel
theorem dX6_status_17 : decode cX6_status 17 = .ok (.getfield 46, 3) := by decide +kernel
theorem dX6_status_20 : decode cX6_status 20 = .ok (.iload_n 3, 1) := by decide +kernel
theorem dX6_status_21 : decode cX6_status 21 = .ok (.iaload, 1) := by decide +kernel
theorem dX6_status_22 : decode cX6_status 22 = .ok (.iadd, 1) := by decide +kernel
theorem dX6_status_23 : decode cX6_status 23 = .ok (.istore_n 2, 1) := by decide +kernel
theorem dX6_status_24 : decode cX6_status 24 = .ok (.iinc 3 1, 3) := by decide +kernel
theorem dX6_status_27 : decode cX6_status 27 = .ok (.goto (-18), 3) := by decide +kernel
theorem dX6_status_30 : decode cX6_status 30 = .ok (.iload_n 2, 1) := by decide +kernel
theorem dX6_status_31 : decode cX6_status 31 = .ok (.ireturn, 1) := by decide +kernel
theorem dX6_status_32 : decode cX6_status 32 = .ok (.iload_n 1, 1) := by decide +kernel
theorem dX6_status_33 : decode cX6_status 33 = .ok (.bipush 6, 2) := by decide +kernel
theorem dX6_status_35 : decode cX6_status 35 = .ok (.invokestatic 51, 3) := by decide +kernel
theorem dX6_status_38 : decode cX6_status 38 = .ok (.ifCond .eq 12, 3) := by decide +kernel
theorem dX6_status_41 : decode cX6_status 41 = .ok (.aload_n 0, 1) := by decide +kernel
theorem dX6_status_42 : decode cX6_status 42 = .ok (.getfield 46, 3) := by decide +kernel
theorem dX6_status_45 : decode cX6_status 45 = .ok (.iload_n 1, 1) := by decide +kernel
theorem dX6_status_46 : decode cX6_status 46 = .ok (.iaload, 1) := by decide +kernel
theorem dX6_status_47 : decode cX6_status 47 = .ok (.goto 9, 3) := by decide +kernel
theorem dX6_status_50 : decode cX6_status 50 = .ok (.aload_n 0, 1) := by decide +kernel
theorem dX6_status_51 : decode cX6_status 51 = .ok (.ldc 55, 2) := by decide +kernel
theorem dX6_status_53 : decode cX6_status 53 = .ok (.invokevirtual 56, 3) := by decide +kernel
theorem dX6_status_56 : decode cX6_status 56 = .ok (.ireturn, 1) := by decide +kernel
theorem dX6_finding_0 : decode cX6_finding 0 = .ok (.ldc 55, 2) := by decide +kernel
theorem dX6_finding_2 : decode cX6_finding 2 = .ok (.iload_n 1, 1) := by decide +kernel
theorem dX6_finding_3 : decode cX6_finding 3 = .ok (.isub, 1) := by decide +kernel
theorem dX6_finding_4 : decode cX6_finding 4 = .ok (.istore_n 2, 1) := by decide +kernel
theorem dX6_finding_5 : decode cX6_finding 5 = .ok (.iload_n 2, 1) := by decide +kernel
theorem dX6_finding_6 : decode cX6_finding 6 = .ok (.bipush 6, 2) := by decide +kernel
theorem dX6_finding_8 : decode cX6_finding 8 = .ok (.invokestatic 51, 3) := by decide +kernel
theorem dX6_finding_11 : decode cX6_finding 11 = .ok (.ifCond .eq 13, 3) := by decide +kernel
theorem dX6_finding_14 : decode cX6_finding 14 = .ok (.aload_n 0, 1) := by decide +kernel
theorem dX6_finding_15 : decode cX6_finding 15 = .ok (.getfield 46, 3) := by decide +kernel
theorem dX6_finding_18 : decode cX6_finding 18 = .ok (.iload_n 2, 1) := by decide +kernel
theorem dX6_finding_19 : decode cX6_finding 19 = .ok (.dup2, 1) := by decide +kernel
theorem dX6_finding_20 : decode cX6_finding 20 = .ok (.iaload, 1) := by decide +kernel
theorem dX6_finding_21 : decode cX6_finding 21 = .ok (.iconst 1, 1) := by decide +kernel
theorem dX6_finding_22 : decode cX6_finding 22 = .ok (.iadd, 1) := by decide +kernel
theorem dX6_finding_23 : decode cX6_finding 23 = .ok (.iastore, 1) := by decide +kernel
theorem dX6_finding_24 : decode cX6_finding 24 = .ok (.iload_n 1, 1) := by decide +kernel
theorem dX6_finding_25 : decode cX6_finding 25 = .ok (.ireturn, 1) := by decide +kernel
theorem dX6_isUpTo_0 : decode cX6_isUpTo 0 = .ok (.iload_n 0, 1) := by decide +kernel
theorem dX6_isUpTo_1 : decode cX6_isUpTo 1 = .ok (.ifCond .lt 12, 3) := by decide +kernel
theorem dX6_isUpTo_4 : decode cX6_isUpTo 4 = .ok (.iload_n 0, 1) := by decide +kernel
theorem dX6_isUpTo_5 : decode cX6_isUpTo 5 = .ok (.iload_n 1, 1) := by decide +kernel
theorem dX6_isUpTo_6 : decode cX6_isUpTo 6 = .ok (.if_icmp .gt 7, 3) := by decide +kernel
theorem dX6_isUpTo_9 : decode cX6_isUpTo 9 = .ok (.iconst 1, 1) := by decide +kernel
theorem dX6_isUpTo_10 : decode cX6_isUpTo 10 = .ok (.goto 4, 3) := by decide +kernel
theorem dX6_isUpTo_13 : decode cX6_isUpTo 13 = .ok (.iconst 0, 1) := by decide +kernel
theorem dX6_isUpTo_14 : decode cX6_isUpTo 14 = .ok (.ireturn, 1) := by decide +kernel
theorem dX6_isAgenda_0 : decode cX6_isAgenda 0 = .ok (.iload_n 1, 1) := by decide +kernel
theorem dX6_isAgenda_1 : decode cX6_isAgenda 1 = .ok (.aload_n 0, 1) := by decide +kernel
theorem dX6_isAgenda_2 : decode cX6_isAgenda 2 = .ok (.getfield 12, 3) := by decide +kernel
theorem dX6_isAgenda_5 : decode cX6_isAgenda 5 = .ok (.invokevirtual 286, 3) := by decide +kernel
theorem dX6_isAgenda_8 : decode cX6_isAgenda 8 = .ok (.invokestatic 51, 3) := by decide +kernel
theorem dX6_isAgenda_11 : decode cX6_isAgenda 11 = .ok (.ifCond .eq 15, 3) := by decide +kernel
theorem dX6_isAgenda_14 : decode cX6_isAgenda 14 = .ok (.iload_n 1, 1) := by decide +kernel
theorem dX6_isAgenda_15 : decode cX6_isAgenda 15 = .ok (.invokestatic 165, 3) := by decide +kernel
theorem dX6_isAgenda_18 : decode cX6_isAgenda 18 = .ok (.iconst 5, 1) := by decide +kernel
theorem dX6_isAgenda_19 : decode cX6_isAgenda 19 = .ok (.if_icmp .gt 7, 3) := by decide +kernel
theorem dX6_isAgenda_22 : decode cX6_isAgenda 22 = .ok (.iconst 1, 1) := by decide +kernel
theorem dX6_isAgenda_23 : decode cX6_isAgenda 23 = .ok (.goto 4, 3) := by decide +kernel
theorem dX6_isAgenda_26 : decode cX6_isAgenda 26 = .ok (.iconst 0, 1) := by decide +kernel
theorem dX6_isAgenda_27 : decode cX6_isAgenda 27 = .ok (.ireturn, 1) := by decide +kernel
theorem dX6_tryWants_0 : decode cX6_tryWants 0 = .ok (.aload_n 0, 1) := by decide +kernel
theorem dX6_tryWants_1 : decode cX6_tryWants 1 = .ok (.getfield 16, 3) := by decide +kernel
theorem dX6_tryWants_4 : decode cX6_tryWants 4 = .ok (.getfield 97, 3) := by decide +kernel
theorem dX6_tryWants_7 : decode cX6_tryWants 7 = .ok (.iload_n 1, 1) := by decide +kernel
theorem dX6_tryWants_8 : decode cX6_tryWants 8 = .ok (.aaload, 1) := by decide +kernel
theorem dX6_tryWants_9 : decode cX6_tryWants 9 = .ok (.iload_n 2, 1) := by decide +kernel
theorem dX6_tryWants_10 : decode cX6_tryWants 10 = .ok (.putfield 159, 3) := by decide +kernel
theorem dX6_tryWants_13 : decode cX6_tryWants 13 = .ok (.aload_n 0, 1) := by decide +kernel
theorem dX6_tryWants_14 : decode cX6_tryWants 14 = .ok (.getfield 16, 3) := by decide +kernel
theorem dX6_tryWants_17 : decode cX6_tryWants 17 = .ok (.aload_n 0, 1) := by decide +kernel
theorem dX6_tryWants_18 : decode cX6_tryWants 18 = .ok (.getfield 16, 3) := by decide +kernel
theorem dX6_tryWants_21 : decode cX6_tryWants 21 = .ok (.getfield 97, 3) := by decide +kernel
theorem dX6_tryWants_24 : decode cX6_tryWants 24 = .ok (.iload_n 1, 1) := by decide +kernel
theorem dX6_tryWants_25 : decode cX6_tryWants 25 = .ok (.aaload, 1) := by decide +kernel
theorem dX6_tryWants_26 : decode cX6_tryWants 26 = .ok (.invokevirtual 123, 3) := by decide +kernel
theorem dX6_tryWants_29 : decode cX6_tryWants 29 = .ok (.ireturn, 1) := by decide +kernel
theorem dX6_isRobbed_0 : decode cX6_isRobbed 0 = .ok (.iconst 0, 1) := by decide +kernel
theorem dX6_isRobbed_1 : decode cX6_isRobbed 1 = .ok (.istore_n 3, 1) := by decide +kernel
theorem dX6_isRobbed_2 : decode cX6_isRobbed 2 = .ok (.iload_n 3, 1) := by decide +kernel
theorem dX6_isRobbed_3 : decode cX6_isRobbed 3 = .ok (.iconst 4, 1) := by decide +kernel
theorem dX6_isRobbed_4 : decode cX6_isRobbed 4 = .ok (.if_icmp .ge 31, 3) := by decide +kernel
theorem dX6_isRobbed_7 : decode cX6_isRobbed 7 = .ok (.aload_n 2, 1) := by decide +kernel
theorem dX6_isRobbed_8 : decode cX6_isRobbed 8 = .ok (.iload_n 3, 1) := by decide +kernel
theorem dX6_isRobbed_9 : decode cX6_isRobbed 9 = .ok (.iconst 0, 1) := by decide +kernel
theorem dX6_isRobbed_10 : decode cX6_isRobbed 10 = .ok (.aload_n 0, 1) := by decide +kernel
theorem dX6_isRobbed_11 : decode cX6_isRobbed 11 = .ok (.getfield 276, 3) := by decide +kernel
theorem dX6_isRobbed_14 : decode cX6_isRobbed 14 = .ok (.iload_n 3, 1) := by decide +kernel
theorem dX6_isRobbed_15 : decode cX6_isRobbed 15 = .ok (.iaload, 1) := by decide +kernel
theorem dX6_isRobbed_16 : decode cX6_isRobbed 16 = .ok (.iload_n 1, 1) := by decide +kernel
theorem dX6_isRobbed_17 : decode cX6_isRobbed 17 = .ok (.isub, 1) := by decide +kernel
theorem dX6_isRobbed_18 : decode cX6_isRobbed 18 = .ok (.invokestatic 289, 3) := by decide +kernel
theorem dX6_isRobbed_21 : decode cX6_isRobbed 21 = .ok (.invokevirtual 218, 3) := by decide +kernel
theorem dX6_isRobbed_24 : decode cX6_isRobbed 24 = .ok (.ifCond .ne 5, 3) := by decide +kernel
theorem dX6_isRobbed_27 : decode cX6_isRobbed 27 = .ok (.iconst 0, 1) := by decide +kernel
theorem dX6_isRobbed_28 : decode cX6_isRobbed 28 = .ok (.ireturn, 1) := by decide +kernel
theorem dX6_isRobbed_29 : decode cX6_isRobbed 29 = .ok (.iinc 3 1, 3) := by decide +kernel
theorem dX6_isRobbed_32 : decode cX6_isRobbed 32 = .ok (.goto (-30), 3) := by decide +kernel
theorem dX6_isRobbed_35 : decode cX6_isRobbed 35 = .ok (.iconst 1, 1) := by decide +kernel
theorem dX6_isRobbed_36 : decode cX6_isRobbed 36 = .ok (.ireturn, 1) := by decide +kernel
theorem dX6_commonDivisor_0 : decode cX6_commonDivisor 0 = .ok (.iload_n 1, 1) := by decide +kernel
theorem dX6_commonDivisor_1 : decode cX6_commonDivisor 1 = .ok (.istore_n 2, 1) := by decide +kernel
theorem dX6_commonDivisor_2 : decode cX6_commonDivisor 2 = .ok (.iload_n 2, 1) := by decide +kernel
theorem dX6_commonDivisor_3 : decode cX6_commonDivisor 3 = .ok (.iconst 1, 1) := by decide +kernel
theorem dX6_commonDivisor_4 : decode cX6_commonDivisor 4 = .ok (.if_icmp .le 23, 3) := by decide +kernel
theorem dX6_commonDivisor_7 : decode cX6_commonDivisor 7 = .ok (.iload_n 0, 1) := by decide +kernel
theorem dX6_commonDivisor_8 : decode cX6_commonDivisor 8 = .ok (.iload_n 2, 1) := by decide +kernel
theorem dX6_commonDivisor_9 : decode cX6_commonDivisor 9 = .ok (.irem, 1) := by decide +kernel
theorem dX6_commonDivisor_10 : decode cX6_commonDivisor 10 = .ok (.ifCond .ne 11, 3) := by decide +kernel
theorem dX6_commonDivisor_13 : decode cX6_commonDivisor 13 = .ok (.iload_n 1, 1) := by decide +kernel
theorem dX6_commonDivisor_14 : decode cX6_commonDivisor 14 = .ok (.iload_n 2, 1) := by decide +kernel
theorem dX6_commonDivisor_15 : decode cX6_commonDivisor 15 = .ok (.irem, 1) := by decide +kernel
theorem dX6_commonDivisor_16 : decode cX6_commonDivisor 16 = .ok (.ifCond .ne 5, 3) := by decide +kernel
theorem dX6_commonDivisor_19 : decode cX6_commonDivisor 19 = .ok (.iload_n 2, 1) := by decide +kernel
theorem dX6_commonDivisor_20 : decode cX6_commonDivisor 20 = .ok (.ireturn, 1) := by decide +kernel
theorem dX6_commonDivisor_21 : decode cX6_commonDivisor 21 = .ok (.iinc 2 (-1), 3) := by decide +kernel
theorem dX6_commonDivisor_24 : decode cX6_commonDivisor 24 = .ok (.goto (-22), 3) := by decide +kernel
theorem dX6_commonDivisor_27 : decode cX6_commonDivisor 27 = .ok (.iconst 1, 1) := by decide +kernel
theorem dX6_commonDivisor_28 : decode cX6_commonDivisor 28 = .ok (.ireturn, 1) := by decide +kernel
theorem dX6_powerOf_0 : decode cX6_powerOf 0 = .ok (.lconst 1, 1) := by decide +kernel
theorem dX6_powerOf_1 : decode cX6_powerOf 1 = .ok (.lstore_n 2, 1) := by decide +kernel
theorem dX6_powerOf_2 : decode cX6_powerOf 2 = .ok (.iconst 0, 1) := by decide +kernel
theorem dX6_powerOf_3 : decode cX6_powerOf 3 = .ok (.istore 4, 2) := by decide +kernel
theorem dX6_powerOf_5 : decode cX6_powerOf 5 = .ok (.iload 4, 2) := by decide +kernel
theorem dX6_powerOf_7 : decode cX6_powerOf 7 = .ok (.iload_n 1, 1) := by decide +kernel
theorem dX6_powerOf_8 : decode cX6_powerOf 8 = .ok (.if_icmp .ge 14, 3) := by decide +kernel
theorem dX6_powerOf_11 : decode cX6_powerOf 11 = .ok (.lload_n 2, 1) := by decide +kernel
theorem dX6_powerOf_12 : decode cX6_powerOf 12 = .ok (.iload_n 0, 1) := by decide +kernel
theorem dX6_powerOf_13 : decode cX6_powerOf 13 = .ok (.i2l, 1) := by decide +kernel
theorem dX6_powerOf_14 : decode cX6_powerOf 14 = .ok (.lmul, 1) := by decide +kernel
theorem dX6_powerOf_15 : decode cX6_powerOf 15 = .ok (.lstore_n 2, 1) := by decide +kernel
theorem dX6_powerOf_16 : decode cX6_powerOf 16 = .ok (.iinc 4 1, 3) := by decide +kernel
theorem dX6_powerOf_19 : decode cX6_powerOf 19 = .ok (.goto (-14), 3) := by decide +kernel
theorem dX6_powerOf_22 : decode cX6_powerOf 22 = .ok (.lload_n 2, 1) := by decide +kernel
theorem dX6_powerOf_23 : decode cX6_powerOf 23 = .ok (.lreturn, 1) := by decide +kernel
end
section
theorem dX7_init_0 : decode cX7_init 0 = .ok (.aload_n 0, 1) := by decide +kernel
theorem dX7_init_1 : decode cX7_init 1 = .ok (.invokespecial 1, 3) := by decide +kernel
theorem dX7_init_4 : decode cX7_init 4 = .ok (.aload_n 0, 1) := by decide +kernel
theorem dX7_init_5 : decode cX7_init 5 = .ok (.bipush 114, 2) := by decide +kernel
theorem dX7_init_7 : decode cX7_init 7 = .ok (.newarray .int, 2) := by decide +kernel
theorem dX7_init_9 : decode cX7_init 9 = .ok (.putfield 9, 3) := by decide +kernel
theorem dX7_init_12 : decode cX7_init 12 = .ok (.aload_n 0, 1) := by decide +kernel
theorem dX7_init_13 : decode cX7_init 13 = .ok (.bipush 114, 2) := by decide +kernel
theorem dX7_init_15 : decode cX7_init 15 = .ok (.newarray .int, 2) := by decide +kernel
theorem dX7_init_17 : decode cX7_init 17 = .ok (.putfield 13, 3) := by decide +kernel
theorem dX7_init_20 : decode cX7_init 20 = .ok (.aload_n 0, 1) := by decide +kernel
theorem dX7_init_21 : decode cX7_init 21 = .ok (.bipush 114, 2) := by decide +kernel
theorem dX7_init_23 : decode cX7_init 23 = .ok (.newarray .int, 2) := by decide +kernel
theorem dX7_init_25 : decode cX7_init 25 = .ok (.putfield 16, 3) := by decide +kernel
theorem dX7_init_28 : decode cX7_init 28 = .ok (.aload_n 0, 1) := by decide +kernel
theorem dX7_init_29 : decode cX7_init 29 = .ok (.bipush 7, 2) := by decide +kernel
theorem dX7_init_31 : decode cX7_init 31 = .ok (.newarray .int, 2) := by decide +kernel
theorem dX7_init_33 : decode cX7_init 33 = .ok (.putfield 19, 3) := by decide +kernel
theorem dX7_init_36 : decode cX7_init 36 = .ok (.aload_n 0, 1) := by decide +kernel
theorem dX7_init_37 : decode cX7_init 37 = .ok (.bipush 8, 2) := by decide +kernel
theorem dX7_init_39 : decode cX7_init 39 = .ok (.newarray .int, 2) := by decide +kernel
theorem dX7_init_41 : decode cX7_init 41 = .ok (.putfield 22, 3) := by decide +kernel
theorem dX7_init_44 : decode cX7_init 44 = .ok (.aload_n 0, 1) := by decide +kernel
theorem dX7_init_45 : decode cX7_init 45 = .ok (.iconst 5, 1) := by decide +kernel
theorem dX7_init_46 : decode cX7_init 46 = .ok (.newarray .int, 2) := by decide +kernel
theorem dX7_init_48 : decode cX7_init 48 = .ok (.putfield 25, 3) := by decide +kernel
theorem dX7_init_51 : decode cX7_init 51 = .ok (.aload_n 0, 1) := by decide +kernel
theorem dX7_init_52 : decode cX7_init 52 = .ok (.iconst 5, 1) := by decide +kernel
theorem dX7_init_53 : decode cX7_init 53 = .ok (.newarray .int, 2) := by decide +kernel
theorem dX7_init_55 : decode cX7_init 55 = .ok (.putfield 28, 3) := by decide +kernel
theorem dX7_init_58 : decode cX7_init 58 = .ok (.aload_n 0, 1) := by decide +kernel
theorem dX7_init_59 : decode cX7_init 59 = .ok (.bipush 120, 2) := by decide +kernel
theorem dX7_init_61 : decode cX7_init 61 = .ok (.newarray .int, 2) := by decide +kernel
theorem dX7_init_63 : decode cX7_init 63 = .ok (.putfield 31, 3) := by decide +kernel
theorem dX7_init_66 : decode cX7_init 66 = .ok (.aload_n 0, 1) := by decide +kernel
theorem dX7_init_67 : decode cX7_init 67 = .ok (.bipush 56, 2) := by decide +kernel
theorem dX7_init_69 : decode cX7_init 69 = .ok (.newarray .char, 2) := by decide +kernel
theorem dX7_init_71 : decode cX7_init 71 = .ok (.dup, 1) := by decide +kernel
theorem dX7_init_72 : decode cX7_init 72 = .ok (.iconst 0, 1) := by decide +kernel
theorem dX7_init_73 : decode cX7_init 73 = .ok (.bipush 98, 2) := by decide +kernel
theorem dX7_init_75 : decode cX7_init 75 = .ok (.castore, 1) := by decide +kernel
theorem dX7_init_76 : decode cX7_init 76 = .ok (.dup, 1) := by decide +kernel
theorem dX7_init_77 : decode cX7_init 77 = .ok (.iconst 1, 1) := by decide +kernel
theorem dX7_init_78 : decode cX7_init 78 = .ok (.bipush 105, 2) := by decide +kernel
theorem dX7_init_80 : decode cX7_init 80 = .ok (.castore, 1) := by decide +kernel
theorem dX7_init_81 : decode cX7_init 81 = .ok (.dup, 1) := by decide +kernel
theorem dX7_init_82 : decode cX7_init 82 = .ok (.iconst 2, 1) := by decide +kernel
theorem dX7_init_83 : decode cX7_init 83 = .ok (.bipush 114, 2) := by decide +kernel
theorem dX7_init_85 : decode cX7_init 85 = .ok (.castore, 1) := by decide +kernel
theorem dX7_init_86 : decode cX7_init 86 = .ok (.dup, 1) := by decide +kernel
theorem dX7_init_87 : decode cX7_init 87 = .ok (.iconst 3, 1) := by decide +kernel
theorem dX7_init_88 : decode cX7_init 88 = .ok (.bipush 100, 2) := by decide +kernel
theorem dX7_init_90 : decode cX7_init 90 = .ok (.castore, 1) := by decide +kernel
theorem dX7_init_91 : decode cX7_init 91 = .ok (.dup, 1) := by decide +kernel
theorem dX7_init_92 : decode cX7_init 92 = .ok (.iconst 4, 1) := by decide +kernel
theorem dX7_init_93 : decode cX7_init 93 = .ok (.bipush 32, 2) := by decide +kernel
theorem dX7_init_95 : decode cX7_init 95 = .ok (.castore, 1) := by decide +kernel
theorem dX7_init_96 : decode cX7_init 96 = .ok (.dup, 1) := by decide +kernel
theorem dX7_init_97 : decode cX7_init 97 = .ok (.iconst 5, 1) := by decide +kernel
theorem dX7_init_98 : decode cX7_init 98 = .ok (.bipush 32, 2) := by decide +kernel
theorem dX7_init_100 : decode cX7_init 100 = .ok (.castore, 1) := by decide +kernel
theorem dX7_init_101 : decode cX7_init 101 = .ok (.dup, 1) := by decide +kernel
theorem dX7_init_102 : decode cX7_init 102 = .ok (.bipush 6, 2) := by decide +kernel
theorem dX7_init_104 : decode cX7_init 104 = .ok (.bipush 32, 2) := by decide +kernel
theorem dX7_init_106 : decode cX7_init 106 = .ok (.castore, 1) := by decide +kernel
theorem dX7_init_107 : decode cX7_init 107 = .ok (.dup, 1) := by decide +kernel
theorem dX7_init_108 : decode cX7_init 108 = .ok (.bipush 7, 2) := by decide +kernel
theorem dX7_init_110 : decode cX7_init 110 = .ok (.bipush 32, 2) := by decide +kernel
theorem dX7_init_112 : decode cX7_init 112 = .ok (.castore, 1) := by decide +kernel
theorem dX7_init_113 : decode cX7_init 113 = .ok (.dup, 1) := by decide +kernel
theorem dX7_init_114 : decode cX7_init 114 = .ok (.bipush 8, 2) := by decide +kernel
theorem dX7_init_116 : decode cX7_init 116 = .ok (.bipush 115, 2) := by decide +kernel
theorem dX7_init_118 : decode cX7_init 118 = .ok (.castore, 1) := by decide +kernel
theorem dX7_init_119 : decode cX7_init 119 = .ok (.dup, 1) := by decide +kernel
theorem dX7_init_120 : decode cX7_init 120 = .ok (.bipush 9, 2) := by decide +kernel
theorem dX7_init_122 : decode cX7_init 122 = .ok (.bipush 119, 2) := by decide +kernel
theorem dX7_init_124 : decode cX7_init 124 = .ok (.castore, 1) := by decide +kernel
theorem dX7_init_125 : decode cX7_init 125 = .ok (.dup, 1) := by decide +kernel
theorem dX7_init_126 : decode cX7_init 126 = .ok (.bipush 10, 2) := by decide +kernel
theorem dX7_init_128 : decode cX7_init 128 = .ok (.bipush 97, 2) := by decide +kernel
theorem dX7_init_130 : decode cX7_init 130 = .ok (.castore, 1) := by decide +kernel
theorem dX7_init_131 : decode cX7_init 131 = .ok (.dup, 1) := by decide +kernel
theorem dX7_init_132 : decode cX7_init 132 = .ok (.bipush 11, 2) := by decide +kernel
theorem dX7_init_134 : decode cX7_init 134 = .ok (.bipush 110, 2) := by decide +kernel
theorem dX7_init_136 : decode cX7_init 136 = .ok (.castore, 1) := by decide +kernel
theorem dX7_init_137 : decode cX7_init 137 = .ok (.dup, 1) := by decide +kernel
theorem dX7_init_138 : decode cX7_init 138 = .ok (.bipush 12, 2) := by decide +kernel
theorem dX7_init_140 : decode cX7_init 140 = .ok (.bipush 32, 2) := by decide +kernel
theorem dX7_init_142 : decode cX7_init 142 = .ok (.castore, 1) := by decide +kernel
theorem dX7_init_143 : decode cX7_init 143 = .ok (.dup, 1) := by decide +kernel
theorem dX7_init_144 : decode cX7_init 144 = .ok (.bipush 13, 2) := by decide +kernel
theorem dX7_init_146 : decode cX7_init 146 = .ok (.bipush 32, 2) := by decide +kernel
theorem dX7_init_148 : decode cX7_init 148 = .ok (.castore, 1) := by decide +kernel
theorem dX7_init_149 : decode cX7_init 149 = .ok (.dup, 1) := by decide +kernel
theorem dX7_init_150 : decode cX7_init 150 = .ok (.bipush 14, 2) := by decide +kernel
theorem dX7_init_152 : decode cX7_init 152 = .ok (.bipush 32, 2) := by decide +kernel
theorem dX7_init_154 : decode cX7_init 154 = .ok (.castore, 1) := by decide +kernel
theorem dX7_init_155 : decode cX7_init 155 = .ok (.dup, 1) := by decide +kernel
theorem dX7_init_156 : decode cX7_init 156 = .ok (.bipush 15, 2) := by decide +kernel
theorem dX7_init_158 : decode cX7_init 158 = .ok (.bipush 32, 2) := by decide +kernel
theorem dX7_init_160 : decode cX7_init 160 = .ok (.castore, 1) := by decide +kernel
theorem dX7_init_161 : decode cX7_init 161 = .ok (.dup, 1) := by decide +kernel
theorem dX7_init_162 : decode cX7_init 162 = .ok (.bipush 16, 2) := by decide +kernel
theorem dX7_init_164 : decode cX7_init 164 = .ok (.bipush 99, 2) := by decide +kernel
theorem dX7_init_166 : decode cX7_init 166 = .ok (.castore, 1) := by decide +kernel
theorem dX7_init_167 : decode cX7_init 167 = .ok (.dup, 1) := by decide +kernel
theorem dX7_init_168 : decode cX7_init 168 = .ok (.bipush 17, 2) := by decide +kernel
theorem dX7_init_170 : decode cX7_init 170 = .ok (.bipush 114, 2) := by decide +kernel
theorem dX7_init_172 : decode cX7_init 172 = .ok (.castore, 1) := by decide +kernel
theorem dX7_init_173 : decode cX7_init 173 = .ok (.dup, 1) := by decide +kernel
theorem dX7_init_174 : decode cX7_init 174 = .ok (.bipush 18, 2) := by decide +kernel
theorem dX7_init_176 : decode cX7_init 176 = .ok (.bipush 111, 2) := by decide +kernel
theorem dX7_init_178 : decode cX7_init 178 = .ok (.castore, 1) := by decide +kernel
theorem dX7_init_179 : decode cX7_init 179 = .ok (.dup, 1) := by decide +kernel
theorem dX7_init_180 : decode cX7_init 180 = .ok (.bipush 19, 2) := by decide +kernel
theorem dX7_init_182 : decode cX7_init 182 = .ok (.bipush 119, 2) := by decide +kernel
theorem dX7_init_184 : decode cX7_init 184 = .ok (.castore, 1) := by decide +kernel
theorem dX7_init_185 : decode cX7_init 185 = .ok (.dup, 1) := by decide +kernel
theorem dX7_init_186 : decode cX7_init 186 = .ok (.bipush 20, 2) := by decide +kernel
theorem dX7_init_188 : decode cX7_init 188 = .ok (.bipush 32, 2) := by decide +kernel
theorem dX7_init_190 : decode cX7_init 190 = .ok (.castore, 1) := by decide +kernel
theorem dX7_init_191 : decode cX7_init 191 = .ok (.dup, 1) := by decide +kernel
theorem dX7_init_192 : decode cX7_init 192 = .ok (.bipush 21, 2) := by decide +kernel
theorem dX7_init_194 : decode cX7_init 194 = .ok (.bipush 32, 2) := by decide +kernel
theorem dX7_init_196 : decode cX7_init 196 = .ok (.castore, 1) := by decide +kernel
theorem dX7_init_197 : decode cX7_init 197 = .ok (.dup, 1) := by decide +kernel
theorem dX7_init_198 : decode cX7_init 198 = .ok (.bipush 22, 2) := by decide +kernel
theorem dX7_init_200 : decode cX7_init 200 = .ok (.bipush 32, 2) := by decide +kernel
theorem dX7_init_202 : decode cX7_init 202 = .ok (.castore, 1) := by decide +kernel
theorem dX7_init_203 : decode cX7_init 203 = .ok (.dup, 1) := by decide +kernel
theorem dX7_init_204 : decode cX7_init 204 = .ok (.bipush 23, 2) := by decide +kernel
theorem dX7_init_206 : decode cX7_init 206 = .ok (.bipush 32, 2) := by decide +kernel
theorem dX7_init_208 : decode cX7_init 208 = .ok (.castore, 1) := by decide +kernel
theorem dX7_init_209 : decode cX7_init 209 = .ok (.dup, 1) := by decide +kernel
theorem dX7_init_210 : decode cX7_init 210 = .ok (.bipush 24, 2) := by decide +kernel
theorem dX7_init_212 : decode cX7_init 212 = .ok (.bipush 114, 2) := by decide +kernel
theorem dX7_init_214 : decode cX7_init 214 = .ok (.castore, 1) := by decide +kernel
theorem dX7_init_215 : decode cX7_init 215 = .ok (.dup, 1) := by decide +kernel
theorem dX7_init_216 : decode cX7_init 216 = .ok (.bipush 25, 2) := by decide +kernel
theorem dX7_init_218 : decode cX7_init 218 = .ok (.bipush 97, 2) := by decide +kernel
theorem dX7_init_220 : decode cX7_init 220 = .ok (.castore, 1) := by decide +kernel
theorem dX7_init_221 : decode cX7_init 221 = .ok (.dup, 1) := by decide +kernel
theorem dX7_init_222 : decode cX7_init 222 = .ok (.bipush 26, 2) := by decide +kernel
theorem dX7_init_224 : decode cX7_init 224 = .ok (.bipush 118, 2) := by decide +kernel
theorem dX7_init_226 : decode cX7_init 226 = .ok (.castore, 1) := by decide +kernel
theorem dX7_init_227 : decode cX7_init 227 = .ok (.dup, 1) := by decide +kernel
theorem dX7_init_228 : decode cX7_init 228 = .ok (.bipush 27, 2) := by decide +kernel
theorem dX7_init_230 : decode cX7_init 230 = .ok (.bipush 101, 2) := by decide +kernel
theorem dX7_init_232 : decode cX7_init 232 = .ok (.castore, 1) := by decide +kernel
theorem dX7_init_233 : decode cX7_init 233 = .ok (.dup, 1) := by decide +kernel
theorem dX7_init_234 : decode cX7_init 234 = .ok (.bipush 28, 2) := by decide +kernel
theorem dX7_init_236 : decode cX7_init 236 = .ok (.bipush 110, 2) := by decide +kernel
theorem dX7_init_238 : decode cX7_init 238 = .ok (.castore, 1) := by decide +kernel
theorem dX7_init_239 : decode cX7_init 239 = .ok (.dup, 1) := by decide +kernel
theorem dX7_init_240 : decode cX7_init 240 = .ok (.bipush 29, 2) := by decide +kernel
theorem dX7_init_242 : decode cX7_init 242 = .ok (.bipush 32, 2) := by decide +kernel
theorem dX7_init_244 : decode cX7_init 244 = .ok (.castore, 1) := by decide +kernel
theorem dX7_init_245 : decode cX7_init 245 = .ok (.dup, 1) := by decide +kernel
theorem dX7_init_246 : decode cX7_init 246 = .ok (.bipush 30, 2) := by decide +kernel
theorem dX7_init_248 : decode cX7_init 248 = .ok (.bipush 32, 2) := by decide +kernel
theorem dX7_init_250 : decode cX7_init 250 = .ok (.castore, 1) := by decide +kernel
theorem dX7_init_251 : decode cX7_init 251 = .ok (.dup, 1) := by decide +kernel
theorem dX7_init_252 : decode cX7_init 252 = .ok (.bipush 31, 2) := by decide +kernel
theorem dX7_init_254 : decode cX7_init 254 = .ok (.bipush 32, 2) := by decide +kernel
theorem dX7_init_256 : decode cX7_init 256 = .ok (.castore, 1) := by decide +kernel
theorem dX7_init_257 : decode cX7_init 257 = .ok (.dup, 1) := by decide +kernel
theorem dX7_init_258 : decode cX7_init 258 = .ok (.bipush 32, 2) := by decide +kernel
theorem dX7_init_260 : decode cX7_init 260 = .ok (.bipush 116, 2) := by decide +kernel
theorem dX7_init_262 : decode cX7_init 262 = .ok (.castore, 1) := by decide +kernel
theorem dX7_init_263 : decode cX7_init 263 = .ok (.dup, 1) := by decide +kernel
theorem dX7_init_264 : decode cX7_init 264 = .ok (.bipush 33, 2) := by decide +kernel
theorem dX7_init_266 : decode cX7_init 266 = .ok (.bipush 101, 2) := by decide +kernel
theorem dX7_init_268 : decode cX7_init 268 = .ok (.castore, 1) := by decide +kernel
theorem dX7_init_269 : decode cX7_init 269 = .ok (.dup, 1) := by decide +kernel
theorem dX7_init_270 : decode cX7_init 270 = .ok (.bipush 34, 2) := by decide +kernel
theorem dX7_init_272 : decode cX7_init 272 = .ok (.bipush 114, 2) := by decide +kernel
theorem dX7_init_274 : decode cX7_init 274 = .ok (.castore, 1) := by decide +kernel
theorem dX7_init_275 : decode cX7_init 275 = .ok (.dup, 1) := by decide +kernel
theorem dX7_init_276 : decode cX7_init 276 = .ok (.bipush 35, 2) := by decide +kernel
theorem dX7_init_278 : decode cX7_init 278 = .ok (.bipush 110, 2) := by decide +kernel
theorem dX7_init_280 : decode cX7_init 280 = .ok (.castore, 1) := by decide +kernel
theorem dX7_init_281 : decode cX7_init 281 = .ok (.dup, 1) := by decide +kernel
theorem dX7_init_282 : decode cX7_init 282 = .ok (.bipush 36, 2) := by decide +kernel
theorem dX7_init_284 : decode cX7_init 284 = .ok (.bipush 32, 2) := by decide +kernel
theorem dX7_init_286 : decode cX7_init 286 = .ok (.castore, 1) := by decide +kernel
theorem dX7_init_287 : decode cX7_init 287 = .ok (.dup, 1) := by decide +kernel
theorem dX7_init_288 : decode cX7_init 288 = .ok (.bipush 37, 2) := by decide +kernel
theorem dX7_init_290 : decode cX7_init 290 = .ok (.bipush 32, 2) := by decide +kernel
theorem dX7_init_292 : decode cX7_init 292 = .ok (.castore, 1) := by decide +kernel
theorem dX7_init_293 : decode cX7_init 293 = .ok (.dup, 1) := by decide +kernel
theorem dX7_init_294 : decode cX7_init 294 = .ok (.bipush 38, 2) := by decide +kernel
theorem dX7_init_296 : decode cX7_init 296 = .ok (.bipush 32, 2) := by decide +kernel
theorem dX7_init_298 : decode cX7_init 298 = .ok (.castore, 1) := by decide +kernel
theorem dX7_init_299 : decode cX7_init 299 = .ok (.dup, 1) := by decide +kernel
theorem dX7_init_300 : decode cX7_init 300 = .ok (.bipush 39, 2) := by decide +kernel
theorem dX7_init_302 : decode cX7_init 302 = .ok (.bipush 32, 2) := by decide +kernel
theorem dX7_init_304 : decode cX7_init 304 = .ok (.castore, 1) := by decide +kernel
theorem dX7_init_305 : decode cX7_init 305 = .ok (.dup, 1) := by decide +kernel
theorem dX7_init_306 : decode cX7_init 306 = .ok (.bipush 40, 2) := by decide +kernel
theorem dX7_init_308 : decode cX7_init 308 = .ok (.bipush 119, 2) := by decide +kernel
theorem dX7_init_310 : decode cX7_init 310 = .ok (.castore, 1) := by decide +kernel
theorem dX7_init_311 : decode cX7_init 311 = .ok (.dup, 1) := by decide +kernel
theorem dX7_init_312 : decode cX7_init 312 = .ok (.bipush 41, 2) := by decide +kernel
theorem dX7_init_314 : decode cX7_init 314 = .ok (.bipush 114, 2) := by decide +kernel
theorem dX7_init_316 : decode cX7_init 316 = .ok (.castore, 1) := by decide +kernel
theorem dX7_init_317 : decode cX7_init 317 = .ok (.dup, 1) := by decide +kernel
theorem dX7_init_318 : decode cX7_init 318 = .ok (.bipush 42, 2) := by decide +kernel
theorem dX7_init_320 : decode cX7_init 320 = .ok (.bipush 101, 2) := by decide +kernel
theorem dX7_init_322 : decode cX7_init 322 = .ok (.castore, 1) := by decide +kernel
theorem dX7_init_323 : decode cX7_init 323 = .ok (.dup, 1) := by decide +kernel
theorem dX7_init_324 : decode cX7_init 324 = .ok (.bipush 43, 2) := by decide +kernel
theorem dX7_init_326 : decode cX7_init 326 = .ok (.bipush 110, 2) := by decide +kernel
theorem dX7_init_328 : decode cX7_init 328 = .ok (.castore, 1) := by decide +kernel
theorem dX7_init_329 : decode cX7_init 329 = .ok (.dup, 1) := by decide +kernel
theorem dX7_init_330 : decode cX7_init 330 = .ok (.bipush 44, 2) := by decide +kernel
theorem dX7_init_332 : decode cX7_init 332 = .ok (.bipush 32, 2) := by decide +kernel
theorem dX7_init_334 : decode cX7_init 334 = .ok (.castore, 1) := by decide +kernel
theorem dX7_init_335 : decode cX7_init 335 = .ok (.dup, 1) := by decide +kernel
theorem dX7_init_336 : decode cX7_init 336 = .ok (.bipush 45, 2) := by decide +kernel
theorem dX7_init_338 : decode cX7_init 338 = .ok (.bipush 32, 2) := by decide +kernel
theorem dX7_init_340 : decode cX7_init 340 = .ok (.castore, 1) := by decide +kernel
theorem dX7_init_341 : decode cX7_init 341 = .ok (.dup, 1) := by decide +kernel
theorem dX7_init_342 : decode cX7_init 342 = .ok (.bipush 46, 2) := by decide +kernel
theorem dX7_init_344 : decode cX7_init 344 = .ok (.bipush 32, 2) := by decide +kernel
theorem dX7_init_346 : decode cX7_init 346 = .ok (.castore, 1) := by decide +kernel
theorem dX7_init_347 : decode cX7_init 347 = .ok (.dup, 1) := by decide +kernel
theorem dX7_init_348 : decode cX7_init 348 = .ok (.bipush 47, 2) := by decide +kernel
theorem dX7_init_350 : decode cX7_init 350 = .ok (.bipush 32, 2) := by decide +kernel
theorem dX7_init_352 : decode cX7_init 352 = .ok (.castore, 1) := by decide +kernel
theorem dX7_init_353 : decode cX7_init 353 = .ok (.dup, 1) := by decide +kernel
theorem dX7_init_354 : decode cX7_init 354 = .ok (.bipush 48, 2) := by decide +kernel
theorem dX7_init_356 : decode cX7_init 356 = .ok (.bipush 103, 2) := by decide +kernel
theorem dX7_init_358 : decode cX7_init 358 = .ok (.castore, 1) := by decide +kernel
theorem dX7_init_359 : decode cX7_init 359 = .ok (.dup, 1) := by decide +kernel
theorem dX7_init_360 : decode cX7_init 360 = .ok (.bipush 49, 2) := by decide +kernel
theorem dX7_init_362 : decode cX7_init 362 = .ok (.bipush 117, 2) := by decide +kernel
theorem dX7_init_364 : decode cX7_init 364 = .ok (.castore, 1) := by decide +kernel
theorem dX7_init_365 : decode cX7_init 365 = .ok (.dup, 1) := by decide +kernel
theorem dX7_init_366 : decode cX7_init 366 = .ok (.bipush 50, 2) := by decide +kernel
theorem dX7_init_368 : decode cX7_init 368 = .ok (.bipush 108, 2) := by decide +kernel
theorem dX7_init_370 : decode cX7_init 370 = .ok (.castore, 1) := by decide +kernel
theorem dX7_init_371 : decode cX7_init 371 = .ok (.dup, 1) := by decide +kernel
theorem dX7_init_372 : decode cX7_init 372 = .ok (.bipush 51, 2) := by decide +kernel
theorem dX7_init_374 : decode cX7_init 374 = .ok (.bipush 108, 2) := by decide +kernel
theorem dX7_init_376 : decode cX7_init 376 = .ok (.castore, 1) := by decide +kernel
theorem dX7_init_377 : decode cX7_init 377 = .ok (.dup, 1) := by decide +kernel
theorem dX7_init_378 : decode cX7_init 378 = .ok (.bipush 52, 2) := by decide +kernel
theorem dX7_init_380 : decode cX7_init 380 = .ok (.bipush 32, 2) := by decide +kernel
theorem dX7_init_382 : decode cX7_init 382 = .ok (.castore, 1) := by decide +kernel
theorem dX7_init_383 : decode cX7_init 383 = .ok (.dup, 1) := by decide +kernel
theorem dX7_init_384 : decode cX7_init 384 = .ok (.bipush 53, 2) := by decide +kernel
theorem dX7_init_386 : decode cX7_init 386 = .ok (.bipush 32, 2) := by decide +kernel
theorem dX7_init_388 : decode cX7_init 388 = .ok (.castore, 1) := by decide +kernel
theorem dX7_init_389 : decode cX7_init 389 = .ok (.dup, 1) := by decide +kernel
theorem dX7_init_390 : decode cX7_init 390 = .ok (.bipush 54, 2) := by decide +kernel
theorem dX7_init_392 : decode cX7_init 392 = .ok (.bipush 32, 2) := by decide +kernel
theorem dX7_init_394 : decode cX7_init 394 = .ok (.castore, 1) := by decide +kernel
theorem dX7_init_395 : decode cX7_init 395 = .ok (.dup, 1) := by decide +kernel
theorem dX7_init_396 : decode cX7_init 396 = .ok (.bipush 55, 2) := by decide +kernel
theorem dX7_init_398 : decode cX7_init 398 = .ok (.bipush 32, 2) := by decide +kernel
theorem dX7_init_400 : decode cX7_init 400 = .ok (.castore, 1) := by decide +kernel
theorem dX7_init_401 : decode cX7_init 401 = .ok (.putfield 34, 3) := by decide +kernel
theorem dX7_init_404 : decode cX7_init 404 = .ok (.aload_n 0, 1) := by decide +kernel
theorem dX7_init_405 : decode cX7_init 405 = .ok (.bipush 24, 2) := by decide +kernel
theorem dX7_init_407 : decode cX7_init 407 = .ok (.newarray .char, 2) := by decide +kernel
theorem dX7_init_409 : decode cX7_init 409 = .ok (.dup, 1) := by decide +kernel
theorem dX7_init_410 : decode cX7_init 410 = .ok (.iconst 0, 1) := by decide +kernel
theorem dX7_init_411 : decode cX7_init 411 = .ok (.bipush 104, 2) := by decide +kernel
theorem dX7_init_413 : decode cX7_init 413 = .ok (.castore, 1) := by decide +kernel
theorem dX7_init_414 : decode cX7_init 414 = .ok (.dup, 1) := by decide +kernel
theorem dX7_init_415 : decode cX7_init 415 = .ok (.iconst 1, 1) := by decide +kernel
theorem dX7_init_416 : decode cX7_init 416 = .ok (.bipush 97, 2) := by decide +kernel
theorem dX7_init_418 : decode cX7_init 418 = .ok (.castore, 1) := by decide +kernel
theorem dX7_init_419 : decode cX7_init 419 = .ok (.dup, 1) := by decide +kernel
theorem dX7_init_420 : decode cX7_init 420 = .ok (.iconst 2, 1) := by decide +kernel
theorem dX7_init_421 : decode cX7_init 421 = .ok (.bipush 115, 2) := by decide +kernel
theorem dX7_init_423 : decode cX7_init 423 = .ok (.castore, 1) := by decide +kernel
theorem dX7_init_424 : decode cX7_init 424 = .ok (.dup, 1) := by decide +kernel
theorem dX7_init_425 : decode cX7_init 425 = .ok (.iconst 3, 1) := by decide +kernel
theorem dX7_init_426 : decode cX7_init 426 = .ok (.bipush 32, 2) := by decide +kernel
theorem dX7_init_428 : decode cX7_init 428 = .ok (.castore, 1) := by decide +kernel
theorem dX7_init_429 : decode cX7_init 429 = .ok (.dup, 1) := by decide +kernel
theorem dX7_init_430 : decode cX7_init 430 = .ok (.iconst 4, 1) := by decide +kernel
theorem dX7_init_431 : decode cX7_init 431 = .ok (.bipush 32, 2) := by decide +kernel
theorem dX7_init_433 : decode cX7_init 433 = .ok (.castore, 1) := by decide +kernel
theorem dX7_init_434 : decode cX7_init 434 = .ok (.dup, 1) := by decide +kernel
theorem dX7_init_435 : decode cX7_init 435 = .ok (.iconst 5, 1) := by decide +kernel
theorem dX7_init_436 : decode cX7_init 436 = .ok (.bipush 32, 2) := by decide +kernel
theorem dX7_init_438 : decode cX7_init 438 = .ok (.castore, 1) := by decide +kernel
theorem dX7_init_439 : decode cX7_init 439 = .ok (.dup, 1) := by decide +kernel
theorem dX7_init_440 : decode cX7_init 440 = .ok (.bipush 6, 2) := by decide +kernel
theorem dX7_init_442 : decode cX7_init 442 = .ok (.bipush 32, 2) := by decide +kernel
theorem dX7_init_444 : decode cX7_init 444 = .ok (.castore, 1) := by decide +kernel
theorem dX7_init_445 : decode cX7_init 445 = .ok (.dup, 1) := by decide +kernel
theorem dX7_init_446 : decode cX7_init 446 = .ok (.bipush 7, 2) := by decide +kernel
theorem dX7_init_448 : decode cX7_init 448 = .ok (.bipush 32, 2) := by decide +kernel
theorem dX7_init_450 : decode cX7_init 450 = .ok (.castore, 1) := by decide +kernel
theorem dX7_init_451 : decode cX7_init 451 = .ok (.dup, 1) := by decide +kernel
theorem dX7_init_452 : decode cX7_init 452 = .ok (.bipush 8, 2) := by decide +kernel
theorem dX7_init_454 : decode cX7_init 454 = .ok (.bipush 107, 2) := by decide +kernel
theorem dX7_init_456 : decode cX7_init 456 = .ok (.castore, 1) := by decide +kernel
theorem dX7_init_457 : decode cX7_init 457 = .ok (.dup, 1) := by decide +kernel
theorem dX7_init_458 : decode cX7_init 458 = .ok (.bipush 9, 2) := by decide +kernel
theorem dX7_init_460 : decode cX7_init 460 = .ok (.bipush 101, 2) := by decide +kernel
theorem dX7_init_462 : decode cX7_init 462 = .ok (.castore, 1) := by decide +kernel
theorem dX7_init_463 : decode cX7_init 463 = .ok (.dup, 1) := by decide +kernel
theorem dX7_init_464 : decode cX7_init 464 = .ok (.bipush 10, 2) := by decide +kernel
theorem dX7_init_466 : decode cX7_init 466 = .ok (.bipush 101, 2) := by decide +kernel
theorem dX7_init_468 : decode cX7_init 468 = .ok (.castore, 1) := by decide +kernel
theorem dX7_init_469 : decode cX7_init 469 = .ok (.dup, 1) := by decide +kernel
theorem dX7_init_470 : decode cX7_init 470 = .ok (.bipush 11, 2) := by decide +kernel
theorem dX7_init_472 : decode cX7_init 472 = .ok (.bipush 112, 2) := by decide +kernel
theorem dX7_init_474 : decode cX7_init 474 = .ok (.castore, 1) := by decide +kernel
theorem dX7_init_475 : decode cX7_init 475 = .ok (.dup, 1) := by decide +kernel
theorem dX7_init_476 : decode cX7_init 476 = .ok (.bipush 12, 2) := by decide +kernel
theorem dX7_init_478 : decode cX7_init 478 = .ok (.bipush 115, 2) := by decide +kernel
theorem dX7_init_480 : decode cX7_init 480 = .ok (.castore, 1) := by decide +kernel
theorem dX7_init_481 : decode cX7_init 481 = .ok (.dup, 1) := by decide +kernel
theorem dX7_init_482 : decode cX7_init 482 = .ok (.bipush 13, 2) := by decide +kernel
theorem dX7_init_484 : decode cX7_init 484 = .ok (.bipush 32, 2) := by decide +kernel
theorem dX7_init_486 : decode cX7_init 486 = .ok (.castore, 1) := by decide +kernel
theorem dX7_init_487 : decode cX7_init 487 = .ok (.dup, 1) := by decide +kernel
theorem dX7_init_488 : decode cX7_init 488 = .ok (.bipush 14, 2) := by decide +kernel
theorem dX7_init_490 : decode cX7_init 490 = .ok (.bipush 32, 2) := by decide +kernel
theorem dX7_init_492 : decode cX7_init 492 = .ok (.castore, 1) := by decide +kernel
theorem dX7_init_493 : decode cX7_init 493 = .ok (.dup, 1) := by decide +kernel
theorem dX7_init_494 : decode cX7_init 494 = .ok (.bipush 15, 2) := by decide +kernel
theorem dX7_init_496 : decode cX7_init 496 = .ok (.bipush 32, 2) := by decide +kernel
theorem dX7_init_498 : decode cX7_init 498 = .ok (.castore, 1) := by decide +kernel
theorem dX7_init_499 : decode cX7_init 499 = .ok (.dup, 1) := by decide +kernel
theorem dX7_init_500 : decode cX7_init 500 = .ok (.bipush 16, 2) := by decide +kernel
theorem dX7_init_502 : decode cX7_init 502 = .ok (.bipush 103, 2) := by decide +kernel
theorem dX7_init_504 : decode cX7_init 504 = .ok (.castore, 1) := by decide +kernel
theorem dX7_init_505 : decode cX7_init 505 = .ok (.dup, 1) := by decide +kernel
theorem dX7_init_506 : decode cX7_init 506 = .ok (.bipush 17, 2) := by decide +kernel
theorem dX7_init_508 : decode cX7_init 508 = .ok (.bipush 114, 2) := by decide +kernel
theorem dX7_init_510 : decode cX7_init 510 = .ok (.castore, 1) := by decide +kernel
theorem dX7_init_511 : decode cX7_init 511 = .ok (.dup, 1) := by decide +kernel
theorem dX7_init_512 : decode cX7_init 512 = .ok (.bipush 18, 2) := by decide +kernel
theorem dX7_init_514 : decode cX7_init 514 = .ok (.bipush 111, 2) := by decide +kernel
theorem dX7_init_516 : decode cX7_init 516 = .ok (.castore, 1) := by decide +kernel
theorem dX7_init_517 : decode cX7_init 517 = .ok (.dup, 1) := by decide +kernel
theorem dX7_init_518 : decode cX7_init 518 = .ok (.bipush 19, 2) := by decide +kernel
theorem dX7_init_520 : decode cX7_init 520 = .ok (.bipush 119, 2) := by decide +kernel
theorem dX7_init_522 : decode cX7_init 522 = .ok (.castore, 1) := by decide +kernel
theorem dX7_init_523 : decode cX7_init 523 = .ok (.dup, 1) := by decide +kernel
theorem dX7_init_524 : decode cX7_init 524 = .ok (.bipush 20, 2) := by decide +kernel
theorem dX7_init_526 : decode cX7_init 526 = .ok (.bipush 115, 2) := by decide +kernel
theorem dX7_init_528 : decode cX7_init 528 = .ok (.castore, 1) := by decide +kernel
theorem dX7_init_529 : decode cX7_init 529 = .ok (.dup, 1) := by decide +kernel
theorem dX7_init_530 : decode cX7_init 530 = .ok (.bipush 21, 2) := by decide +kernel
theorem dX7_init_532 : decode cX7_init 532 = .ok (.bipush 32, 2) := by decide +kernel
theorem dX7_init_534 : decode cX7_init 534 = .ok (.castore, 1) := by decide +kernel
theorem dX7_init_535 : decode cX7_init 535 = .ok (.dup, 1) := by decide +kernel
theorem dX7_init_536 : decode cX7_init 536 = .ok (.bipush 22, 2) := by decide +kernel
theorem dX7_init_538 : decode cX7_init 538 = .ok (.bipush 32, 2) := by decide +kernel
theorem dX7_init_540 : decode cX7_init 540 = .ok (.castore, 1) := by decide +kernel
theorem dX7_init_541 : decode cX7_init 541 = .ok (.dup, 1) := by decide +kernel
theorem dX7_init_542 : decode cX7_init 542 = .ok (.bipush 23, 2) := by decide +kernel
theorem dX7_init_544 : decode cX7_init 544 = .ok (.bipush 32, 2) := by decide +kernel
theorem dX7_init_546 : decode cX7_init 546 = .ok (.castore, 1) := by decide +kernel
theorem dX7_init_547 : decode cX7_init 547 = .ok (.putfield 38, 3) := by decide +kernel
theorem dX7_init_550 : decode cX7_init 550 = .ok (.aload_n 0, 1) := by decide +kernel
theorem dX7_init_551 : decode cX7_init 551 = .ok (.bipush 16, 2) := by decide +kernel
theorem dX7_init_553 : decode cX7_init 553 = .ok (.newarray .char, 2) := by decide +kernel
theorem dX7_init_555 : decode cX7_init 555 = .ok (.dup, 1) := by decide +kernel
theorem dX7_init_556 : decode cX7_init 556 = .ok (.iconst 0, 1) := by decide +kernel
theorem dX7_init_557 : decode cX7_init 557 = .ok (.bipush 109, 2) := by decide +kernel
theorem dX7_init_559 : decode cX7_init 559 = .ok (.castore, 1) := by decide +kernel
theorem dX7_init_560 : decode cX7_init 560 = .ok (.dup, 1) := by decide +kernel
theorem dX7_init_561 : decode cX7_init 561 = .ok (.iconst 1, 1) := by decide +kernel
theorem dX7_init_562 : decode cX7_init 562 = .ok (.bipush 111, 2) := by decide +kernel
theorem dX7_init_564 : decode cX7_init 564 = .ok (.castore, 1) := by decide +kernel
theorem dX7_init_565 : decode cX7_init 565 = .ok (.dup, 1) := by decide +kernel
theorem dX7_init_566 : decode cX7_init 566 = .ok (.iconst 2, 1) := by decide +kernel
theorem dX7_init_567 : decode cX7_init 567 = .ok (.bipush 116, 2) := by decide +kernel
theorem dX7_init_569 : decode cX7_init 569 = .ok (.castore, 1) := by decide +kernel
theorem dX7_init_570 : decode cX7_init 570 = .ok (.dup, 1) := by decide +kernel
theorem dX7_init_571 : decode cX7_init 571 = .ok (.iconst 3, 1) := by decide +kernel
theorem dX7_init_572 : decode cX7_init 572 = .ok (.bipush 105, 2) := by decide +kernel
theorem dX7_init_574 : decode cX7_init 574 = .ok (.castore, 1) := by decide +kernel
theorem dX7_init_575 : decode cX7_init 575 = .ok (.dup, 1) := by decide +kernel
theorem dX7_init_576 : decode cX7_init 576 = .ok (.iconst 4, 1) := by decide +kernel
theorem dX7_init_577 : decode cX7_init 577 = .ok (.bipush 111, 2) := by decide +kernel
theorem dX7_init_579 : decode cX7_init 579 = .ok (.castore, 1) := by decide +kernel
theorem dX7_init_580 : decode cX7_init 580 = .ok (.dup, 1) := by decide +kernel
theorem dX7_init_581 : decode cX7_init 581 = .ok (.iconst 5, 1) := by decide +kernel
theorem dX7_init_582 : decode cX7_init 582 = .ok (.bipush 110, 2) := by decide +kernel
theorem dX7_init_584 : decode cX7_init 584 = .ok (.castore, 1) := by decide +kernel
theorem dX7_init_585 : decode cX7_init 585 = .ok (.dup, 1) := by decide +kernel
theorem dX7_init_586 : decode cX7_init 586 = .ok (.bipush 6, 2) := by decide +kernel
theorem dX7_init_588 : decode cX7_init 588 = .ok (.bipush 32, 2) := by decide +kernel
theorem dX7_init_590 : decode cX7_init 590 = .ok (.castore, 1) := by decide +kernel
theorem dX7_init_591 : decode cX7_init 591 = .ok (.dup, 1) := by decide +kernel
theorem dX7_init_592 : decode cX7_init 592 = .ok (.bipush 7, 2) := by decide +kernel
theorem dX7_init_594 : decode cX7_init 594 = .ok (.bipush 32, 2) := by decide +kernel
theorem dX7_init_596 : decode cX7_init 596 = .ok (.castore, 1) := by decide +kernel
theorem dX7_init_597 : decode cX7_init 597 = .ok (.dup, 1) := by decide +kernel
theorem dX7_init_598 : decode cX7_init 598 = .ok (.bipush 8, 2) := by decide +kernel
theorem dX7_init_600 : decode cX7_init 600 = .ok (.bipush 115, 2) := by decide +kernel
theorem dX7_init_602 : decode cX7_init 602 = .ok (.castore, 1) := by decide +kernel
theorem dX7_init_603 : decode cX7_init 603 = .ok (.dup, 1) := by decide +kernel
theorem dX7_init_604 : decode cX7_init 604 = .ok (.bipush 9, 2) := by decide +kernel
theorem dX7_init_606 : decode cX7_init 606 = .ok (.bipush 101, 2) := by decide +kernel
theorem dX7_init_608 : decode cX7_init 608 = .ok (.castore, 1) := by decide +kernel
theorem dX7_init_609 : decode cX7_init 609 = .ok (.dup, 1) := by decide +kernel
theorem dX7_init_610 : decode cX7_init 610 = .ok (.bipush 10, 2) := by decide +kernel
theorem dX7_init_612 : decode cX7_init 612 = .ok (.bipush 97, 2) := by decide +kernel
theorem dX7_init_614 : decode cX7_init 614 = .ok (.castore, 1) := by decide +kernel
theorem dX7_init_615 : decode cX7_init 615 = .ok (.dup, 1) := by decide +kernel
theorem dX7_init_616 : decode cX7_init 616 = .ok (.bipush 11, 2) := by decide +kernel
theorem dX7_init_618 : decode cX7_init 618 = .ok (.bipush 115, 2) := by decide +kernel
theorem dX7_init_620 : decode cX7_init 620 = .ok (.castore, 1) := by decide +kernel
theorem dX7_init_621 : decode cX7_init 621 = .ok (.dup, 1) := by decide +kernel
theorem dX7_init_622 : decode cX7_init 622 = .ok (.bipush 12, 2) := by decide +kernel
theorem dX7_init_624 : decode cX7_init 624 = .ok (.bipush 111, 2) := by decide +kernel
theorem dX7_init_626 : decode cX7_init 626 = .ok (.castore, 1) := by decide +kernel
theorem dX7_init_627 : decode cX7_init 627 = .ok (.dup, 1) := by decide +kernel
theorem dX7_init_628 : decode cX7_init 628 = .ok (.bipush 13, 2) := by decide +kernel
theorem dX7_init_630 : decode cX7_init 630 = .ok (.bipush 110, 2) := by decide +kernel
theorem dX7_init_632 : decode cX7_init 632 = .ok (.castore, 1) := by decide +kernel
theorem dX7_init_633 : decode cX7_init 633 = .ok (.dup, 1) := by decide +kernel
theorem dX7_init_634 : decode cX7_init 634 = .ok (.bipush 14, 2) := by decide +kernel
theorem dX7_init_636 : decode cX7_init 636 = .ok (.bipush 32, 2) := by decide +kernel
theorem dX7_init_638 : decode cX7_init 638 = .ok (.castore, 1) := by decide +kernel
theorem dX7_init_639 : decode cX7_init 639 = .ok (.dup, 1) := by decide +kernel
theorem dX7_init_640 : decode cX7_init 640 = .ok (.bipush 15, 2) := by decide +kernel
theorem dX7_init_642 : decode cX7_init 642 = .ok (.bipush 32, 2) := by decide +kernel
theorem dX7_init_644 : decode cX7_init 644 = .ok (.castore, 1) := by decide +kernel
theorem dX7_init_645 : decode cX7_init 645 = .ok (.putfield 41, 3) := by decide +kernel
theorem dX7_init_648 : decode cX7_init 648 = .ok (.aload_n 0, 1) := by decide +kernel
theorem dX7_init_649 : decode cX7_init 649 = .ok (.bipush 24, 2) := by decide +kernel
theorem dX7_init_651 : decode cX7_init 651 = .ok (.newarray .char, 2) := by decide +kernel
theorem dX7_init_653 : decode cX7_init 653 = .ok (.dup, 1) := by decide +kernel
theorem dX7_init_654 : decode cX7_init 654 = .ok (.iconst 0, 1) := by decide +kernel
theorem dX7_init_655 : decode cX7_init 655 = .ok (.bipush 113, 2) := by decide +kernel
theorem dX7_init_657 : decode cX7_init 657 = .ok (.castore, 1) := by decide +kernel
theorem dX7_init_658 : decode cX7_init 658 = .ok (.dup, 1) := by decide +kernel
theorem dX7_init_659 : decode cX7_init 659 = .ok (.iconst 1, 1) := by decide +kernel
theorem dX7_init_660 : decode cX7_init 660 = .ok (.bipush 117, 2) := by decide +kernel
theorem dX7_init_662 : decode cX7_init 662 = .ok (.castore, 1) := by decide +kernel
theorem dX7_init_663 : decode cX7_init 663 = .ok (.dup, 1) := by decide +kernel
theorem dX7_init_664 : decode cX7_init 664 = .ok (.iconst 2, 1) := by decide +kernel
theorem dX7_init_665 : decode cX7_init 665 = .ok (.bipush 111, 2) := by decide +kernel
theorem dX7_init_667 : decode cX7_init 667 = .ok (.castore, 1) := by decide +kernel
theorem dX7_init_668 : decode cX7_init 668 = .ok (.dup, 1) := by decide +kernel
theorem dX7_init_669 : decode cX7_init 669 = .ok (.iconst 3, 1) := by decide +kernel
theorem dX7_init_670 : decode cX7_init 670 = .ok (.bipush 114, 2) := by decide +kernel
theorem dX7_init_672 : decode cX7_init 672 = .ok (.castore, 1) := by decide +kernel
theorem dX7_init_673 : decode cX7_init 673 = .ok (.dup, 1) := by decide +kernel
theorem dX7_init_674 : decode cX7_init 674 = .ok (.iconst 4, 1) := by decide +kernel
theorem dX7_init_675 : decode cX7_init 675 = .ok (.bipush 117, 2) := by decide +kernel
theorem dX7_init_677 : decode cX7_init 677 = .ok (.castore, 1) := by decide +kernel
theorem dX7_init_678 : decode cX7_init 678 = .ok (.dup, 1) := by decide +kernel
theorem dX7_init_679 : decode cX7_init 679 = .ok (.iconst 5, 1) := by decide +kernel
theorem dX7_init_680 : decode cX7_init 680 = .ok (.bipush 109, 2) := by decide +kernel
theorem dX7_init_682 : decode cX7_init 682 = .ok (.castore, 1) := by decide +kernel
theorem dX7_init_683 : decode cX7_init 683 = .ok (.dup, 1) := by decide +kernel
theorem dX7_init_684 : decode cX7_init 684 = .ok (.bipush 6, 2) := by decide +kernel
theorem dX7_init_686 : decode cX7_init 686 = .ok (.bipush 32, 2) := by decide +kernel
theorem dX7_init_688 : decode cX7_init 688 = .ok (.castore, 1) := by decide +kernel
theorem dX7_init_689 : decode cX7_init 689 = .ok (.dup, 1) := by decide +kernel
theorem dX7_init_690 : decode cX7_init 690 = .ok (.bipush 7, 2) := by decide +kernel
theorem dX7_init_692 : decode cX7_init 692 = .ok (.bipush 32, 2) := by decide +kernel
theorem dX7_init_694 : decode cX7_init 694 = .ok (.castore, 1) := by decide +kernel
theorem dX7_init_695 : decode cX7_init 695 = .ok (.dup, 1) := by decide +kernel
theorem dX7_init_696 : decode cX7_init 696 = .ok (.bipush 8, 2) := by decide +kernel
theorem dX7_init_698 : decode cX7_init 698 = .ok (.bipush 119, 2) := by decide +kernel
theorem dX7_init_700 : decode cX7_init 700 = .ok (.castore, 1) := by decide +kernel
theorem dX7_init_701 : decode cX7_init 701 = .ok (.dup, 1) := by decide +kernel
theorem dX7_init_702 : decode cX7_init 702 = .ok (.bipush 9, 2) := by decide +kernel
theorem dX7_init_704 : decode cX7_init 704 = .ok (.bipush 97, 2) := by decide +kernel
theorem dX7_init_706 : decode cX7_init 706 = .ok (.castore, 1) := by decide +kernel
theorem dX7_init_707 : decode cX7_init 707 = .ok (.dup, 1) := by decide +kernel
theorem dX7_init_708 : decode cX7_init 708 = .ok (.bipush 10, 2) := by decide +kernel
theorem dX7_init_710 : decode cX7_init 710 = .ok (.bipush 110, 2) := by decide +kernel
theorem dX7_init_712 : decode cX7_init 712 = .ok (.castore, 1) := by decide +kernel
theorem dX7_init_713 : decode cX7_init 713 = .ok (.dup, 1) := by decide +kernel
theorem dX7_init_714 : decode cX7_init 714 = .ok (.bipush 11, 2) := by decide +kernel
theorem dX7_init_716 : decode cX7_init 716 = .ok (.bipush 116, 2) := by decide +kernel
theorem dX7_init_718 : decode cX7_init 718 = .ok (.castore, 1) := by decide +kernel
theorem dX7_init_719 : decode cX7_init 719 = .ok (.dup, 1) := by decide +kernel
theorem dX7_init_720 : decode cX7_init 720 = .ok (.bipush 12, 2) := by decide +kernel
theorem dX7_init_722 : decode cX7_init 722 = .ok (.bipush 115, 2) := by decide +kernel
theorem dX7_init_724 : decode cX7_init 724 = .ok (.castore, 1) := by decide +kernel
theorem dX7_init_725 : decode cX7_init 725 = .ok (.dup, 1) := by decide +kernel
theorem dX7_init_726 : decode cX7_init 726 = .ok (.bipush 13, 2) := by decide +kernel
theorem dX7_init_728 : decode cX7_init 728 = .ok (.bipush 32, 2) := by decide +kernel
theorem dX7_init_730 : decode cX7_init 730 = .ok (.castore, 1) := by decide +kernel
theorem dX7_init_731 : decode cX7_init 731 = .ok (.dup, 1) := by decide +kernel
theorem dX7_init_732 : decode cX7_init 732 = .ok (.bipush 14, 2) := by decide +kernel
theorem dX7_init_734 : decode cX7_init 734 = .ok (.bipush 32, 2) := by decide +kernel
theorem dX7_init_736 : decode cX7_init 736 = .ok (.castore, 1) := by decide +kernel
theorem dX7_init_737 : decode cX7_init 737 = .ok (.dup, 1) := by decide +kernel
theorem dX7_init_738 : decode cX7_init 738 = .ok (.bipush 15, 2) := by decide +kernel
theorem dX7_init_740 : decode cX7_init 740 = .ok (.bipush 32, 2) := by decide +kernel
theorem dX7_init_742 : decode cX7_init 742 = .ok (.castore, 1) := by decide +kernel
theorem dX7_init_743 : decode cX7_init 743 = .ok (.dup, 1) := by decide +kernel
theorem dX7_init_744 : decode cX7_init 744 = .ok (.bipush 16, 2) := by decide +kernel
theorem dX7_init_746 : decode cX7_init 746 = .ok (.bipush 101, 2) := by decide +kernel
theorem dX7_init_748 : decode cX7_init 748 = .ok (.castore, 1) := by decide +kernel
theorem dX7_init_749 : decode cX7_init 749 = .ok (.dup, 1) := by decide +kernel
theorem dX7_init_750 : decode cX7_init 750 = .ok (.bipush 17, 2) := by decide +kernel
theorem dX7_init_752 : decode cX7_init 752 = .ok (.bipush 102, 2) := by decide +kernel
theorem dX7_init_754 : decode cX7_init 754 = .ok (.castore, 1) := by decide +kernel
theorem dX7_init_755 : decode cX7_init 755 = .ok (.dup, 1) := by decide +kernel
theorem dX7_init_756 : decode cX7_init 756 = .ok (.bipush 18, 2) := by decide +kernel
theorem dX7_init_758 : decode cX7_init 758 = .ok (.bipush 102, 2) := by decide +kernel
theorem dX7_init_760 : decode cX7_init 760 = .ok (.castore, 1) := by decide +kernel
theorem dX7_init_761 : decode cX7_init 761 = .ok (.dup, 1) := by decide +kernel
theorem dX7_init_762 : decode cX7_init 762 = .ok (.bipush 19, 2) := by decide +kernel
theorem dX7_init_764 : decode cX7_init 764 = .ok (.bipush 101, 2) := by decide +kernel
theorem dX7_init_766 : decode cX7_init 766 = .ok (.castore, 1) := by decide +kernel
theorem dX7_init_767 : decode cX7_init 767 = .ok (.dup, 1) := by decide +kernel
theorem dX7_init_768 : decode cX7_init 768 = .ok (.bipush 20, 2) := by decide +kernel
theorem dX7_init_770 : decode cX7_init 770 = .ok (.bipush 99, 2) := by decide +kernel
theorem dX7_init_772 : decode cX7_init 772 = .ok (.castore, 1) := by decide +kernel
theorem dX7_init_773 : decode cX7_init 773 = .ok (.dup, 1) := by decide +kernel
theorem dX7_init_774 : decode cX7_init 774 = .ok (.bipush 21, 2) := by decide +kernel
theorem dX7_init_776 : decode cX7_init 776 = .ok (.bipush 116, 2) := by decide +kernel
theorem dX7_init_778 : decode cX7_init 778 = .ok (.castore, 1) := by decide +kernel
theorem dX7_init_779 : decode cX7_init 779 = .ok (.dup, 1) := by decide +kernel
theorem dX7_init_780 : decode cX7_init 780 = .ok (.bipush 22, 2) := by decide +kernel
theorem dX7_init_782 : decode cX7_init 782 = .ok (.bipush 32, 2) := by decide +kernel
theorem dX7_init_784 : decode cX7_init 784 = .ok (.castore, 1) := by decide +kernel
theorem dX7_init_785 : decode cX7_init 785 = .ok (.dup, 1) := by decide +kernel
theorem dX7_init_786 : decode cX7_init 786 = .ok (.bipush 23, 2) := by decide +kernel
theorem dX7_init_788 : decode cX7_init 788 = .ok (.bipush 32, 2) := by decide +kernel
theorem dX7_init_790 : decode cX7_init 790 = .ok (.castore, 1) := by decide +kernel
theorem dX7_init_791 : decode cX7_init 791 = .ok (.putfield 44, 3) := by decide +kernel
theorem dX7_init_794 : decode cX7_init 794 = .ok (.aload_n 0, 1) := by decide +kernel
theorem dX7_init_795 : decode cX7_init 795 = .ok (.iconst 4, 1) := by decide +kernel
theorem dX7_init_796 : decode cX7_init 796 = .ok (.newarray .int, 2) := by decide +kernel
theorem dX7_init_798 : decode cX7_init 798 = .ok (.putfield 47, 3) := by decide +kernel
theorem dX7_init_801 : decode cX7_init 801 = .ok (.aload_n 0, 1) := by decide +kernel
theorem dX7_init_802 : decode cX7_init 802 = .ok (.iconst 4, 1) := by decide +kernel
theorem dX7_init_803 : decode cX7_init 803 = .ok (.newarray .int, 2) := by decide +kernel
theorem dX7_init_805 : decode cX7_init 805 = .ok (.putfield 50, 3) := by decide +kernel
theorem dX7_init_808 : decode cX7_init 808 = .ok (.aload_n 0, 1) := by decide +kernel
theorem dX7_init_809 : decode cX7_init 809 = .ok (.sipush 160, 3) := by decide +kernel
theorem dX7_init_812 : decode cX7_init 812 = .ok (.newarray .int, 2) := by decide +kernel
theorem dX7_init_814 : decode cX7_init 814 = .ok (.putfield 53, 3) := by decide +kernel
theorem dX7_init_817 : decode cX7_init 817 = .ok (.aload_n 0, 1) := by decide +kernel
theorem dX7_init_818 : decode cX7_init 818 = .ok (.bipush 40, 2) := by decide +kernel
theorem dX7_init_820 : decode cX7_init 820 = .ok (.newarray .int, 2) := by decide +kernel
theorem dX7_init_822 : decode cX7_init 822 = .ok (.putfield 56, 3) := by decide +kernel
theorem dX7_init_825 : decode cX7_init 825 = .ok (.aload_n 0, 1) := by decide +kernel
theorem dX7_init_826 : decode cX7_init 826 = .ok (.getfield 9, 3) := by decide +kernel
theorem dX7_init_829 : decode cX7_init 829 = .ok (.iconst 3, 1) := by decide +kernel
theorem dX7_init_830 : decode cX7_init 830 = .ok (.iconst 1, 1) := by decide +kernel
theorem dX7_init_831 : decode cX7_init 831 = .ok (.iastore, 1) := by decide +kernel
theorem dX7_init_832 : decode cX7_init 832 = .ok (.iconst 0, 1) := by decide +kernel
theorem dX7_init_833 : decode cX7_init 833 = .ok (.istore_n 1, 1) := by decide +kernel
theorem dX7_init_834 : decode cX7_init 834 = .ok (.iload_n 1, 1) := by decide +kernel
theorem dX7_init_835 : decode cX7_init 835 = .ok (.bipush 10, 2) := by decide +kernel
theorem dX7_init_837 : decode cX7_init 837 = .ok (.if_icmp .ge 19, 3) := by decide +kernel
theorem dX7_init_840 : decode cX7_init 840 = .ok (.aload_n 0, 1) := by decide +kernel
theorem dX7_init_841 : decode cX7_init 841 = .ok (.getfield 9, 3) := by decide +kernel
theorem dX7_init_844 : decode cX7_init 844 = .ok (.bipush 104, 2) := by decide +kernel
theorem dX7_init_846 : decode cX7_init 846 = .ok (.iload_n 1, 1) := by decide +kernel
theorem dX7_init_847 : decode cX7_init 847 = .ok (.iadd, 1) := by decide +kernel
theorem dX7_init_848 : decode cX7_init 848 = .ok (.iconst (-1), 1) := by decide +kernel
theorem dX7_init_849 : decode cX7_init 849 = .ok (.iastore, 1) := by decide +kernel
theorem dX7_init_850 : decode cX7_init 850 = .ok (.iinc 1 1, 3) := by decide +kernel
theorem dX7_init_853 : decode cX7_init 853 = .ok (.goto (-19), 3) := by decide +kernel
theorem dX7_init_856 : decode cX7_init 856 = .ok (.return_, 1) := by decide +kernel
theorem dX7_no_0 : decode cX7_no 0 = .ok (.aload_n 0, 1) := by decide +kernel
theorem dX7_no_1 : decode cX7_no 1 = .ok (.getfield 19, 3) := by decide +kernel
theorem dX7_no_4 : decode cX7_no 4 = .ok (.iload_n 1, 1) := by decide +kernel
theorem dX7_no_5 : decode cX7_no 5 = .ok (.dup2, 1) := by decide +kernel
theorem dX7_no_6 : decode cX7_no 6 = .ok (.iaload, 1) := by decide +kernel
theorem dX7_no_7 : decode cX7_no 7 = .ok (.iconst 1, 1) := by decide +kernel
theorem dX7_no_8 : decode cX7_no 8 = .ok (.iadd, 1) := by decide +kernel
theorem dX7_no_9 : decode cX7_no 9 = .ok (.iastore, 1) := by decide +kernel
theorem dX7_no_10 : decode cX7_no 10 = .ok (.ldc 59, 2) := by decide +kernel
theorem dX7_no_12 : decode cX7_no 12 = .ok (.iload_n 1, 1) := by decide +kernel
theorem dX7_no_13 : decode cX7_no 13 = .ok (.isub, 1) := by decide +kernel
theorem dX7_no_14 : decode cX7_no 14 = .ok (.ireturn, 1) := by decide +kernel
theorem dX7_in1_0 : decode cX7_in1 0 = .ok (.iload_n 0, 1) := by decide +kernel
theorem dX7_in1_1 : decode cX7_in1 1 = .ok (.iload_n 1, 1) := by decide +kernel
theorem dX7_in1_2 : decode cX7_in1 2 = .ok (.if_icmp .lt 12, 3) := by decide +kernel
theorem dX7_in1_5 : decode cX7_in1 5 = .ok (.iload_n 0, 1) := by decide +kernel
theorem dX7_in1_6 : decode cX7_in1 6 = .ok (.iload_n 2, 1) := by decide +kernel
theorem dX7_in1_7 : decode cX7_in1 7 = .ok (.if_icmp .gt 7, 3) := by decide +kernel
theorem dX7_in1_10 : decode cX7_in1 10 = .ok (.iconst 1, 1) := by decide +kernel
theorem dX7_in1_11 : decode cX7_in1 11 = .ok (.goto 4, 3) := by decide +kernel
theorem dX7_in1_14 : decode cX7_in1 14 = .ok (.iconst 0, 1) := by decide +kernel
theorem dX7_in1_15 : decode cX7_in1 15 = .ok (.ireturn, 1) := by decide +kernel
theorem dX7_less_0 : decode cX7_less 0 = .ok (.iload_n 0, 1) := by decide +kernel
theorem dX7_less_1 : decode cX7_less 1 = .ok (.iload_n 1, 1) := by decide +kernel
theorem dX7_less_2 : decode cX7_less 2 = .ok (.if_icmp .ge 7, 3) := by decide +kernel
theorem dX7_less_5 : decode cX7_less 5 = .ok (.iload_n 0, 1) := by decide +kernel
theorem dX7_less_6 : decode cX7_less 6 = .ok (.goto 4, 3) := by decide +kernel
theorem dX7_less_9 : decode cX7_less 9 = .ok (.iload_n 1, 1) := by decide +kernel
theorem dX7_less_10 : decode cX7_less 10 = .ok (.ireturn, 1) := by decide +kernel
theorem dX7_bits_0 : decode cX7_bits 0 = .ok (.iconst 0, 1) := by decide +kernel
theorem dX7_bits_1 : decode cX7_bits 1 = .ok (.istore_n 1, 1) := by decide +kernel
theorem dX7_bits_2 : decode cX7_bits 2 = .ok (.iload_n 0, 1) := by decide +kernel
theorem dX7_bits_3 : decode cX7_bits 3 = .ok (.istore_n 2, 1) := by decide +kernel
theorem dX7_bits_4 : decode cX7_bits 4 = .ok (.iload_n 2, 1) := by decide +kernel
theorem dX7_bits_5 : decode cX7_bits 5 = .ok (.ifCond .eq 15, 3) := by decide +kernel
theorem dX7_bits_8 : decode cX7_bits 8 = .ok (.iinc 1 1, 3) := by decide +kernel
theorem dX7_bits_11 : decode cX7_bits 11 = .ok (.iload_n 2, 1) := by decide +kernel
theorem dX7_bits_12 : decode cX7_bits 12 = .ok (.iload_n 2, 1) := by decide +kernel
theorem dX7_bits_13 : decode cX7_bits 13 = .ok (.iconst 1, 1) := by decide +kernel
theorem dX7_bits_14 : decode cX7_bits 14 = .ok (.isub, 1) := by decide +kernel
theorem dX7_bits_15 : decode cX7_bits 15 = .ok (.iand, 1) := by decide +kernel
theorem dX7_bits_16 : decode cX7_bits 16 = .ok (.istore_n 2, 1) := by decide +kernel
theorem dX7_bits_17 : decode cX7_bits 17 = .ok (.goto (-13), 3) := by decide +kernel
theorem dX7_bits_20 : decode cX7_bits 20 = .ok (.iload_n 1, 1) := by decide +kernel
theorem dX7_bits_21 : decode cX7_bits 21 = .ok (.ireturn, 1) := by decide +kernel
theorem dX7_isIn_0 : decode cX7_isIn 0 = .ok (.iload_n 0, 1) := by decide +kernel
theorem dX7_isIn_1 : decode cX7_isIn 1 = .ok (.iload_n 1, 1) := by decide +kernel
theorem dX7_isIn_2 : decode cX7_isIn 2 = .ok (.ishr, 1) := by decide +kernel
theorem dX7_isIn_3 : decode cX7_isIn 3 = .ok (.iconst 1, 1) := by decide +kernel
theorem dX7_isIn_4 : decode cX7_isIn 4 = .ok (.iand, 1) := by decide +kernel
theorem dX7_isIn_5 : decode cX7_isIn 5 = .ok (.iconst 1, 1) := by decide +kernel
theorem dX7_isIn_6 : decode cX7_isIn 6 = .ok (.if_icmp .ne 7, 3) := by decide +kernel
theorem dX7_isIn_9 : decode cX7_isIn 9 = .ok (.iconst 1, 1) := by decide +kernel
theorem dX7_isIn_10 : decode cX7_isIn 10 = .ok (.goto 4, 3) := by decide +kernel
theorem dX7_isIn_13 : decode cX7_isIn 13 = .ok (.iconst 0, 1) := by decide +kernel
theorem dX7_isIn_14 : decode cX7_isIn 14 = .ok (.ireturn, 1) := by decide +kernel
theorem dX7_isBird_0 : decode cX7_isBird 0 = .ok (.iload_n 1, 1) := by decide +kernel
theorem dX7_isBird_1 : decode cX7_isBird 1 = .ok (.iconst 0, 1) := by decide +kernel
theorem dX7_isBird_2 : decode cX7_isBird 2 = .ok (.aload_n 0, 1) := by decide +kernel
theorem dX7_isBird_3 : decode cX7_isBird 3 = .ok (.getfield 9, 3) := by decide +kernel
theorem dX7_isBird_6 : decode cX7_isBird 6 = .ok (.iconst 1, 1) := by decide +kernel
theorem dX7_isBird_7 : decode cX7_isBird 7 = .ok (.iaload, 1) := by decide +kernel
theorem dX7_isBird_8 : decode cX7_isBird 8 = .ok (.iconst 1, 1) := by decide +kernel
theorem dX7_isBird_9 : decode cX7_isBird 9 = .ok (.isub, 1) := by decide +kernel
theorem dX7_isBird_10 : decode cX7_isBird 10 = .ok (.invokestatic 60, 3) := by decide +kernel
theorem dX7_isBird_13 : decode cX7_isBird 13 = .ok (.ireturn, 1) := by decide +kernel
theorem dX7_isMotion_0 : decode cX7_isMotion 0 = .ok (.iload_n 1, 1) := by decide +kernel
theorem dX7_isMotion_1 : decode cX7_isMotion 1 = .ok (.iconst 0, 1) := by decide +kernel
theorem dX7_isMotion_2 : decode cX7_isMotion 2 = .ok (.aload_n 0, 1) := by decide +kernel
theorem dX7_isMotion_3 : decode cX7_isMotion 3 = .ok (.getfield 9, 3) := by decide +kernel
theorem dX7_isMotion_6 : decode cX7_isMotion 6 = .ok (.iconst 2, 1) := by decide +kernel
theorem dX7_isMotion_7 : decode cX7_isMotion 7 = .ok (.iaload, 1) := by decide +kernel
theorem dX7_isMotion_8 : decode cX7_isMotion 8 = .ok (.iconst 1, 1) := by decide +kernel
theorem dX7_isMotion_9 : decode cX7_isMotion 9 = .ok (.isub, 1) := by decide +kernel
theorem dX7_isMotion_10 : decode cX7_isMotion 10 = .ok (.invokestatic 60, 3) := by decide +kernel
theorem dX7_isMotion_13 : decode cX7_isMotion 13 = .ok (.ireturn, 1) := by decide +kernel
theorem dX7_get_0 : decode cX7_get 0 = .ok (.aload_n 0, 1) := by decide +kernel
theorem dX7_get_1 : decode cX7_get 1 = .ok (.getfield 9, 3) := by decide +kernel
theorem dX7_get_4 : decode cX7_get 4 = .ok (.bipush 8, 2) := by decide +kernel
theorem dX7_get_6 : decode cX7_get 6 = .ok (.bipush 7, 2) := by decide +kernel
theorem dX7_get_8 : decode cX7_get 8 = .ok (.iload_n 1, 1) := by decide +kernel
theorem dX7_get_9 : decode cX7_get 9 = .ok (.imul, 1) := by decide +kernel
theorem dX7_get_10 : decode cX7_get 10 = .ok (.iadd, 1) := by decide +kernel
theorem dX7_get_11 : decode cX7_get 11 = .ok (.iload_n 2, 1) := by decide +kernel
theorem dX7_get_12 : decode cX7_get 12 = .ok (.iadd, 1) := by decide +kernel
theorem dX7_get_13 : decode cX7_get 13 = .ok (.iaload, 1) := by decide +kernel
theorem dX7_get_14 : decode cX7_get 14 = .ok (.ireturn, 1) := by decide +kernel
theorem dX7_puts_0 : decode cX7_puts 0 = .ok (.aload_n 0, 1) := by decide +kernel
theorem dX7_puts_1 : decode cX7_puts 1 = .ok (.getfield 9, 3) := by decide +kernel
theorem dX7_puts_4 : decode cX7_puts 4 = .ok (.bipush 8, 2) := by decide +kernel
theorem dX7_puts_6 : decode cX7_puts 6 = .ok (.bipush 7, 2) := by decide +kernel
theorem dX7_puts_8 : decode cX7_puts 8 = .ok (.iload_n 1, 1) := by decide +kernel
theorem dX7_puts_9 : decode cX7_puts 9 = .ok (.imul, 1) := by decide +kernel
theorem dX7_puts_10 : decode cX7_puts 10 = .ok (.iadd, 1) := by decide +kernel
theorem dX7_puts_11 : decode cX7_puts 11 = .ok (.iload_n 2, 1) := by decide +kernel
theorem dX7_puts_12 : decode cX7_puts 12 = .ok (.iadd, 1) := by decide +kernel
theorem dX7_puts_13 : decode cX7_puts 13 = .ok (.iload_n 3, 1) := by decide +kernel
theorem dX7_puts_14 : decode cX7_puts 14 = .ok (.iastore, 1) := by decide +kernel
theorem dX7_puts_15 : decode cX7_puts 15 = .ok (.return_, 1) := by decide +kernel
theorem dX7_of1_0 : decode cX7_of1 0 = .ok (.aload_n 0, 1) := by decide +kernel
theorem dX7_of1_1 : decode cX7_of1 1 = .ok (.getfield 9, 3) := by decide +kernel
theorem dX7_of1_4 : decode cX7_of1 4 = .ok (.bipush 64, 2) := by decide +kernel
theorem dX7_of1_6 : decode cX7_of1 6 = .ok (.iconst 5, 1) := by decide +kernel
theorem dX7_of1_7 : decode cX7_of1 7 = .ok (.iload_n 1, 1) := by decide +kernel
theorem dX7_of1_8 : decode cX7_of1 8 = .ok (.imul, 1) := by decide +kernel
theorem dX7_of1_9 : decode cX7_of1 9 = .ok (.iadd, 1) := by decide +kernel
theorem dX7_of1_10 : decode cX7_of1 10 = .ok (.iload_n 2, 1) := by decide +kernel
theorem dX7_of1_11 : decode cX7_of1 11 = .ok (.iadd, 1) := by decide +kernel
theorem dX7_of1_12 : decode cX7_of1 12 = .ok (.iaload, 1) := by decide +kernel
theorem dX7_of1_13 : decode cX7_of1 13 = .ok (.ireturn, 1) := by decide +kernel
theorem dX7_puts1_0 : decode cX7_puts1 0 = .ok (.aload_n 0, 1) := by decide +kernel
theorem dX7_puts1_1 : decode cX7_puts1 1 = .ok (.getfield 9, 3) := by decide +kernel
theorem dX7_puts1_4 : decode cX7_puts1 4 = .ok (.bipush 64, 2) := by decide +kernel
theorem dX7_puts1_6 : decode cX7_puts1 6 = .ok (.iconst 5, 1) := by decide +kernel
theorem dX7_puts1_7 : decode cX7_puts1 7 = .ok (.iload_n 1, 1) := by decide +kernel
theorem dX7_puts1_8 : decode cX7_puts1 8 = .ok (.imul, 1) := by decide +kernel
theorem dX7_puts1_9 : decode cX7_puts1 9 = .ok (.iadd, 1) := by decide +kernel
theorem dX7_puts1_10 : decode cX7_puts1 10 = .ok (.iload_n 2, 1) := by decide +kernel
theorem dX7_puts1_11 : decode cX7_puts1 11 = .ok (.iadd, 1) := by decide +kernel
theorem dX7_puts1_12 : decode cX7_puts1 12 = .ok (.iload_n 3, 1) := by decide +kernel
theorem dX7_puts1_13 : decode cX7_puts1 13 = .ok (.iastore, 1) := by decide +kernel
theorem dX7_puts1_14 : decode cX7_puts1 14 = .ok (.return_, 1) := by decide +kernel
theorem dX7_allBirds_0 : decode cX7_allBirds 0 = .ok (.iconst 1, 1) := by decide +kernel
theorem dX7_allBirds_1 : decode cX7_allBirds 1 = .ok (.aload_n 0, 1) := by decide +kernel
theorem dX7_allBirds_2 : decode cX7_allBirds 2 = .ok (.getfield 9, 3) := by decide +kernel
theorem dX7_allBirds_5 : decode cX7_allBirds 5 = .ok (.iconst 1, 1) := by decide +kernel
theorem dX7_allBirds_6 : decode cX7_allBirds 6 = .ok (.iaload, 1) := by decide +kernel
theorem dX7_allBirds_7 : decode cX7_allBirds 7 = .ok (.ishl, 1) := by decide +kernel
theorem dX7_allBirds_8 : decode cX7_allBirds 8 = .ok (.iconst 1, 1) := by decide +kernel
theorem dX7_allBirds_9 : decode cX7_allBirds 9 = .ok (.isub, 1) := by decide +kernel
theorem dX7_allBirds_10 : decode cX7_allBirds 10 = .ok (.ireturn, 1) := by decide +kernel
theorem dX7_setsAside_0 : decode cX7_setsAside 0 = .ok (.iconst 0, 1) := by decide +kernel
theorem dX7_setsAside_1 : decode cX7_setsAside 1 = .ok (.istore_n 1, 1) := by decide +kernel
theorem dX7_setsAside_2 : decode cX7_setsAside 2 = .ok (.iload_n 1, 1) := by decide +kernel
theorem dX7_setsAside_3 : decode cX7_setsAside 3 = .ok (.bipush 114, 2) := by decide +kernel
theorem dX7_setsAside_5 : decode cX7_setsAside 5 = .ok (.if_icmp .ge 21, 3) := by decide +kernel
theorem dX7_setsAside_8 : decode cX7_setsAside 8 = .ok (.aload_n 0, 1) := by decide +kernel
theorem dX7_setsAside_9 : decode cX7_setsAside 9 = .ok (.getfield 16, 3) := by decide +kernel
theorem dX7_setsAside_12 : decode cX7_setsAside 12 = .ok (.iload_n 1, 1) := by decide +kernel
theorem dX7_setsAside_13 : decode cX7_setsAside 13 = .ok (.aload_n 0, 1) := by decide +kernel
theorem dX7_setsAside_14 : decode cX7_setsAside 14 = .ok (.getfield 9, 3) := by decide +kernel
theorem dX7_setsAside_17 : decode cX7_setsAside 17 = .ok (.iload_n 1, 1) := by decide +kernel
theorem dX7_setsAside_18 : decode cX7_setsAside 18 = .ok (.iaload, 1) := by decide +kernel
theorem dX7_setsAside_19 : decode cX7_setsAside 19 = .ok (.iastore, 1) := by decide +kernel
theorem dX7_setsAside_20 : decode cX7_setsAside 20 = .ok (.iinc 1 1, 3) := by decide +kernel
theorem dX7_setsAside_23 : decode cX7_setsAside 23 = .ok (.goto (-21), 3) := by decide +kernel
theorem dX7_setsAside_26 : decode cX7_setsAside 26 = .ok (.return_, 1) := by decide +kernel
theorem dX7_laysBack_0 : decode cX7_laysBack 0 = .ok (.iconst 0, 1) := by decide +kernel
theorem dX7_laysBack_1 : decode cX7_laysBack 1 = .ok (.istore_n 1, 1) := by decide +kernel
theorem dX7_laysBack_2 : decode cX7_laysBack 2 = .ok (.iload_n 1, 1) := by decide +kernel
theorem dX7_laysBack_3 : decode cX7_laysBack 3 = .ok (.bipush 114, 2) := by decide +kernel
theorem dX7_laysBack_5 : decode cX7_laysBack 5 = .ok (.if_icmp .ge 21, 3) := by decide +kernel
theorem dX7_laysBack_8 : decode cX7_laysBack 8 = .ok (.aload_n 0, 1) := by decide +kernel
theorem dX7_laysBack_9 : decode cX7_laysBack 9 = .ok (.getfield 9, 3) := by decide +kernel
theorem dX7_laysBack_12 : decode cX7_laysBack 12 = .ok (.iload_n 1, 1) := by decide +kernel
theorem dX7_laysBack_13 : decode cX7_laysBack 13 = .ok (.aload_n 0, 1) := by decide +kernel
theorem dX7_laysBack_14 : decode cX7_laysBack 14 = .ok (.getfield 16, 3) := by decide +kernel
theorem dX7_laysBack_17 : decode cX7_laysBack 17 = .ok (.iload_n 1, 1) := by decide +kernel
theorem dX7_laysBack_18 : decode cX7_laysBack 18 = .ok (.iaload, 1) := by decide +kernel
theorem dX7_laysBack_19 : decode cX7_laysBack 19 = .ok (.iastore, 1) := by decide +kernel
theorem dX7_laysBack_20 : decode cX7_laysBack 20 = .ok (.iinc 1 1, 3) := by decide +kernel
theorem dX7_laysBack_23 : decode cX7_laysBack 23 = .ok (.goto (-21), 3) := by decide +kernel
theorem dX7_laysBack_26 : decode cX7_laysBack 26 = .ok (.return_, 1) := by decide +kernel
theorem dX7_feathers_0 : decode cX7_feathers 0 = .ok (.aload_n 0, 1) := by decide +kernel
theorem dX7_feathers_1 : decode cX7_feathers 1 = .ok (.iload_n 1, 1) := by decide +kernel
theorem dX7_feathers_2 : decode cX7_feathers 2 = .ok (.iconst 3, 1) := by decide +kernel
theorem dX7_feathers_3 : decode cX7_feathers 3 = .ok (.invokevirtual 64, 3) := by decide +kernel
theorem dX7_feathers_6 : decode cX7_feathers 6 = .ok (.aload_n 0, 1) := by decide +kernel
theorem dX7_feathers_7 : decode cX7_feathers 7 = .ok (.iload_n 1, 1) := by decide +kernel
theorem dX7_feathers_8 : decode cX7_feathers 8 = .ok (.iconst 4, 1) := by decide +kernel
theorem dX7_feathers_9 : decode cX7_feathers 9 = .ok (.invokevirtual 64, 3) := by decide +kernel
theorem dX7_feathers_12 : decode cX7_feathers 12 = .ok (.iadd, 1) := by decide +kernel
theorem dX7_feathers_13 : decode cX7_feathers 13 = .ok (.aload_n 0, 1) := by decide +kernel
theorem dX7_feathers_14 : decode cX7_feathers 14 = .ok (.iload_n 1, 1) := by decide +kernel
theorem dX7_feathers_15 : decode cX7_feathers 15 = .ok (.iconst 5, 1) := by decide +kernel
theorem dX7_feathers_16 : decode cX7_feathers 16 = .ok (.invokevirtual 64, 3) := by decide +kernel
theorem dX7_feathers_19 : decode cX7_feathers 19 = .ok (.iadd, 1) := by decide +kernel
theorem dX7_feathers_20 : decode cX7_feathers 20 = .ok (.aload_n 0, 1) := by decide +kernel
theorem dX7_feathers_21 : decode cX7_feathers 21 = .ok (.iload_n 1, 1) := by decide +kernel
theorem dX7_feathers_22 : decode cX7_feathers 22 = .ok (.bipush 6, 2) := by decide +kernel
theorem dX7_feathers_24 : decode cX7_feathers 24 = .ok (.invokevirtual 64, 3) := by decide +kernel
theorem dX7_feathers_27 : decode cX7_feathers 27 = .ok (.iadd, 1) := by decide +kernel
theorem dX7_feathers_28 : decode cX7_feathers 28 = .ok (.ireturn, 1) := by decide +kernel
theorem dX7_allFeathers_0 : decode cX7_allFeathers 0 = .ok (.iconst 0, 1) := by decide +kernel
theorem dX7_allFeathers_1 : decode cX7_allFeathers 1 = .ok (.istore_n 1, 1) := by decide +kernel
theorem dX7_allFeathers_2 : decode cX7_allFeathers 2 = .ok (.iconst 0, 1) := by decide +kernel
theorem dX7_allFeathers_3 : decode cX7_allFeathers 3 = .ok (.istore_n 2, 1) := by decide +kernel
theorem dX7_allFeathers_4 : decode cX7_allFeathers 4 = .ok (.iload_n 2, 1) := by decide +kernel
theorem dX7_allFeathers_5 : decode cX7_allFeathers 5 = .ok (.aload_n 0, 1) := by decide +kernel
theorem dX7_allFeathers_6 : decode cX7_allFeathers 6 = .ok (.getfield 9, 3) := by decide +kernel
theorem dX7_allFeathers_9 : decode cX7_allFeathers 9 = .ok (.iconst 1, 1) := by decide +kernel
theorem dX7_allFeathers_10 : decode cX7_allFeathers 10 = .ok (.iaload, 1) := by decide +kernel
theorem dX7_allFeathers_11 : decode cX7_allFeathers 11 = .ok (.if_icmp .ge 17, 3) := by decide +kernel
theorem dX7_allFeathers_14 : decode cX7_allFeathers 14 = .ok (.iload_n 1, 1) := by decide +kernel
theorem dX7_allFeathers_15 : decode cX7_allFeathers 15 = .ok (.aload_n 0, 1) := by decide +kernel
theorem dX7_allFeathers_16 : decode cX7_allFeathers 16 = .ok (.iload_n 2, 1) := by decide +kernel
theorem dX7_allFeathers_17 : decode cX7_allFeathers 17 = .ok (.invokevirtual 68, 3) := by decide +kernel
theorem dX7_allFeathers_20 : decode cX7_allFeathers 20 = .ok (.iadd, 1) := by decide +kernel
theorem dX7_allFeathers_21 : decode cX7_allFeathers 21 = .ok (.istore_n 1, 1) := by decide +kernel
theorem dX7_allFeathers_22 : decode cX7_allFeathers 22 = .ok (.iinc 2 1, 3) := by decide +kernel
theorem dX7_allFeathers_25 : decode cX7_allFeathers 25 = .ok (.goto (-21), 3) := by decide +kernel
theorem dX7_allFeathers_28 : decode cX7_allFeathers 28 = .ok (.iload_n 1, 1) := by decide +kernel
theorem dX7_allFeathers_29 : decode cX7_allFeathers 29 = .ok (.ireturn, 1) := by decide +kernel
theorem dX7_doesFly_0 : decode cX7_doesFly 0 = .ok (.aload_n 0, 1) := by decide +kernel
theorem dX7_doesFly_1 : decode cX7_doesFly 1 = .ok (.iload_n 1, 1) := by decide +kernel
theorem dX7_doesFly_2 : decode cX7_doesFly 2 = .ok (.invokevirtual 68, 3) := by decide +kernel
theorem dX7_doesFly_5 : decode cX7_doesFly 5 = .ok (.aload_n 0, 1) := by decide +kernel
theorem dX7_doesFly_6 : decode cX7_doesFly 6 = .ok (.iload_n 1, 1) := by decide +kernel
theorem dX7_doesFly_7 : decode cX7_doesFly 7 = .ok (.iconst 1, 1) := by decide +kernel
theorem dX7_doesFly_8 : decode cX7_doesFly 8 = .ok (.invokevirtual 64, 3) := by decide +kernel
theorem dX7_doesFly_11 : decode cX7_doesFly 11 = .ok (.if_icmp .lt 7, 3) := by decide +kernel
theorem dX7_doesFly_14 : decode cX7_doesFly 14 = .ok (.iconst 1, 1) := by decide +kernel
theorem dX7_doesFly_15 : decode cX7_doesFly 15 = .ok (.goto 4, 3) := by decide +kernel
theorem dX7_doesFly_18 : decode cX7_doesFly 18 = .ok (.iconst 0, 1) := by decide +kernel
theorem dX7_doesFly_19 : decode cX7_doesFly 19 = .ok (.ireturn, 1) := by decide +kernel
theorem dX7_flying_0 : decode cX7_flying 0 = .ok (.iconst 0, 1) := by decide +kernel
theorem dX7_flying_1 : decode cX7_flying 1 = .ok (.istore_n 1, 1) := by decide +kernel
theorem dX7_flying_2 : decode cX7_flying 2 = .ok (.iconst 0, 1) := by decide +kernel
theorem dX7_flying_3 : decode cX7_flying 3 = .ok (.istore_n 2, 1) := by decide +kernel
theorem dX7_flying_4 : decode cX7_flying 4 = .ok (.iload_n 2, 1) := by decide +kernel
theorem dX7_flying_5 : decode cX7_flying 5 = .ok (.aload_n 0, 1) := by decide +kernel
theorem dX7_flying_6 : decode cX7_flying 6 = .ok (.getfield 9, 3) := by decide +kernel
theorem dX7_flying_9 : decode cX7_flying 9 = .ok (.iconst 1, 1) := by decide +kernel
theorem dX7_flying_10 : decode cX7_flying 10 = .ok (.iaload, 1) := by decide +kernel
theorem dX7_flying_11 : decode cX7_flying 11 = .ok (.if_icmp .ge 27, 3) := by decide +kernel
theorem dX7_flying_14 : decode cX7_flying 14 = .ok (.iload_n 1, 1) := by decide +kernel
theorem dX7_flying_15 : decode cX7_flying 15 = .ok (.aload_n 0, 1) := by decide +kernel
theorem dX7_flying_16 : decode cX7_flying 16 = .ok (.iload_n 2, 1) := by decide +kernel
theorem dX7_flying_17 : decode cX7_flying 17 = .ok (.invokevirtual 72, 3) := by decide +kernel
theorem dX7_flying_20 : decode cX7_flying 20 = .ok (.ifCond .eq 9, 3) := by decide +kernel
theorem dX7_flying_23 : decode cX7_flying 23 = .ok (.iconst 1, 1) := by decide +kernel
theorem dX7_flying_24 : decode cX7_flying 24 = .ok (.iload_n 2, 1) := by decide +kernel
theorem dX7_flying_25 : decode cX7_flying 25 = .ok (.ishl, 1) := by decide +kernel
theorem dX7_flying_26 : decode cX7_flying 26 = .ok (.goto 4, 3) := by decide +kernel
theorem dX7_flying_29 : decode cX7_flying 29 = .ok (.iconst 0, 1) := by decide +kernel
theorem dX7_flying_30 : decode cX7_flying 30 = .ok (.ior, 1) := by decide +kernel
theorem dX7_flying_31 : decode cX7_flying 31 = .ok (.istore_n 1, 1) := by decide +kernel
theorem dX7_flying_32 : decode cX7_flying 32 = .ok (.iinc 2 1, 3) := by decide +kernel
theorem dX7_flying_35 : decode cX7_flying 35 = .ok (.goto (-31), 3) := by decide +kernel
theorem dX7_flying_38 : decode cX7_flying 38 = .ok (.iload_n 1, 1) := by decide +kernel
theorem dX7_flying_39 : decode cX7_flying 39 = .ok (.ireturn, 1) := by decide +kernel
theorem dX7_crowsBeside_0 : decode cX7_crowsBeside 0 = .ok (.iconst 0, 1) := by decide +kernel
theorem dX7_crowsBeside_1 : decode cX7_crowsBeside 1 = .ok (.istore_n 3, 1) := by decide +kernel
theorem dX7_crowsBeside_2 : decode cX7_crowsBeside 2 = .ok (.iconst 0, 1) := by decide +kernel
theorem dX7_crowsBeside_3 : decode cX7_crowsBeside 3 = .ok (.istore 4, 2) := by decide +kernel
theorem dX7_crowsBeside_5 : decode cX7_crowsBeside 5 = .ok (.iload 4, 2) := by decide +kernel
theorem dX7_crowsBeside_7 : decode cX7_crowsBeside 7 = .ok (.aload_n 0, 1) := by decide +kernel
theorem dX7_crowsBeside_8 : decode cX7_crowsBeside 8 = .ok (.getfield 9, 3) := by decide +kernel
theorem dX7_crowsBeside_11 : decode cX7_crowsBeside 11 = .ok (.iconst 1, 1) := by decide +kernel
theorem dX7_crowsBeside_12 : decode cX7_crowsBeside 12 = .ok (.iaload, 1) := by decide +kernel
theorem dX7_crowsBeside_13 : decode cX7_crowsBeside 13 = .ok (.if_icmp .ge 52, 3) := by decide +kernel
theorem dX7_crowsBeside_16 : decode cX7_crowsBeside 16 = .ok (.iload_n 3, 1) := by decide +kernel
theorem dX7_crowsBeside_17 : decode cX7_crowsBeside 17 = .ok (.iload 4, 2) := by decide +kernel
theorem dX7_crowsBeside_19 : decode cX7_crowsBeside 19 = .ok (.iload_n 1, 1) := by decide +kernel
theorem dX7_crowsBeside_20 : decode cX7_crowsBeside 20 = .ok (.if_icmp .eq 36, 3) := by decide +kernel
theorem dX7_crowsBeside_23 : decode cX7_crowsBeside 23 = .ok (.aload_n 0, 1) := by decide +kernel
theorem dX7_crowsBeside_24 : decode cX7_crowsBeside 24 = .ok (.iload 4, 2) := by decide +kernel
theorem dX7_crowsBeside_26 : decode cX7_crowsBeside 26 = .ok (.iconst 0, 1) := by decide +kernel
theorem dX7_crowsBeside_27 : decode cX7_crowsBeside 27 = .ok (.invokevirtual 64, 3) := by decide +kernel
theorem dX7_crowsBeside_30 : decode cX7_crowsBeside 30 = .ok (.iconst 2, 1) := by decide +kernel
theorem dX7_crowsBeside_31 : decode cX7_crowsBeside 31 = .ok (.iconst 4, 1) := by decide +kernel
theorem dX7_crowsBeside_32 : decode cX7_crowsBeside 32 = .ok (.invokestatic 60, 3) := by decide +kernel
theorem dX7_crowsBeside_35 : decode cX7_crowsBeside 35 = .ok (.ifCond .eq 21, 3) := by decide +kernel
theorem dX7_crowsBeside_38 : decode cX7_crowsBeside 38 = .ok (.iload_n 2, 1) := by decide +kernel
theorem dX7_crowsBeside_39 : decode cX7_crowsBeside 39 = .ok (.iload 4, 2) := by decide +kernel
theorem dX7_crowsBeside_41 : decode cX7_crowsBeside 41 = .ok (.invokestatic 76, 3) := by decide +kernel
theorem dX7_crowsBeside_44 : decode cX7_crowsBeside 44 = .ok (.iload_n 2, 1) := by decide +kernel
theorem dX7_crowsBeside_45 : decode cX7_crowsBeside 45 = .ok (.iload_n 1, 1) := by decide +kernel
theorem dX7_crowsBeside_46 : decode cX7_crowsBeside 46 = .ok (.invokestatic 76, 3) := by decide +kernel
theorem dX7_crowsBeside_49 : decode cX7_crowsBeside 49 = .ok (.if_icmp .ne 7, 3) := by decide +kernel
theorem dX7_crowsBeside_52 : decode cX7_crowsBeside 52 = .ok (.iconst 1, 1) := by decide +kernel
theorem dX7_crowsBeside_53 : decode cX7_crowsBeside 53 = .ok (.goto 4, 3) := by decide +kernel
theorem dX7_crowsBeside_56 : decode cX7_crowsBeside 56 = .ok (.iconst 0, 1) := by decide +kernel
theorem dX7_crowsBeside_57 : decode cX7_crowsBeside 57 = .ok (.iadd, 1) := by decide +kernel
theorem dX7_crowsBeside_58 : decode cX7_crowsBeside 58 = .ok (.istore_n 3, 1) := by decide +kernel
theorem dX7_crowsBeside_59 : decode cX7_crowsBeside 59 = .ok (.iinc 4 1, 3) := by decide +kernel
theorem dX7_crowsBeside_62 : decode cX7_crowsBeside 62 = .ok (.goto (-57), 3) := by decide +kernel
theorem dX7_crowsBeside_65 : decode cX7_crowsBeside 65 = .ok (.iload_n 3, 1) := by decide +kernel
theorem dX7_crowsBeside_66 : decode cX7_crowsBeside 66 = .ok (.ireturn, 1) := by decide +kernel
theorem dX7_dropsBy_0 : decode cX7_dropsBy 0 = .ok (.aload_n 0, 1) := by decide +kernel
theorem dX7_dropsBy_1 : decode cX7_dropsBy 1 = .ok (.iload_n 2, 1) := by decide +kernel
theorem dX7_dropsBy_2 : decode cX7_dropsBy 2 = .ok (.iconst 0, 1) := by decide +kernel
theorem dX7_dropsBy_3 : decode cX7_dropsBy 3 = .ok (.invokevirtual 80, 3) := by decide +kernel
theorem dX7_dropsBy_6 : decode cX7_dropsBy 6 = .ok (.istore 4, 2) := by decide +kernel
theorem dX7_dropsBy_8 : decode cX7_dropsBy 8 = .ok (.iconst 1, 1) := by decide +kernel
theorem dX7_dropsBy_9 : decode cX7_dropsBy 9 = .ok (.aload_n 0, 1) := by decide +kernel
theorem dX7_dropsBy_10 : decode cX7_dropsBy 10 = .ok (.iload_n 1, 1) := by decide +kernel
theorem dX7_dropsBy_11 : decode cX7_dropsBy 11 = .ok (.iload_n 3, 1) := by decide +kernel
theorem dX7_dropsBy_12 : decode cX7_dropsBy 12 = .ok (.invokevirtual 83, 3) := by decide +kernel
theorem dX7_dropsBy_15 : decode cX7_dropsBy 15 = .ok (.iadd, 1) := by decide +kernel
theorem dX7_dropsBy_16 : decode cX7_dropsBy 16 = .ok (.istore 5, 2) := by decide +kernel
theorem dX7_dropsBy_18 : decode cX7_dropsBy 18 = .ok (.aload_n 0, 1) := by decide +kernel
theorem dX7_dropsBy_19 : decode cX7_dropsBy 19 = .ok (.iload_n 1, 1) := by decide +kernel
theorem dX7_dropsBy_20 : decode cX7_dropsBy 20 = .ok (.invokevirtual 68, 3) := by decide +kernel
theorem dX7_dropsBy_23 : decode cX7_dropsBy 23 = .ok (.iconst 1, 1) := by decide +kernel
theorem dX7_dropsBy_24 : decode cX7_dropsBy 24 = .ok (.isub, 1) := by decide +kernel
theorem dX7_dropsBy_25 : decode cX7_dropsBy 25 = .ok (.aload_n 0, 1) := by decide +kernel
theorem dX7_dropsBy_26 : decode cX7_dropsBy 26 = .ok (.iload_n 1, 1) := by decide +kernel
theorem dX7_dropsBy_27 : decode cX7_dropsBy 27 = .ok (.iconst 1, 1) := by decide +kernel
theorem dX7_dropsBy_28 : decode cX7_dropsBy 28 = .ok (.invokevirtual 64, 3) := by decide +kernel
theorem dX7_dropsBy_31 : decode cX7_dropsBy 31 = .ok (.if_icmp .lt 7, 3) := by decide +kernel
theorem dX7_dropsBy_34 : decode cX7_dropsBy 34 = .ok (.iconst 1, 1) := by decide +kernel
theorem dX7_dropsBy_35 : decode cX7_dropsBy 35 = .ok (.goto 4, 3) := by decide +kernel
theorem dX7_dropsBy_38 : decode cX7_dropsBy 38 = .ok (.iconst 0, 1) := by decide +kernel
theorem dX7_dropsBy_39 : decode cX7_dropsBy 39 = .ok (.istore 6, 2) := by decide +kernel
theorem dX7_dropsBy_41 : decode cX7_dropsBy 41 = .ok (.iconst 1, 1) := by decide +kernel
theorem dX7_dropsBy_42 : decode cX7_dropsBy 42 = .ok (.istore 7, 2) := by decide +kernel
theorem dX7_dropsBy_44 : decode cX7_dropsBy 44 = .ok (.aload_n 0, 1) := by decide +kernel
theorem dX7_dropsBy_45 : decode cX7_dropsBy 45 = .ok (.iload_n 1, 1) := by decide +kernel
theorem dX7_dropsBy_46 : decode cX7_dropsBy 46 = .ok (.iconst 0, 1) := by decide +kernel
theorem dX7_dropsBy_47 : decode cX7_dropsBy 47 = .ok (.invokevirtual 64, 3) := by decide +kernel
theorem dX7_dropsBy_50 : decode cX7_dropsBy 50 = .ok (.tableswitch 104 1 6 #[38, 53, 60, 69, 80, 87], 38) := by decide +kernel
theorem dX7_dropsBy_88 : decode cX7_dropsBy 88 = .ok (.iload 4, 2) := by decide +kernel
theorem dX7_dropsBy_90 : decode cX7_dropsBy 90 = .ok (.ifCond .ne 7, 3) := by decide +kernel
theorem dX7_dropsBy_93 : decode cX7_dropsBy 93 = .ok (.iconst 1, 1) := by decide +kernel
theorem dX7_dropsBy_94 : decode cX7_dropsBy 94 = .ok (.goto 4, 3) := by decide +kernel
theorem dX7_dropsBy_97 : decode cX7_dropsBy 97 = .ok (.iconst 0, 1) := by decide +kernel
theorem dX7_dropsBy_98 : decode cX7_dropsBy 98 = .ok (.istore 7, 2) := by decide +kernel
theorem dX7_dropsBy_100 : decode cX7_dropsBy 100 = .ok (.goto 54, 3) := by decide +kernel
theorem dX7_dropsBy_103 : decode cX7_dropsBy 103 = .ok (.iload 5, 2) := by decide +kernel
theorem dX7_dropsBy_105 : decode cX7_dropsBy 105 = .ok (.istore 7, 2) := by decide +kernel
theorem dX7_dropsBy_107 : decode cX7_dropsBy 107 = .ok (.goto 47, 3) := by decide +kernel
theorem dX7_dropsBy_110 : decode cX7_dropsBy 110 = .ok (.iconst 2, 1) := by decide +kernel
theorem dX7_dropsBy_111 : decode cX7_dropsBy 111 = .ok (.iload 5, 2) := by decide +kernel
theorem dX7_dropsBy_113 : decode cX7_dropsBy 113 = .ok (.imul, 1) := by decide +kernel
theorem dX7_dropsBy_114 : decode cX7_dropsBy 114 = .ok (.istore 7, 2) := by decide +kernel
theorem dX7_dropsBy_116 : decode cX7_dropsBy 116 = .ok (.goto 38, 3) := by decide +kernel
theorem dX7_dropsBy_119 : decode cX7_dropsBy 119 = .ok (.iconst 2, 1) := by decide +kernel
theorem dX7_dropsBy_120 : decode cX7_dropsBy 120 = .ok (.iload 5, 2) := by decide +kernel
theorem dX7_dropsBy_122 : decode cX7_dropsBy 122 = .ok (.imul, 1) := by decide +kernel
theorem dX7_dropsBy_123 : decode cX7_dropsBy 123 = .ok (.iconst 1, 1) := by decide +kernel
theorem dX7_dropsBy_124 : decode cX7_dropsBy 124 = .ok (.iadd, 1) := by decide +kernel
theorem dX7_dropsBy_125 : decode cX7_dropsBy 125 = .ok (.istore 7, 2) := by decide +kernel
theorem dX7_dropsBy_127 : decode cX7_dropsBy 127 = .ok (.goto 27, 3) := by decide +kernel
theorem dX7_dropsBy_130 : decode cX7_dropsBy 130 = .ok (.iload 6, 2) := by decide +kernel
theorem dX7_dropsBy_132 : decode cX7_dropsBy 132 = .ok (.istore 7, 2) := by decide +kernel
theorem dX7_dropsBy_134 : decode cX7_dropsBy 134 = .ok (.goto 20, 3) := by decide +kernel
theorem dX7_dropsBy_137 : decode cX7_dropsBy 137 = .ok (.iload 6, 2) := by decide +kernel
theorem dX7_dropsBy_139 : decode cX7_dropsBy 139 = .ok (.iload_n 3, 1) := by decide +kernel
theorem dX7_dropsBy_140 : decode cX7_dropsBy 140 = .ok (.ifCond .ne 7, 3) := by decide +kernel
theorem dX7_dropsBy_143 : decode cX7_dropsBy 143 = .ok (.iconst 1, 1) := by decide +kernel
theorem dX7_dropsBy_144 : decode cX7_dropsBy 144 = .ok (.goto 4, 3) := by decide +kernel
theorem dX7_dropsBy_147 : decode cX7_dropsBy 147 = .ok (.iconst 0, 1) := by decide +kernel
theorem dX7_dropsBy_148 : decode cX7_dropsBy 148 = .ok (.iadd, 1) := by decide +kernel
theorem dX7_dropsBy_149 : decode cX7_dropsBy 149 = .ok (.istore 7, 2) := by decide +kernel
theorem dX7_dropsBy_151 : decode cX7_dropsBy 151 = .ok (.goto 3, 3) := by decide +kernel
theorem dX7_dropsBy_154 : decode cX7_dropsBy 154 = .ok (.iload 7, 2) := by decide +kernel
theorem dX7_dropsBy_156 : decode cX7_dropsBy 156 = .ok (.aload_n 0, 1) := by decide +kernel
theorem dX7_dropsBy_157 : decode cX7_dropsBy 157 = .ok (.iload_n 1, 1) := by decide +kernel
theorem dX7_dropsBy_158 : decode cX7_dropsBy 158 = .ok (.iconst 3, 1) := by decide +kernel
theorem dX7_dropsBy_159 : decode cX7_dropsBy 159 = .ok (.iload 4, 2) := by decide +kernel
theorem dX7_dropsBy_161 : decode cX7_dropsBy 161 = .ok (.iadd, 1) := by decide +kernel
theorem dX7_dropsBy_162 : decode cX7_dropsBy 162 = .ok (.invokevirtual 64, 3) := by decide +kernel
theorem dX7_dropsBy_165 : decode cX7_dropsBy 165 = .ok (.invokestatic 86, 3) := by decide +kernel
theorem dX7_dropsBy_168 : decode cX7_dropsBy 168 = .ok (.ireturn, 1) := by decide +kernel
theorem dX7_sideBy_0 : decode cX7_sideBy 0 = .ok (.iconst 0, 1) := by decide +kernel
theorem dX7_sideBy_1 : decode cX7_sideBy 1 = .ok (.istore 4, 2) := by decide +kernel
theorem dX7_sideBy_3 : decode cX7_sideBy 3 = .ok (.iconst 0, 1) := by decide +kernel
theorem dX7_sideBy_4 : decode cX7_sideBy 4 = .ok (.istore 5, 2) := by decide +kernel
theorem dX7_sideBy_6 : decode cX7_sideBy 6 = .ok (.iload 5, 2) := by decide +kernel
theorem dX7_sideBy_8 : decode cX7_sideBy 8 = .ok (.aload_n 0, 1) := by decide +kernel
theorem dX7_sideBy_9 : decode cX7_sideBy 9 = .ok (.getfield 9, 3) := by decide +kernel
theorem dX7_sideBy_12 : decode cX7_sideBy 12 = .ok (.iconst 1, 1) := by decide +kernel
theorem dX7_sideBy_13 : decode cX7_sideBy 13 = .ok (.iaload, 1) := by decide +kernel
theorem dX7_sideBy_14 : decode cX7_sideBy 14 = .ok (.if_icmp .ge 36, 3) := by decide +kernel
theorem dX7_sideBy_17 : decode cX7_sideBy 17 = .ok (.iload 4, 2) := by decide +kernel
theorem dX7_sideBy_19 : decode cX7_sideBy 19 = .ok (.iload_n 2, 1) := by decide +kernel
theorem dX7_sideBy_20 : decode cX7_sideBy 20 = .ok (.iload 5, 2) := by decide +kernel
theorem dX7_sideBy_22 : decode cX7_sideBy 22 = .ok (.invokestatic 76, 3) := by decide +kernel
theorem dX7_sideBy_25 : decode cX7_sideBy 25 = .ok (.iload_n 3, 1) := by decide +kernel
theorem dX7_sideBy_26 : decode cX7_sideBy 26 = .ok (.if_icmp .ne 14, 3) := by decide +kernel
theorem dX7_sideBy_29 : decode cX7_sideBy 29 = .ok (.aload_n 0, 1) := by decide +kernel
theorem dX7_sideBy_30 : decode cX7_sideBy 30 = .ok (.iload 5, 2) := by decide +kernel
theorem dX7_sideBy_32 : decode cX7_sideBy 32 = .ok (.iload_n 1, 1) := by decide +kernel
theorem dX7_sideBy_33 : decode cX7_sideBy 33 = .ok (.iload_n 2, 1) := by decide +kernel
theorem dX7_sideBy_34 : decode cX7_sideBy 34 = .ok (.invokevirtual 89, 3) := by decide +kernel
theorem dX7_sideBy_37 : decode cX7_sideBy 37 = .ok (.goto 4, 3) := by decide +kernel
theorem dX7_sideBy_40 : decode cX7_sideBy 40 = .ok (.iconst 0, 1) := by decide +kernel
theorem dX7_sideBy_41 : decode cX7_sideBy 41 = .ok (.iadd, 1) := by decide +kernel
theorem dX7_sideBy_42 : decode cX7_sideBy 42 = .ok (.istore 4, 2) := by decide +kernel
theorem dX7_sideBy_44 : decode cX7_sideBy 44 = .ok (.iinc 5 1, 3) := by decide +kernel
theorem dX7_sideBy_47 : decode cX7_sideBy 47 = .ok (.goto (-41), 3) := by decide +kernel
theorem dX7_sideBy_50 : decode cX7_sideBy 50 = .ok (.iload 4, 2) := by decide +kernel
theorem dX7_sideBy_52 : decode cX7_sideBy 52 = .ok (.ireturn, 1) := by decide +kernel
theorem dX7_passesBy_0 : decode cX7_passesBy 0 = .ok (.aload_n 0, 1) := by decide +kernel
theorem dX7_passesBy_1 : decode cX7_passesBy 1 = .ok (.iload_n 1, 1) := by decide +kernel
theorem dX7_passesBy_2 : decode cX7_passesBy 2 = .ok (.iload_n 2, 1) := by decide +kernel
theorem dX7_passesBy_3 : decode cX7_passesBy 3 = .ok (.iconst 1, 1) := by decide +kernel
theorem dX7_passesBy_4 : decode cX7_passesBy 4 = .ok (.invokevirtual 93, 3) := by decide +kernel
theorem dX7_passesBy_7 : decode cX7_passesBy 7 = .ok (.istore_n 3, 1) := by decide +kernel
theorem dX7_passesBy_8 : decode cX7_passesBy 8 = .ok (.aload_n 0, 1) := by decide +kernel
theorem dX7_passesBy_9 : decode cX7_passesBy 9 = .ok (.iload_n 1, 1) := by decide +kernel
theorem dX7_passesBy_10 : decode cX7_passesBy 10 = .ok (.iload_n 2, 1) := by decide +kernel
theorem dX7_passesBy_11 : decode cX7_passesBy 11 = .ok (.iconst 0, 1) := by decide +kernel
theorem dX7_passesBy_12 : decode cX7_passesBy 12 = .ok (.invokevirtual 93, 3) := by decide +kernel
theorem dX7_passesBy_15 : decode cX7_passesBy 15 = .ok (.istore 4, 2) := by decide +kernel
theorem dX7_passesBy_17 : decode cX7_passesBy 17 = .ok (.iload_n 3, 1) := by decide +kernel
theorem dX7_passesBy_18 : decode cX7_passesBy 18 = .ok (.iload 4, 2) := by decide +kernel
theorem dX7_passesBy_20 : decode cX7_passesBy 20 = .ok (.if_icmp .le 20, 3) := by decide +kernel
theorem dX7_passesBy_23 : decode cX7_passesBy 23 = .ok (.iload_n 3, 1) := by decide +kernel
theorem dX7_passesBy_24 : decode cX7_passesBy 24 = .ok (.iload 4, 2) := by decide +kernel
theorem dX7_passesBy_26 : decode cX7_passesBy 26 = .ok (.iadd, 1) := by decide +kernel
theorem dX7_passesBy_27 : decode cX7_passesBy 27 = .ok (.aload_n 0, 1) := by decide +kernel
theorem dX7_passesBy_28 : decode cX7_passesBy 28 = .ok (.iload_n 1, 1) := by decide +kernel
theorem dX7_passesBy_29 : decode cX7_passesBy 29 = .ok (.iconst 1, 1) := by decide +kernel
theorem dX7_passesBy_30 : decode cX7_passesBy 30 = .ok (.invokevirtual 80, 3) := by decide +kernel
theorem dX7_passesBy_33 : decode cX7_passesBy 33 = .ok (.if_icmp .lt 7, 3) := by decide +kernel
theorem dX7_passesBy_36 : decode cX7_passesBy 36 = .ok (.iconst 1, 1) := by decide +kernel
theorem dX7_passesBy_37 : decode cX7_passesBy 37 = .ok (.goto 4, 3) := by decide +kernel
theorem dX7_passesBy_40 : decode cX7_passesBy 40 = .ok (.iconst 0, 1) := by decide +kernel
theorem dX7_passesBy_41 : decode cX7_passesBy 41 = .ok (.ireturn, 1) := by decide +kernel
theorem dX7_passesNow_0 : decode cX7_passesNow 0 = .ok (.aload_n 0, 1) := by decide +kernel
theorem dX7_passesNow_1 : decode cX7_passesNow 1 = .ok (.iload_n 1, 1) := by decide +kernel
theorem dX7_passesNow_2 : decode cX7_passesNow 2 = .ok (.aload_n 0, 1) := by decide +kernel
theorem dX7_passesNow_3 : decode cX7_passesNow 3 = .ok (.iload_n 1, 1) := by decide +kernel
theorem dX7_passesNow_4 : decode cX7_passesNow 4 = .ok (.iconst 2, 1) := by decide +kernel
theorem dX7_passesNow_5 : decode cX7_passesNow 5 = .ok (.invokevirtual 80, 3) := by decide +kernel
theorem dX7_passesNow_8 : decode cX7_passesNow 8 = .ok (.invokevirtual 97, 3) := by decide +kernel
theorem dX7_passesNow_11 : decode cX7_passesNow 11 = .ok (.ireturn, 1) := by decide +kernel
theorem dX7_droppedAll_0 : decode cX7_droppedAll 0 = .ok (.aload_n 0, 1) := by decide +kernel
theorem dX7_droppedAll_1 : decode cX7_droppedAll 1 = .ok (.iload_n 1, 1) := by decide +kernel
theorem dX7_droppedAll_2 : decode cX7_droppedAll 2 = .ok (.aload_n 0, 1) := by decide +kernel
theorem dX7_droppedAll_3 : decode cX7_droppedAll 3 = .ok (.iload_n 1, 1) := by decide +kernel
theorem dX7_droppedAll_4 : decode cX7_droppedAll 4 = .ok (.iconst 2, 1) := by decide +kernel
theorem dX7_droppedAll_5 : decode cX7_droppedAll 5 = .ok (.invokevirtual 80, 3) := by decide +kernel
theorem dX7_droppedAll_8 : decode cX7_droppedAll 8 = .ok (.iconst 1, 1) := by decide +kernel
theorem dX7_droppedAll_9 : decode cX7_droppedAll 9 = .ok (.invokevirtual 93, 3) := by decide +kernel
theorem dX7_droppedAll_12 : decode cX7_droppedAll 12 = .ok (.aload_n 0, 1) := by decide +kernel
theorem dX7_droppedAll_13 : decode cX7_droppedAll 13 = .ok (.iload_n 1, 1) := by decide +kernel
theorem dX7_droppedAll_14 : decode cX7_droppedAll 14 = .ok (.aload_n 0, 1) := by decide +kernel
theorem dX7_droppedAll_15 : decode cX7_droppedAll 15 = .ok (.iload_n 1, 1) := by decide +kernel
theorem dX7_droppedAll_16 : decode cX7_droppedAll 16 = .ok (.iconst 2, 1) := by decide +kernel
theorem dX7_droppedAll_17 : decode cX7_droppedAll 17 = .ok (.invokevirtual 80, 3) := by decide +kernel
theorem dX7_droppedAll_20 : decode cX7_droppedAll 20 = .ok (.iconst 0, 1) := by decide +kernel
theorem dX7_droppedAll_21 : decode cX7_droppedAll 21 = .ok (.invokevirtual 93, 3) := by decide +kernel
theorem dX7_droppedAll_24 : decode cX7_droppedAll 24 = .ok (.iadd, 1) := by decide +kernel
theorem dX7_droppedAll_25 : decode cX7_droppedAll 25 = .ok (.ireturn, 1) := by decide +kernel
theorem dX7_comesEffect_0 : decode cX7_comesEffect 0 = .ok (.iconst 0, 1) := by decide +kernel
theorem dX7_comesEffect_1 : decode cX7_comesEffect 1 = .ok (.istore_n 2, 1) := by decide +kernel
theorem dX7_comesEffect_2 : decode cX7_comesEffect 2 = .ok (.iload_n 2, 1) := by decide +kernel
theorem dX7_comesEffect_3 : decode cX7_comesEffect 3 = .ok (.aload_n 0, 1) := by decide +kernel
theorem dX7_comesEffect_4 : decode cX7_comesEffect 4 = .ok (.getfield 9, 3) := by decide +kernel
theorem dX7_comesEffect_7 : decode cX7_comesEffect 7 = .ok (.iconst 1, 1) := by decide +kernel
theorem dX7_comesEffect_8 : decode cX7_comesEffect 8 = .ok (.iaload, 1) := by decide +kernel
theorem dX7_comesEffect_9 : decode cX7_comesEffect 9 = .ok (.if_icmp .ge 104, 3) := by decide +kernel
theorem dX7_comesEffect_12 : decode cX7_comesEffect 12 = .ok (.aload_n 0, 1) := by decide +kernel
theorem dX7_comesEffect_13 : decode cX7_comesEffect 13 = .ok (.iload_n 2, 1) := by decide +kernel
theorem dX7_comesEffect_14 : decode cX7_comesEffect 14 = .ok (.iconst 2, 1) := by decide +kernel
theorem dX7_comesEffect_15 : decode cX7_comesEffect 15 = .ok (.invokevirtual 64, 3) := by decide +kernel
theorem dX7_comesEffect_18 : decode cX7_comesEffect 18 = .ok (.istore_n 3, 1) := by decide +kernel
theorem dX7_comesEffect_19 : decode cX7_comesEffect 19 = .ok (.aload_n 0, 1) := by decide +kernel
theorem dX7_comesEffect_20 : decode cX7_comesEffect 20 = .ok (.iload_n 2, 1) := by decide +kernel
theorem dX7_comesEffect_21 : decode cX7_comesEffect 21 = .ok (.iconst 1, 1) := by decide +kernel
theorem dX7_comesEffect_22 : decode cX7_comesEffect 22 = .ok (.invokevirtual 64, 3) := by decide +kernel
theorem dX7_comesEffect_25 : decode cX7_comesEffect 25 = .ok (.istore 4, 2) := by decide +kernel
theorem dX7_comesEffect_27 : decode cX7_comesEffect 27 = .ok (.aload_n 0, 1) := by decide +kernel
theorem dX7_comesEffect_28 : decode cX7_comesEffect 28 = .ok (.iload_n 2, 1) := by decide +kernel
theorem dX7_comesEffect_29 : decode cX7_comesEffect 29 = .ok (.iconst 2, 1) := by decide +kernel
theorem dX7_comesEffect_30 : decode cX7_comesEffect 30 = .ok (.iload_n 1, 1) := by decide +kernel
theorem dX7_comesEffect_31 : decode cX7_comesEffect 31 = .ok (.iconst 1, 1) := by decide +kernel
theorem dX7_comesEffect_32 : decode cX7_comesEffect 32 = .ok (.if_icmp .ne 14, 3) := by decide +kernel
theorem dX7_comesEffect_35 : decode cX7_comesEffect 35 = .ok (.bipush 9, 2) := by decide +kernel
theorem dX7_comesEffect_37 : decode cX7_comesEffect 37 = .ok (.iload_n 3, 1) := by decide +kernel
theorem dX7_comesEffect_38 : decode cX7_comesEffect 38 = .ok (.iconst 1, 1) := by decide +kernel
theorem dX7_comesEffect_39 : decode cX7_comesEffect 39 = .ok (.iadd, 1) := by decide +kernel
theorem dX7_comesEffect_40 : decode cX7_comesEffect 40 = .ok (.invokestatic 86, 3) := by decide +kernel
theorem dX7_comesEffect_43 : decode cX7_comesEffect 43 = .ok (.goto 19, 3) := by decide +kernel
theorem dX7_comesEffect_46 : decode cX7_comesEffect 46 = .ok (.iload_n 1, 1) := by decide +kernel
theorem dX7_comesEffect_47 : decode cX7_comesEffect 47 = .ok (.iconst 2, 1) := by decide +kernel
theorem dX7_comesEffect_48 : decode cX7_comesEffect 48 = .ok (.if_icmp .ne 13, 3) := by decide +kernel
theorem dX7_comesEffect_51 : decode cX7_comesEffect 51 = .ok (.iload_n 3, 1) := by decide +kernel
theorem dX7_comesEffect_52 : decode cX7_comesEffect 52 = .ok (.ifCond .le 9, 3) := by decide +kernel
theorem dX7_comesEffect_55 : decode cX7_comesEffect 55 = .ok (.iload_n 3, 1) := by decide +kernel
theorem dX7_comesEffect_56 : decode cX7_comesEffect 56 = .ok (.iconst 1, 1) := by decide +kernel
theorem dX7_comesEffect_57 : decode cX7_comesEffect 57 = .ok (.isub, 1) := by decide +kernel
theorem dX7_comesEffect_58 : decode cX7_comesEffect 58 = .ok (.goto 4, 3) := by decide +kernel
theorem dX7_comesEffect_61 : decode cX7_comesEffect 61 = .ok (.iload_n 3, 1) := by decide +kernel
theorem dX7_comesEffect_62 : decode cX7_comesEffect 62 = .ok (.invokevirtual 100, 3) := by decide +kernel
theorem dX7_comesEffect_65 : decode cX7_comesEffect 65 = .ok (.aload_n 0, 1) := by decide +kernel
theorem dX7_comesEffect_66 : decode cX7_comesEffect 66 = .ok (.iload_n 2, 1) := by decide +kernel
theorem dX7_comesEffect_67 : decode cX7_comesEffect 67 = .ok (.iconst 1, 1) := by decide +kernel
theorem dX7_comesEffect_68 : decode cX7_comesEffect 68 = .ok (.iload_n 1, 1) := by decide +kernel
theorem dX7_comesEffect_69 : decode cX7_comesEffect 69 = .ok (.iconst 3, 1) := by decide +kernel
theorem dX7_comesEffect_70 : decode cX7_comesEffect 70 = .ok (.if_icmp .ne 15, 3) := by decide +kernel
theorem dX7_comesEffect_73 : decode cX7_comesEffect 73 = .ok (.bipush 99, 2) := by decide +kernel
theorem dX7_comesEffect_75 : decode cX7_comesEffect 75 = .ok (.iload 4, 2) := by decide +kernel
theorem dX7_comesEffect_77 : decode cX7_comesEffect 77 = .ok (.iconst 1, 1) := by decide +kernel
theorem dX7_comesEffect_78 : decode cX7_comesEffect 78 = .ok (.iadd, 1) := by decide +kernel
theorem dX7_comesEffect_79 : decode cX7_comesEffect 79 = .ok (.invokestatic 86, 3) := by decide +kernel
theorem dX7_comesEffect_82 : decode cX7_comesEffect 82 = .ok (.goto 22, 3) := by decide +kernel
theorem dX7_comesEffect_85 : decode cX7_comesEffect 85 = .ok (.iload_n 1, 1) := by decide +kernel
theorem dX7_comesEffect_86 : decode cX7_comesEffect 86 = .ok (.iconst 4, 1) := by decide +kernel
theorem dX7_comesEffect_87 : decode cX7_comesEffect 87 = .ok (.if_icmp .ne 15, 3) := by decide +kernel
theorem dX7_comesEffect_90 : decode cX7_comesEffect 90 = .ok (.iload 4, 2) := by decide +kernel
theorem dX7_comesEffect_92 : decode cX7_comesEffect 92 = .ok (.ifCond .le 10, 3) := by decide +kernel
theorem dX7_comesEffect_95 : decode cX7_comesEffect 95 = .ok (.iload 4, 2) := by decide +kernel
theorem dX7_comesEffect_97 : decode cX7_comesEffect 97 = .ok (.iconst 1, 1) := by decide +kernel
theorem dX7_comesEffect_98 : decode cX7_comesEffect 98 = .ok (.isub, 1) := by decide +kernel
theorem dX7_comesEffect_99 : decode cX7_comesEffect 99 = .ok (.goto 5, 3) := by decide +kernel
theorem dX7_comesEffect_102 : decode cX7_comesEffect 102 = .ok (.iload 4, 2) := by decide +kernel
theorem dX7_comesEffect_104 : decode cX7_comesEffect 104 = .ok (.invokevirtual 100, 3) := by decide +kernel
theorem dX7_comesEffect_107 : decode cX7_comesEffect 107 = .ok (.iinc 2 1, 3) := by decide +kernel
theorem dX7_comesEffect_110 : decode cX7_comesEffect 110 = .ok (.goto (-108), 3) := by decide +kernel
theorem dX7_comesEffect_113 : decode cX7_comesEffect 113 = .ok (.return_, 1) := by decide +kernel
theorem dX7_votes_0 : decode cX7_votes 0 = .ok (.aload_n 0, 1) := by decide +kernel
theorem dX7_votes_1 : decode cX7_votes 1 = .ok (.iload_n 1, 1) := by decide +kernel
theorem dX7_votes_2 : decode cX7_votes 2 = .ok (.invokevirtual 104, 3) := by decide +kernel
theorem dX7_votes_5 : decode cX7_votes 5 = .ok (.istore_n 2, 1) := by decide +kernel
theorem dX7_votes_6 : decode cX7_votes 6 = .ok (.aload_n 0, 1) := by decide +kernel
theorem dX7_votes_7 : decode cX7_votes 7 = .ok (.iload_n 1, 1) := by decide +kernel
theorem dX7_votes_8 : decode cX7_votes 8 = .ok (.iconst 0, 1) := by decide +kernel
theorem dX7_votes_9 : decode cX7_votes 9 = .ok (.invokevirtual 80, 3) := by decide +kernel
theorem dX7_votes_12 : decode cX7_votes 12 = .ok (.istore_n 3, 1) := by decide +kernel
theorem dX7_votes_13 : decode cX7_votes 13 = .ok (.iconst 0, 1) := by decide +kernel
theorem dX7_votes_14 : decode cX7_votes 14 = .ok (.istore 4, 2) := by decide +kernel
theorem dX7_votes_16 : decode cX7_votes 16 = .ok (.iload 4, 2) := by decide +kernel
theorem dX7_votes_18 : decode cX7_votes 18 = .ok (.aload_n 0, 1) := by decide +kernel
theorem dX7_votes_19 : decode cX7_votes 19 = .ok (.getfield 9, 3) := by decide +kernel
theorem dX7_votes_22 : decode cX7_votes 22 = .ok (.iconst 1, 1) := by decide +kernel
theorem dX7_votes_23 : decode cX7_votes 23 = .ok (.iaload, 1) := by decide +kernel
theorem dX7_votes_24 : decode cX7_votes 24 = .ok (.if_icmp .ge 29, 3) := by decide +kernel
theorem dX7_votes_27 : decode cX7_votes 27 = .ok (.aload_n 0, 1) := by decide +kernel
theorem dX7_votes_28 : decode cX7_votes 28 = .ok (.getfield 22, 3) := by decide +kernel
theorem dX7_votes_31 : decode cX7_votes 31 = .ok (.iload 4, 2) := by decide +kernel
theorem dX7_votes_33 : decode cX7_votes 33 = .ok (.aload_n 0, 1) := by decide +kernel
theorem dX7_votes_34 : decode cX7_votes 34 = .ok (.iload 4, 2) := by decide +kernel
theorem dX7_votes_36 : decode cX7_votes 36 = .ok (.iload_n 1, 1) := by decide +kernel
theorem dX7_votes_37 : decode cX7_votes 37 = .ok (.aload_n 0, 1) := by decide +kernel
theorem dX7_votes_38 : decode cX7_votes 38 = .ok (.iload_n 1, 1) := by decide +kernel
theorem dX7_votes_39 : decode cX7_votes 39 = .ok (.iconst 2, 1) := by decide +kernel
theorem dX7_votes_40 : decode cX7_votes 40 = .ok (.invokevirtual 80, 3) := by decide +kernel
theorem dX7_votes_43 : decode cX7_votes 43 = .ok (.invokevirtual 89, 3) := by decide +kernel
theorem dX7_votes_46 : decode cX7_votes 46 = .ok (.iastore, 1) := by decide +kernel
theorem dX7_votes_47 : decode cX7_votes 47 = .ok (.iinc 4 1, 3) := by decide +kernel
theorem dX7_votes_50 : decode cX7_votes 50 = .ok (.goto (-34), 3) := by decide +kernel
theorem dX7_votes_53 : decode cX7_votes 53 = .ok (.iconst 0, 1) := by decide +kernel
theorem dX7_votes_54 : decode cX7_votes 54 = .ok (.istore 4, 2) := by decide +kernel
theorem dX7_votes_56 : decode cX7_votes 56 = .ok (.iload 4, 2) := by decide +kernel
theorem dX7_votes_58 : decode cX7_votes 58 = .ok (.aload_n 0, 1) := by decide +kernel
theorem dX7_votes_59 : decode cX7_votes 59 = .ok (.getfield 9, 3) := by decide +kernel
theorem dX7_votes_62 : decode cX7_votes 62 = .ok (.iconst 1, 1) := by decide +kernel
theorem dX7_votes_63 : decode cX7_votes 63 = .ok (.iaload, 1) := by decide +kernel
theorem dX7_votes_64 : decode cX7_votes 64 = .ok (.if_icmp .ge 65, 3) := by decide +kernel
theorem dX7_votes_67 : decode cX7_votes 67 = .ok (.aload_n 0, 1) := by decide +kernel
theorem dX7_votes_68 : decode cX7_votes 68 = .ok (.iload 4, 2) := by decide +kernel
theorem dX7_votes_70 : decode cX7_votes 70 = .ok (.iconst 3, 1) := by decide +kernel
theorem dX7_votes_71 : decode cX7_votes 71 = .ok (.iload_n 3, 1) := by decide +kernel
theorem dX7_votes_72 : decode cX7_votes 72 = .ok (.iadd, 1) := by decide +kernel
theorem dX7_votes_73 : decode cX7_votes 73 = .ok (.aload_n 0, 1) := by decide +kernel
theorem dX7_votes_74 : decode cX7_votes 74 = .ok (.iload 4, 2) := by decide +kernel
theorem dX7_votes_76 : decode cX7_votes 76 = .ok (.iconst 3, 1) := by decide +kernel
theorem dX7_votes_77 : decode cX7_votes 77 = .ok (.iload_n 3, 1) := by decide +kernel
theorem dX7_votes_78 : decode cX7_votes 78 = .ok (.iadd, 1) := by decide +kernel
theorem dX7_votes_79 : decode cX7_votes 79 = .ok (.invokevirtual 64, 3) := by decide +kernel
theorem dX7_votes_82 : decode cX7_votes 82 = .ok (.aload_n 0, 1) := by decide +kernel
theorem dX7_votes_83 : decode cX7_votes 83 = .ok (.getfield 22, 3) := by decide +kernel
theorem dX7_votes_86 : decode cX7_votes 86 = .ok (.iload 4, 2) := by decide +kernel
theorem dX7_votes_88 : decode cX7_votes 88 = .ok (.iaload, 1) := by decide +kernel
theorem dX7_votes_89 : decode cX7_votes 89 = .ok (.isub, 1) := by decide +kernel
theorem dX7_votes_90 : decode cX7_votes 90 = .ok (.invokevirtual 100, 3) := by decide +kernel
theorem dX7_votes_93 : decode cX7_votes 93 = .ok (.aload_n 0, 1) := by decide +kernel
theorem dX7_votes_94 : decode cX7_votes 94 = .ok (.getfield 9, 3) := by decide +kernel
theorem dX7_votes_97 : decode cX7_votes 97 = .ok (.iconst 4, 1) := by decide +kernel
theorem dX7_votes_98 : decode cX7_votes 98 = .ok (.iload_n 3, 1) := by decide +kernel
theorem dX7_votes_99 : decode cX7_votes 99 = .ok (.iadd, 1) := by decide +kernel
theorem dX7_votes_100 : decode cX7_votes 100 = .ok (.sipush 9999, 3) := by decide +kernel
theorem dX7_votes_103 : decode cX7_votes 103 = .ok (.aload_n 0, 1) := by decide +kernel
theorem dX7_votes_104 : decode cX7_votes 104 = .ok (.getfield 9, 3) := by decide +kernel
theorem dX7_votes_107 : decode cX7_votes 107 = .ok (.iconst 4, 1) := by decide +kernel
theorem dX7_votes_108 : decode cX7_votes 108 = .ok (.iload_n 3, 1) := by decide +kernel
theorem dX7_votes_109 : decode cX7_votes 109 = .ok (.iadd, 1) := by decide +kernel
theorem dX7_votes_110 : decode cX7_votes 110 = .ok (.iaload, 1) := by decide +kernel
theorem dX7_votes_111 : decode cX7_votes 111 = .ok (.aload_n 0, 1) := by decide +kernel
theorem dX7_votes_112 : decode cX7_votes 112 = .ok (.getfield 22, 3) := by decide +kernel
theorem dX7_votes_115 : decode cX7_votes 115 = .ok (.iload 4, 2) := by decide +kernel
theorem dX7_votes_117 : decode cX7_votes 117 = .ok (.iaload, 1) := by decide +kernel
theorem dX7_votes_118 : decode cX7_votes 118 = .ok (.iadd, 1) := by decide +kernel
theorem dX7_votes_119 : decode cX7_votes 119 = .ok (.invokestatic 86, 3) := by decide +kernel
theorem dX7_votes_122 : decode cX7_votes 122 = .ok (.iastore, 1) := by decide +kernel
theorem dX7_votes_123 : decode cX7_votes 123 = .ok (.iinc 4 1, 3) := by decide +kernel
theorem dX7_votes_126 : decode cX7_votes 126 = .ok (.goto (-70), 3) := by decide +kernel
theorem dX7_votes_129 : decode cX7_votes 129 = .ok (.iload_n 2, 1) := by decide +kernel
theorem dX7_votes_130 : decode cX7_votes 130 = .ok (.ifCond .eq 29, 3) := by decide +kernel
theorem dX7_votes_133 : decode cX7_votes 133 = .ok (.aload_n 0, 1) := by decide +kernel
theorem dX7_votes_134 : decode cX7_votes 134 = .ok (.iload_n 1, 1) := by decide +kernel
theorem dX7_votes_135 : decode cX7_votes 135 = .ok (.iconst 4, 1) := by decide +kernel
theorem dX7_votes_136 : decode cX7_votes 136 = .ok (.invokevirtual 80, 3) := by decide +kernel
theorem dX7_votes_139 : decode cX7_votes 139 = .ok (.ifCond .ne 20, 3) := by decide +kernel
theorem dX7_votes_142 : decode cX7_votes 142 = .ok (.aload_n 0, 1) := by decide +kernel
theorem dX7_votes_143 : decode cX7_votes 143 = .ok (.iload_n 1, 1) := by decide +kernel
theorem dX7_votes_144 : decode cX7_votes 144 = .ok (.iconst 4, 1) := by decide +kernel
theorem dX7_votes_145 : decode cX7_votes 145 = .ok (.iconst 1, 1) := by decide +kernel
theorem dX7_votes_146 : decode cX7_votes 146 = .ok (.invokevirtual 107, 3) := by decide +kernel
theorem dX7_votes_149 : decode cX7_votes 149 = .ok (.aload_n 0, 1) := by decide +kernel
theorem dX7_votes_150 : decode cX7_votes 150 = .ok (.aload_n 0, 1) := by decide +kernel
theorem dX7_votes_151 : decode cX7_votes 151 = .ok (.iload_n 1, 1) := by decide +kernel
theorem dX7_votes_152 : decode cX7_votes 152 = .ok (.iconst 3, 1) := by decide +kernel
theorem dX7_votes_153 : decode cX7_votes 153 = .ok (.invokevirtual 80, 3) := by decide +kernel
theorem dX7_votes_156 : decode cX7_votes 156 = .ok (.invokevirtual 110, 3) := by decide +kernel
theorem dX7_votes_159 : decode cX7_votes 159 = .ok (.iload_n 2, 1) := by decide +kernel
theorem dX7_votes_160 : decode cX7_votes 160 = .ok (.ireturn, 1) := by decide +kernel
theorem dX7_goesSeason_0 : decode cX7_goesSeason 0 = .ok (.iconst 3, 1) := by decide +kernel
theorem dX7_goesSeason_1 : decode cX7_goesSeason 1 = .ok (.aload_n 0, 1) := by decide +kernel
theorem dX7_goesSeason_2 : decode cX7_goesSeason 2 = .ok (.getfield 9, 3) := by decide +kernel
theorem dX7_goesSeason_5 : decode cX7_goesSeason 5 = .ok (.iconst 0, 1) := by decide +kernel
theorem dX7_goesSeason_6 : decode cX7_goesSeason 6 = .ok (.iaload, 1) := by decide +kernel
theorem dX7_goesSeason_7 : decode cX7_goesSeason 7 = .ok (.iconst 4, 1) := by decide +kernel
theorem dX7_goesSeason_8 : decode cX7_goesSeason 8 = .ok (.irem, 1) := by decide +kernel
theorem dX7_goesSeason_9 : decode cX7_goesSeason 9 = .ok (.iadd, 1) := by decide +kernel
theorem dX7_goesSeason_10 : decode cX7_goesSeason 10 = .ok (.istore_n 1, 1) := by decide +kernel
theorem dX7_goesSeason_11 : decode cX7_goesSeason 11 = .ok (.iconst 0, 1) := by decide +kernel
theorem dX7_goesSeason_12 : decode cX7_goesSeason 12 = .ok (.istore_n 2, 1) := by decide +kernel
theorem dX7_goesSeason_13 : decode cX7_goesSeason 13 = .ok (.iload_n 2, 1) := by decide +kernel
theorem dX7_goesSeason_14 : decode cX7_goesSeason 14 = .ok (.aload_n 0, 1) := by decide +kernel
theorem dX7_goesSeason_15 : decode cX7_goesSeason 15 = .ok (.getfield 9, 3) := by decide +kernel
theorem dX7_goesSeason_18 : decode cX7_goesSeason 18 = .ok (.iconst 1, 1) := by decide +kernel
theorem dX7_goesSeason_19 : decode cX7_goesSeason 19 = .ok (.iaload, 1) := by decide +kernel
theorem dX7_goesSeason_20 : decode cX7_goesSeason 20 = .ok (.if_icmp .ge 33, 3) := by decide +kernel
theorem dX7_goesSeason_23 : decode cX7_goesSeason 23 = .ok (.aload_n 0, 1) := by decide +kernel
theorem dX7_goesSeason_24 : decode cX7_goesSeason 24 = .ok (.iload_n 2, 1) := by decide +kernel
theorem dX7_goesSeason_25 : decode cX7_goesSeason 25 = .ok (.iload_n 1, 1) := by decide +kernel
theorem dX7_goesSeason_26 : decode cX7_goesSeason 26 = .ok (.bipush 99, 2) := by decide +kernel
theorem dX7_goesSeason_28 : decode cX7_goesSeason 28 = .ok (.aload_n 0, 1) := by decide +kernel
theorem dX7_goesSeason_29 : decode cX7_goesSeason 29 = .ok (.iload_n 2, 1) := by decide +kernel
theorem dX7_goesSeason_30 : decode cX7_goesSeason 30 = .ok (.iload_n 1, 1) := by decide +kernel
theorem dX7_goesSeason_31 : decode cX7_goesSeason 31 = .ok (.invokevirtual 64, 3) := by decide +kernel
theorem dX7_goesSeason_34 : decode cX7_goesSeason 34 = .ok (.aload_n 0, 1) := by decide +kernel
theorem dX7_goesSeason_35 : decode cX7_goesSeason 35 = .ok (.iload_n 2, 1) := by decide +kernel
theorem dX7_goesSeason_36 : decode cX7_goesSeason 36 = .ok (.iconst 2, 1) := by decide +kernel
theorem dX7_goesSeason_37 : decode cX7_goesSeason 37 = .ok (.invokevirtual 64, 3) := by decide +kernel
theorem dX7_goesSeason_40 : decode cX7_goesSeason 40 = .ok (.iadd, 1) := by decide +kernel
theorem dX7_goesSeason_41 : decode cX7_goesSeason 41 = .ok (.invokestatic 86, 3) := by decide +kernel
theorem dX7_goesSeason_44 : decode cX7_goesSeason 44 = .ok (.invokevirtual 100, 3) := by decide +kernel
theorem dX7_goesSeason_47 : decode cX7_goesSeason 47 = .ok (.iinc 2 1, 3) := by decide +kernel
theorem dX7_goesSeason_50 : decode cX7_goesSeason 50 = .ok (.goto (-37), 3) := by decide +kernel
theorem dX7_goesSeason_53 : decode cX7_goesSeason 53 = .ok (.aload_n 0, 1) := by decide +kernel
theorem dX7_goesSeason_54 : decode cX7_goesSeason 54 = .ok (.getfield 9, 3) := by decide +kernel
theorem dX7_goesSeason_57 : decode cX7_goesSeason 57 = .ok (.iconst 0, 1) := by decide +kernel
theorem dX7_goesSeason_58 : decode cX7_goesSeason 58 = .ok (.dup2, 1) := by decide +kernel
theorem dX7_goesSeason_59 : decode cX7_goesSeason 59 = .ok (.iaload, 1) := by decide +kernel
theorem dX7_goesSeason_60 : decode cX7_goesSeason 60 = .ok (.iconst 1, 1) := by decide +kernel
theorem dX7_goesSeason_61 : decode cX7_goesSeason 61 = .ok (.iadd, 1) := by decide +kernel
theorem dX7_goesSeason_62 : decode cX7_goesSeason 62 = .ok (.iastore, 1) := by decide +kernel
theorem dX7_goesSeason_63 : decode cX7_goesSeason 63 = .ok (.return_, 1) := by decide +kernel
theorem dX7_addsBird_0 : decode cX7_addsBird 0 = .ok (.aload_n 0, 1) := by decide +kernel
theorem dX7_addsBird_1 : decode cX7_addsBird 1 = .ok (.getfield 9, 3) := by decide +kernel
theorem dX7_addsBird_4 : decode cX7_addsBird 4 = .ok (.iconst 1, 1) := by decide +kernel
theorem dX7_addsBird_5 : decode cX7_addsBird 5 = .ok (.iaload, 1) := by decide +kernel
theorem dX7_addsBird_6 : decode cX7_addsBird 6 = .ok (.istore_n 2, 1) := by decide +kernel
theorem dX7_addsBird_7 : decode cX7_addsBird 7 = .ok (.iconst 0, 1) := by decide +kernel
theorem dX7_addsBird_8 : decode cX7_addsBird 8 = .ok (.istore_n 3, 1) := by decide +kernel
theorem dX7_addsBird_9 : decode cX7_addsBird 9 = .ok (.iload_n 3, 1) := by decide +kernel
theorem dX7_addsBird_10 : decode cX7_addsBird 10 = .ok (.bipush 7, 2) := by decide +kernel
theorem dX7_addsBird_12 : decode cX7_addsBird 12 = .ok (.if_icmp .ge 16, 3) := by decide +kernel
theorem dX7_addsBird_15 : decode cX7_addsBird 15 = .ok (.aload_n 0, 1) := by decide +kernel
theorem dX7_addsBird_16 : decode cX7_addsBird 16 = .ok (.iload_n 2, 1) := by decide +kernel
theorem dX7_addsBird_17 : decode cX7_addsBird 17 = .ok (.iload_n 3, 1) := by decide +kernel
theorem dX7_addsBird_18 : decode cX7_addsBird 18 = .ok (.iconst 0, 1) := by decide +kernel
theorem dX7_addsBird_19 : decode cX7_addsBird 19 = .ok (.invokevirtual 100, 3) := by decide +kernel
theorem dX7_addsBird_22 : decode cX7_addsBird 22 = .ok (.iinc 3 1, 3) := by decide +kernel
theorem dX7_addsBird_25 : decode cX7_addsBird 25 = .ok (.goto (-16), 3) := by decide +kernel
theorem dX7_addsBird_28 : decode cX7_addsBird 28 = .ok (.aload_n 0, 1) := by decide +kernel
theorem dX7_addsBird_29 : decode cX7_addsBird 29 = .ok (.iload_n 2, 1) := by decide +kernel
theorem dX7_addsBird_30 : decode cX7_addsBird 30 = .ok (.iconst 0, 1) := by decide +kernel
theorem dX7_addsBird_31 : decode cX7_addsBird 31 = .ok (.iload_n 1, 1) := by decide +kernel
theorem dX7_addsBird_32 : decode cX7_addsBird 32 = .ok (.invokevirtual 100, 3) := by decide +kernel
theorem dX7_addsBird_35 : decode cX7_addsBird 35 = .ok (.aload_n 0, 1) := by decide +kernel
theorem dX7_addsBird_36 : decode cX7_addsBird 36 = .ok (.iload_n 2, 1) := by decide +kernel
theorem dX7_addsBird_37 : decode cX7_addsBird 37 = .ok (.iconst 1, 1) := by decide +kernel
theorem dX7_addsBird_38 : decode cX7_addsBird 38 = .ok (.iconst 2, 1) := by decide +kernel
theorem dX7_addsBird_39 : decode cX7_addsBird 39 = .ok (.invokevirtual 100, 3) := by decide +kernel
theorem dX7_addsBird_42 : decode cX7_addsBird 42 = .ok (.aload_n 0, 1) := by decide +kernel
theorem dX7_addsBird_43 : decode cX7_addsBird 43 = .ok (.iload_n 2, 1) := by decide +kernel
theorem dX7_addsBird_44 : decode cX7_addsBird 44 = .ok (.iconst 2, 1) := by decide +kernel
theorem dX7_addsBird_45 : decode cX7_addsBird 45 = .ok (.iconst 1, 1) := by decide +kernel
theorem dX7_addsBird_46 : decode cX7_addsBird 46 = .ok (.invokevirtual 100, 3) := by decide +kernel
theorem dX7_addsBird_49 : decode cX7_addsBird 49 = .ok (.aload_n 0, 1) := by decide +kernel
theorem dX7_addsBird_50 : decode cX7_addsBird 50 = .ok (.getfield 9, 3) := by decide +kernel
theorem dX7_addsBird_53 : decode cX7_addsBird 53 = .ok (.iconst 1, 1) := by decide +kernel
theorem dX7_addsBird_54 : decode cX7_addsBird 54 = .ok (.dup2, 1) := by decide +kernel
theorem dX7_addsBird_55 : decode cX7_addsBird 55 = .ok (.iaload, 1) := by decide +kernel
theorem dX7_addsBird_56 : decode cX7_addsBird 56 = .ok (.iconst 1, 1) := by decide +kernel
theorem dX7_addsBird_57 : decode cX7_addsBird 57 = .ok (.iadd, 1) := by decide +kernel
theorem dX7_addsBird_58 : decode cX7_addsBird 58 = .ok (.iastore, 1) := by decide +kernel
theorem dX7_addsBird_59 : decode cX7_addsBird 59 = .ok (.return_, 1) := by decide +kernel
theorem dX7_addsMotion_0 : decode cX7_addsMotion 0 = .ok (.aload_n 0, 1) := by decide +kernel
theorem dX7_addsMotion_1 : decode cX7_addsMotion 1 = .ok (.getfield 9, 3) := by decide +kernel
theorem dX7_addsMotion_4 : decode cX7_addsMotion 4 = .ok (.iconst 2, 1) := by decide +kernel
theorem dX7_addsMotion_5 : decode cX7_addsMotion 5 = .ok (.iaload, 1) := by decide +kernel
theorem dX7_addsMotion_6 : decode cX7_addsMotion 6 = .ok (.istore_n 2, 1) := by decide +kernel
theorem dX7_addsMotion_7 : decode cX7_addsMotion 7 = .ok (.iconst 0, 1) := by decide +kernel
theorem dX7_addsMotion_8 : decode cX7_addsMotion 8 = .ok (.istore_n 3, 1) := by decide +kernel
theorem dX7_addsMotion_9 : decode cX7_addsMotion 9 = .ok (.iload_n 3, 1) := by decide +kernel
theorem dX7_addsMotion_10 : decode cX7_addsMotion 10 = .ok (.iconst 5, 1) := by decide +kernel
theorem dX7_addsMotion_11 : decode cX7_addsMotion 11 = .ok (.if_icmp .ge 16, 3) := by decide +kernel
theorem dX7_addsMotion_14 : decode cX7_addsMotion 14 = .ok (.aload_n 0, 1) := by decide +kernel
theorem dX7_addsMotion_15 : decode cX7_addsMotion 15 = .ok (.iload_n 2, 1) := by decide +kernel
theorem dX7_addsMotion_16 : decode cX7_addsMotion 16 = .ok (.iload_n 3, 1) := by decide +kernel
theorem dX7_addsMotion_17 : decode cX7_addsMotion 17 = .ok (.iconst 0, 1) := by decide +kernel
theorem dX7_addsMotion_18 : decode cX7_addsMotion 18 = .ok (.invokevirtual 107, 3) := by decide +kernel
theorem dX7_addsMotion_21 : decode cX7_addsMotion 21 = .ok (.iinc 3 1, 3) := by decide +kernel
theorem dX7_addsMotion_24 : decode cX7_addsMotion 24 = .ok (.goto (-15), 3) := by decide +kernel
theorem dX7_addsMotion_27 : decode cX7_addsMotion 27 = .ok (.aload_n 0, 1) := by decide +kernel
theorem dX7_addsMotion_28 : decode cX7_addsMotion 28 = .ok (.iload_n 2, 1) := by decide +kernel
theorem dX7_addsMotion_29 : decode cX7_addsMotion 29 = .ok (.iconst 0, 1) := by decide +kernel
theorem dX7_addsMotion_30 : decode cX7_addsMotion 30 = .ok (.iload_n 1, 1) := by decide +kernel
theorem dX7_addsMotion_31 : decode cX7_addsMotion 31 = .ok (.invokevirtual 107, 3) := by decide +kernel
theorem dX7_addsMotion_34 : decode cX7_addsMotion 34 = .ok (.aload_n 0, 1) := by decide +kernel
theorem dX7_addsMotion_35 : decode cX7_addsMotion 35 = .ok (.iload_n 2, 1) := by decide +kernel
theorem dX7_addsMotion_36 : decode cX7_addsMotion 36 = .ok (.iconst 1, 1) := by decide +kernel
theorem dX7_addsMotion_37 : decode cX7_addsMotion 37 = .ok (.iconst 1, 1) := by decide +kernel
theorem dX7_addsMotion_38 : decode cX7_addsMotion 38 = .ok (.invokevirtual 107, 3) := by decide +kernel
theorem dX7_addsMotion_41 : decode cX7_addsMotion 41 = .ok (.aload_n 0, 1) := by decide +kernel
theorem dX7_addsMotion_42 : decode cX7_addsMotion 42 = .ok (.getfield 9, 3) := by decide +kernel
theorem dX7_addsMotion_45 : decode cX7_addsMotion 45 = .ok (.iconst 2, 1) := by decide +kernel
theorem dX7_addsMotion_46 : decode cX7_addsMotion 46 = .ok (.dup2, 1) := by decide +kernel
theorem dX7_addsMotion_47 : decode cX7_addsMotion 47 = .ok (.iaload, 1) := by decide +kernel
theorem dX7_addsMotion_48 : decode cX7_addsMotion 48 = .ok (.iconst 1, 1) := by decide +kernel
theorem dX7_addsMotion_49 : decode cX7_addsMotion 49 = .ok (.iadd, 1) := by decide +kernel
theorem dX7_addsMotion_50 : decode cX7_addsMotion 50 = .ok (.iastore, 1) := by decide +kernel
theorem dX7_addsMotion_51 : decode cX7_addsMotion 51 = .ok (.return_, 1) := by decide +kernel
theorem dX7_bird_0 : decode cX7_bird 0 = .ok (.iload_n 1, 1) := by decide +kernel
theorem dX7_bird_1 : decode cX7_bird 1 = .ok (.iconst 0, 1) := by decide +kernel
theorem dX7_bird_2 : decode cX7_bird 2 = .ok (.bipush 6, 2) := by decide +kernel
theorem dX7_bird_4 : decode cX7_bird 4 = .ok (.invokestatic 60, 3) := by decide +kernel
theorem dX7_bird_7 : decode cX7_bird 7 = .ok (.ifCond .ne 9, 3) := by decide +kernel
theorem dX7_bird_10 : decode cX7_bird 10 = .ok (.aload_n 0, 1) := by decide +kernel
theorem dX7_bird_11 : decode cX7_bird 11 = .ok (.iconst 0, 1) := by decide +kernel
theorem dX7_bird_12 : decode cX7_bird 12 = .ok (.invokevirtual 114, 3) := by decide +kernel
theorem dX7_bird_15 : decode cX7_bird 15 = .ok (.ireturn, 1) := by decide +kernel
theorem dX7_bird_16 : decode cX7_bird 16 = .ok (.aload_n 0, 1) := by decide +kernel
theorem dX7_bird_17 : decode cX7_bird 17 = .ok (.getfield 9, 3) := by decide +kernel
theorem dX7_bird_20 : decode cX7_bird 20 = .ok (.iconst 1, 1) := by decide +kernel
theorem dX7_bird_21 : decode cX7_bird 21 = .ok (.iaload, 1) := by decide +kernel
theorem dX7_bird_22 : decode cX7_bird 22 = .ok (.bipush 8, 2) := by decide +kernel
theorem dX7_bird_24 : decode cX7_bird 24 = .ok (.if_icmp .ne 9, 3) := by decide +kernel
theorem dX7_bird_27 : decode cX7_bird 27 = .ok (.aload_n 0, 1) := by decide +kernel
theorem dX7_bird_28 : decode cX7_bird 28 = .ok (.iconst 1, 1) := by decide +kernel
theorem dX7_bird_29 : decode cX7_bird 29 = .ok (.invokevirtual 114, 3) := by decide +kernel
theorem dX7_bird_32 : decode cX7_bird 32 = .ok (.ireturn, 1) := by decide +kernel
theorem dX7_bird_33 : decode cX7_bird 33 = .ok (.aload_n 0, 1) := by decide +kernel
theorem dX7_bird_34 : decode cX7_bird 34 = .ok (.iload_n 1, 1) := by decide +kernel
theorem dX7_bird_35 : decode cX7_bird 35 = .ok (.invokevirtual 117, 3) := by decide +kernel
theorem dX7_bird_38 : decode cX7_bird 38 = .ok (.aload_n 0, 1) := by decide +kernel
theorem dX7_bird_39 : decode cX7_bird 39 = .ok (.getfield 9, 3) := by decide +kernel
theorem dX7_bird_42 : decode cX7_bird 42 = .ok (.iconst 1, 1) := by decide +kernel
theorem dX7_bird_43 : decode cX7_bird 43 = .ok (.iaload, 1) := by decide +kernel
theorem dX7_bird_44 : decode cX7_bird 44 = .ok (.iconst 1, 1) := by decide +kernel
theorem dX7_bird_45 : decode cX7_bird 45 = .ok (.isub, 1) := by decide +kernel
theorem dX7_bird_46 : decode cX7_bird 46 = .ok (.ireturn, 1) := by decide +kernel
theorem dX7_of_0 : decode cX7_of 0 = .ok (.aload_n 0, 1) := by decide +kernel
theorem dX7_of_1 : decode cX7_of 1 = .ok (.iload_n 1, 1) := by decide +kernel
theorem dX7_of_2 : decode cX7_of 2 = .ok (.invokevirtual 120, 3) := by decide +kernel
theorem dX7_of_5 : decode cX7_of 5 = .ok (.ifCond .eq 13, 3) := by decide +kernel
theorem dX7_of_8 : decode cX7_of 8 = .ok (.iload_n 2, 1) := by decide +kernel
theorem dX7_of_9 : decode cX7_of 9 = .ok (.iconst 0, 1) := by decide +kernel
theorem dX7_of_10 : decode cX7_of 10 = .ok (.bipush 8, 2) := by decide +kernel
theorem dX7_of_12 : decode cX7_of 12 = .ok (.invokestatic 60, 3) := by decide +kernel
theorem dX7_of_15 : decode cX7_of 15 = .ok (.ifCond .ne 9, 3) := by decide +kernel
theorem dX7_of_18 : decode cX7_of 18 = .ok (.aload_n 0, 1) := by decide +kernel
theorem dX7_of_19 : decode cX7_of 19 = .ok (.iconst 0, 1) := by decide +kernel
theorem dX7_of_20 : decode cX7_of 20 = .ok (.invokevirtual 114, 3) := by decide +kernel
theorem dX7_of_23 : decode cX7_of 23 = .ok (.ireturn, 1) := by decide +kernel
theorem dX7_of_24 : decode cX7_of 24 = .ok (.iload_n 2, 1) := by decide +kernel
theorem dX7_of_25 : decode cX7_of 25 = .ok (.bipush 7, 2) := by decide +kernel
theorem dX7_of_27 : decode cX7_of 27 = .ok (.if_icmp .ge 12, 3) := by decide +kernel
theorem dX7_of_30 : decode cX7_of 30 = .ok (.aload_n 0, 1) := by decide +kernel
theorem dX7_of_31 : decode cX7_of 31 = .ok (.iload_n 1, 1) := by decide +kernel
theorem dX7_of_32 : decode cX7_of 32 = .ok (.iload_n 2, 1) := by decide +kernel
theorem dX7_of_33 : decode cX7_of 33 = .ok (.invokevirtual 64, 3) := by decide +kernel
theorem dX7_of_36 : decode cX7_of 36 = .ok (.goto 30, 3) := by decide +kernel
theorem dX7_of_39 : decode cX7_of 39 = .ok (.iload_n 2, 1) := by decide +kernel
theorem dX7_of_40 : decode cX7_of 40 = .ok (.bipush 7, 2) := by decide +kernel
theorem dX7_of_42 : decode cX7_of 42 = .ok (.if_icmp .ne 11, 3) := by decide +kernel
theorem dX7_of_45 : decode cX7_of 45 = .ok (.aload_n 0, 1) := by decide +kernel
theorem dX7_of_46 : decode cX7_of 46 = .ok (.iload_n 1, 1) := by decide +kernel
theorem dX7_of_47 : decode cX7_of 47 = .ok (.invokevirtual 68, 3) := by decide +kernel
theorem dX7_of_50 : decode cX7_of 50 = .ok (.goto 16, 3) := by decide +kernel
theorem dX7_of_53 : decode cX7_of 53 = .ok (.aload_n 0, 1) := by decide +kernel
theorem dX7_of_54 : decode cX7_of 54 = .ok (.iload_n 1, 1) := by decide +kernel
theorem dX7_of_55 : decode cX7_of 55 = .ok (.invokevirtual 72, 3) := by decide +kernel
theorem dX7_of_58 : decode cX7_of 58 = .ok (.ifCond .eq 7, 3) := by decide +kernel
theorem dX7_of_61 : decode cX7_of 61 = .ok (.iconst 1, 1) := by decide +kernel
theorem dX7_of_62 : decode cX7_of 62 = .ok (.goto 4, 3) := by decide +kernel
theorem dX7_of_65 : decode cX7_of 65 = .ok (.iconst 0, 1) := by decide +kernel
theorem dX7_of_66 : decode cX7_of 66 = .ok (.ireturn, 1) := by decide +kernel
theorem dX7_change_0 : decode cX7_change 0 = .ok (.aload_n 0, 1) := by decide +kernel
theorem dX7_change_1 : decode cX7_change 1 = .ok (.iload_n 1, 1) := by decide +kernel
theorem dX7_change_2 : decode cX7_change 2 = .ok (.invokevirtual 120, 3) := by decide +kernel
theorem dX7_change_5 : decode cX7_change 5 = .ok (.ifCond .eq 42, 3) := by decide +kernel
theorem dX7_change_8 : decode cX7_change 8 = .ok (.iload_n 2, 1) := by decide +kernel
theorem dX7_change_9 : decode cX7_change 9 = .ok (.iconst 0, 1) := by decide +kernel
theorem dX7_change_10 : decode cX7_change 10 = .ok (.bipush 6, 2) := by decide +kernel
theorem dX7_change_12 : decode cX7_change 12 = .ok (.invokestatic 60, 3) := by decide +kernel
theorem dX7_change_15 : decode cX7_change 15 = .ok (.ifCond .eq 32, 3) := by decide +kernel
theorem dX7_change_18 : decode cX7_change 18 = .ok (.iload_n 3, 1) := by decide +kernel
theorem dX7_change_19 : decode cX7_change 19 = .ok (.iconst 0, 1) := by decide +kernel
theorem dX7_change_20 : decode cX7_change 20 = .ok (.iload_n 2, 1) := by decide +kernel
theorem dX7_change_21 : decode cX7_change 21 = .ok (.ifCond .ne 8, 3) := by decide +kernel
theorem dX7_change_24 : decode cX7_change 24 = .ok (.bipush 6, 2) := by decide +kernel
theorem dX7_change_26 : decode cX7_change 26 = .ok (.goto 15, 3) := by decide +kernel
theorem dX7_change_29 : decode cX7_change 29 = .ok (.iload_n 2, 1) := by decide +kernel
theorem dX7_change_30 : decode cX7_change 30 = .ok (.iconst 2, 1) := by decide +kernel
theorem dX7_change_31 : decode cX7_change 31 = .ok (.if_icmp .ne 8, 3) := by decide +kernel
theorem dX7_change_34 : decode cX7_change 34 = .ok (.bipush 9, 2) := by decide +kernel
theorem dX7_change_36 : decode cX7_change 36 = .ok (.goto 5, 3) := by decide +kernel
theorem dX7_change_39 : decode cX7_change 39 = .ok (.bipush 99, 2) := by decide +kernel
theorem dX7_change_41 : decode cX7_change 41 = .ok (.invokestatic 60, 3) := by decide +kernel
theorem dX7_change_44 : decode cX7_change 44 = .ok (.ifCond .ne 9, 3) := by decide +kernel
theorem dX7_change_47 : decode cX7_change 47 = .ok (.aload_n 0, 1) := by decide +kernel
theorem dX7_change_48 : decode cX7_change 48 = .ok (.iconst 0, 1) := by decide +kernel
theorem dX7_change_49 : decode cX7_change 49 = .ok (.invokevirtual 114, 3) := by decide +kernel
theorem dX7_change_52 : decode cX7_change 52 = .ok (.ireturn, 1) := by decide +kernel
theorem dX7_change_53 : decode cX7_change 53 = .ok (.aload_n 0, 1) := by decide +kernel
theorem dX7_change_54 : decode cX7_change 54 = .ok (.iload_n 1, 1) := by decide +kernel
theorem dX7_change_55 : decode cX7_change 55 = .ok (.iload_n 2, 1) := by decide +kernel
theorem dX7_change_56 : decode cX7_change 56 = .ok (.invokevirtual 64, 3) := by decide +kernel
theorem dX7_change_59 : decode cX7_change 59 = .ok (.istore 4, 2) := by decide +kernel
theorem dX7_change_61 : decode cX7_change 61 = .ok (.aload_n 0, 1) := by decide +kernel
theorem dX7_change_62 : decode cX7_change 62 = .ok (.iload_n 1, 1) := by decide +kernel
theorem dX7_change_63 : decode cX7_change 63 = .ok (.iload_n 2, 1) := by decide +kernel
theorem dX7_change_64 : decode cX7_change 64 = .ok (.iload_n 3, 1) := by decide +kernel
theorem dX7_change_65 : decode cX7_change 65 = .ok (.invokevirtual 100, 3) := by decide +kernel
theorem dX7_change_68 : decode cX7_change 68 = .ok (.iload 4, 2) := by decide +kernel
theorem dX7_change_70 : decode cX7_change 70 = .ok (.ireturn, 1) := by decide +kernel
theorem dX7_motion_0 : decode cX7_motion 0 = .ok (.iload_n 1, 1) := by decide +kernel
theorem dX7_motion_1 : decode cX7_motion 1 = .ok (.iconst 0, 1) := by decide +kernel
theorem dX7_motion_2 : decode cX7_motion 2 = .ok (.iconst 3, 1) := by decide +kernel
theorem dX7_motion_3 : decode cX7_motion 3 = .ok (.invokestatic 60, 3) := by decide +kernel
theorem dX7_motion_6 : decode cX7_motion 6 = .ok (.ifCond .ne 9, 3) := by decide +kernel
theorem dX7_motion_9 : decode cX7_motion 9 = .ok (.aload_n 0, 1) := by decide +kernel
theorem dX7_motion_10 : decode cX7_motion 10 = .ok (.iconst 0, 1) := by decide +kernel
theorem dX7_motion_11 : decode cX7_motion 11 = .ok (.invokevirtual 114, 3) := by decide +kernel
theorem dX7_motion_14 : decode cX7_motion 14 = .ok (.ireturn, 1) := by decide +kernel
theorem dX7_motion_15 : decode cX7_motion 15 = .ok (.aload_n 0, 1) := by decide +kernel
theorem dX7_motion_16 : decode cX7_motion 16 = .ok (.getfield 9, 3) := by decide +kernel
theorem dX7_motion_19 : decode cX7_motion 19 = .ok (.iconst 2, 1) := by decide +kernel
theorem dX7_motion_20 : decode cX7_motion 20 = .ok (.iaload, 1) := by decide +kernel
theorem dX7_motion_21 : decode cX7_motion 21 = .ok (.bipush 8, 2) := by decide +kernel
theorem dX7_motion_23 : decode cX7_motion 23 = .ok (.if_icmp .ne 9, 3) := by decide +kernel
theorem dX7_motion_26 : decode cX7_motion 26 = .ok (.aload_n 0, 1) := by decide +kernel
theorem dX7_motion_27 : decode cX7_motion 27 = .ok (.iconst 1, 1) := by decide +kernel
theorem dX7_motion_28 : decode cX7_motion 28 = .ok (.invokevirtual 114, 3) := by decide +kernel
theorem dX7_motion_31 : decode cX7_motion 31 = .ok (.ireturn, 1) := by decide +kernel
theorem dX7_motion_32 : decode cX7_motion 32 = .ok (.aload_n 0, 1) := by decide +kernel
theorem dX7_motion_33 : decode cX7_motion 33 = .ok (.iload_n 1, 1) := by decide +kernel
theorem dX7_motion_34 : decode cX7_motion 34 = .ok (.invokevirtual 123, 3) := by decide +kernel
theorem dX7_motion_37 : decode cX7_motion 37 = .ok (.aload_n 0, 1) := by decide +kernel
theorem dX7_motion_38 : decode cX7_motion 38 = .ok (.getfield 9, 3) := by decide +kernel
theorem dX7_motion_41 : decode cX7_motion 41 = .ok (.iconst 2, 1) := by decide +kernel
theorem dX7_motion_42 : decode cX7_motion 42 = .ok (.iaload, 1) := by decide +kernel
theorem dX7_motion_43 : decode cX7_motion 43 = .ok (.iconst 1, 1) := by decide +kernel
theorem dX7_motion_44 : decode cX7_motion 44 = .ok (.isub, 1) := by decide +kernel
theorem dX7_motion_45 : decode cX7_motion 45 = .ok (.ireturn, 1) := by decide +kernel
theorem dX7_told_0 : decode cX7_told 0 = .ok (.aload_n 0, 1) := by decide +kernel
theorem dX7_told_1 : decode cX7_told 1 = .ok (.iload_n 1, 1) := by decide +kernel
theorem dX7_told_2 : decode cX7_told 2 = .ok (.invokevirtual 126, 3) := by decide +kernel
theorem dX7_told_5 : decode cX7_told 5 = .ok (.ifCond .eq 21, 3) := by decide +kernel
theorem dX7_told_8 : decode cX7_told 8 = .ok (.iload_n 2, 1) := by decide +kernel
theorem dX7_told_9 : decode cX7_told 9 = .ok (.iconst 0, 1) := by decide +kernel
theorem dX7_told_10 : decode cX7_told 10 = .ok (.iconst 4, 1) := by decide +kernel
theorem dX7_told_11 : decode cX7_told 11 = .ok (.invokestatic 60, 3) := by decide +kernel
theorem dX7_told_14 : decode cX7_told 14 = .ok (.ifCond .eq 12, 3) := by decide +kernel
theorem dX7_told_17 : decode cX7_told 17 = .ok (.aload_n 0, 1) := by decide +kernel
theorem dX7_told_18 : decode cX7_told 18 = .ok (.iload_n 1, 1) := by decide +kernel
theorem dX7_told_19 : decode cX7_told 19 = .ok (.iload_n 2, 1) := by decide +kernel
theorem dX7_told_20 : decode cX7_told 20 = .ok (.invokevirtual 80, 3) := by decide +kernel
theorem dX7_told_23 : decode cX7_told 23 = .ok (.goto 8, 3) := by decide +kernel
theorem dX7_told_26 : decode cX7_told 26 = .ok (.aload_n 0, 1) := by decide +kernel
theorem dX7_told_27 : decode cX7_told 27 = .ok (.iconst 0, 1) := by decide +kernel
theorem dX7_told_28 : decode cX7_told 28 = .ok (.invokevirtual 114, 3) := by decide +kernel
theorem dX7_told_31 : decode cX7_told 31 = .ok (.ireturn, 1) := by decide +kernel
theorem dX7_greatest_0 : decode cX7_greatest 0 = .ok (.iload_n 1, 1) := by decide +kernel
theorem dX7_greatest_1 : decode cX7_greatest 1 = .ok (.ifCond .ne 7, 3) := by decide +kernel
theorem dX7_greatest_4 : decode cX7_greatest 4 = .ok (.iconst 3, 1) := by decide +kernel
theorem dX7_greatest_5 : decode cX7_greatest 5 = .ok (.goto 35, 3) := by decide +kernel
theorem dX7_greatest_8 : decode cX7_greatest 8 = .ok (.iload_n 1, 1) := by decide +kernel
theorem dX7_greatest_9 : decode cX7_greatest 9 = .ok (.iconst 1, 1) := by decide +kernel
theorem dX7_greatest_10 : decode cX7_greatest 10 = .ok (.if_icmp .ne 8, 3) := by decide +kernel
theorem dX7_greatest_13 : decode cX7_greatest 13 = .ok (.bipush 99, 2) := by decide +kernel
theorem dX7_greatest_15 : decode cX7_greatest 15 = .ok (.goto 25, 3) := by decide +kernel
theorem dX7_greatest_18 : decode cX7_greatest 18 = .ok (.iload_n 1, 1) := by decide +kernel
theorem dX7_greatest_19 : decode cX7_greatest 19 = .ok (.iconst 2, 1) := by decide +kernel
theorem dX7_greatest_20 : decode cX7_greatest 20 = .ok (.if_icmp .ne 10, 3) := by decide +kernel
theorem dX7_greatest_23 : decode cX7_greatest 23 = .ok (.aload_n 0, 1) := by decide +kernel
theorem dX7_greatest_24 : decode cX7_greatest 24 = .ok (.invokevirtual 129, 3) := by decide +kernel
theorem dX7_greatest_27 : decode cX7_greatest 27 = .ok (.goto 13, 3) := by decide +kernel
theorem dX7_greatest_30 : decode cX7_greatest 30 = .ok (.iload_n 1, 1) := by decide +kernel
theorem dX7_greatest_31 : decode cX7_greatest 31 = .ok (.iconst 3, 1) := by decide +kernel
theorem dX7_greatest_32 : decode cX7_greatest 32 = .ok (.if_icmp .ne 7, 3) := by decide +kernel
theorem dX7_greatest_35 : decode cX7_greatest 35 = .ok (.iconst 4, 1) := by decide +kernel
theorem dX7_greatest_36 : decode cX7_greatest 36 = .ok (.goto 4, 3) := by decide +kernel
theorem dX7_greatest_39 : decode cX7_greatest 39 = .ok (.iconst 1, 1) := by decide +kernel
theorem dX7_greatest_40 : decode cX7_greatest 40 = .ok (.ireturn, 1) := by decide +kernel
theorem dX7_tell_0 : decode cX7_tell 0 = .ok (.aload_n 0, 1) := by decide +kernel
theorem dX7_tell_1 : decode cX7_tell 1 = .ok (.iload_n 1, 1) := by decide +kernel
theorem dX7_tell_2 : decode cX7_tell 2 = .ok (.invokevirtual 126, 3) := by decide +kernel
theorem dX7_tell_5 : decode cX7_tell 5 = .ok (.ifCond .eq 25, 3) := by decide +kernel
theorem dX7_tell_8 : decode cX7_tell 8 = .ok (.iload_n 2, 1) := by decide +kernel
theorem dX7_tell_9 : decode cX7_tell 9 = .ok (.iconst 0, 1) := by decide +kernel
theorem dX7_tell_10 : decode cX7_tell 10 = .ok (.iconst 4, 1) := by decide +kernel
theorem dX7_tell_11 : decode cX7_tell 11 = .ok (.invokestatic 60, 3) := by decide +kernel
theorem dX7_tell_14 : decode cX7_tell 14 = .ok (.ifCond .eq 16, 3) := by decide +kernel
theorem dX7_tell_17 : decode cX7_tell 17 = .ok (.iload_n 3, 1) := by decide +kernel
theorem dX7_tell_18 : decode cX7_tell 18 = .ok (.iconst 0, 1) := by decide +kernel
theorem dX7_tell_19 : decode cX7_tell 19 = .ok (.aload_n 0, 1) := by decide +kernel
theorem dX7_tell_20 : decode cX7_tell 20 = .ok (.iload_n 2, 1) := by decide +kernel
theorem dX7_tell_21 : decode cX7_tell 21 = .ok (.invokevirtual 133, 3) := by decide +kernel
theorem dX7_tell_24 : decode cX7_tell 24 = .ok (.invokestatic 60, 3) := by decide +kernel
theorem dX7_tell_27 : decode cX7_tell 27 = .ok (.ifCond .ne 9, 3) := by decide +kernel
theorem dX7_tell_30 : decode cX7_tell 30 = .ok (.aload_n 0, 1) := by decide +kernel
theorem dX7_tell_31 : decode cX7_tell 31 = .ok (.iconst 0, 1) := by decide +kernel
theorem dX7_tell_32 : decode cX7_tell 32 = .ok (.invokevirtual 114, 3) := by decide +kernel
theorem dX7_tell_35 : decode cX7_tell 35 = .ok (.ireturn, 1) := by decide +kernel
theorem dX7_tell_36 : decode cX7_tell 36 = .ok (.aload_n 0, 1) := by decide +kernel
theorem dX7_tell_37 : decode cX7_tell 37 = .ok (.iload_n 1, 1) := by decide +kernel
theorem dX7_tell_38 : decode cX7_tell 38 = .ok (.iload_n 2, 1) := by decide +kernel
theorem dX7_tell_39 : decode cX7_tell 39 = .ok (.invokevirtual 80, 3) := by decide +kernel
theorem dX7_tell_42 : decode cX7_tell 42 = .ok (.istore 4, 2) := by decide +kernel
theorem dX7_tell_44 : decode cX7_tell 44 = .ok (.aload_n 0, 1) := by decide +kernel
theorem dX7_tell_45 : decode cX7_tell 45 = .ok (.iload_n 1, 1) := by decide +kernel
theorem dX7_tell_46 : decode cX7_tell 46 = .ok (.iload_n 2, 1) := by decide +kernel
theorem dX7_tell_47 : decode cX7_tell 47 = .ok (.iload_n 3, 1) := by decide +kernel
theorem dX7_tell_48 : decode cX7_tell 48 = .ok (.invokevirtual 107, 3) := by decide +kernel
theorem dX7_tell_51 : decode cX7_tell 51 = .ok (.iload 4, 2) := by decide +kernel
theorem dX7_tell_53 : decode cX7_tell 53 = .ok (.ireturn, 1) := by decide +kernel
theorem dX7_drops_0 : decode cX7_drops 0 = .ok (.aload_n 0, 1) := by decide +kernel
theorem dX7_drops_1 : decode cX7_drops 1 = .ok (.iload_n 1, 1) := by decide +kernel
theorem dX7_drops_2 : decode cX7_drops 2 = .ok (.invokevirtual 120, 3) := by decide +kernel
theorem dX7_drops_5 : decode cX7_drops 5 = .ok (.ifCond .eq 26, 3) := by decide +kernel
theorem dX7_drops_8 : decode cX7_drops 8 = .ok (.aload_n 0, 1) := by decide +kernel
theorem dX7_drops_9 : decode cX7_drops 9 = .ok (.iload_n 2, 1) := by decide +kernel
theorem dX7_drops_10 : decode cX7_drops 10 = .ok (.invokevirtual 126, 3) := by decide +kernel
theorem dX7_drops_13 : decode cX7_drops 13 = .ok (.ifCond .eq 18, 3) := by decide +kernel
theorem dX7_drops_16 : decode cX7_drops 16 = .ok (.aload_n 0, 1) := by decide +kernel
theorem dX7_drops_17 : decode cX7_drops 17 = .ok (.iload_n 1, 1) := by decide +kernel
theorem dX7_drops_18 : decode cX7_drops 18 = .ok (.iload_n 2, 1) := by decide +kernel
theorem dX7_drops_19 : decode cX7_drops 19 = .ok (.aload_n 0, 1) := by decide +kernel
theorem dX7_drops_20 : decode cX7_drops 20 = .ok (.iload_n 2, 1) := by decide +kernel
theorem dX7_drops_21 : decode cX7_drops 21 = .ok (.iconst 2, 1) := by decide +kernel
theorem dX7_drops_22 : decode cX7_drops 22 = .ok (.invokevirtual 80, 3) := by decide +kernel
theorem dX7_drops_25 : decode cX7_drops 25 = .ok (.invokevirtual 89, 3) := by decide +kernel
theorem dX7_drops_28 : decode cX7_drops 28 = .ok (.goto 8, 3) := by decide +kernel
theorem dX7_drops_31 : decode cX7_drops 31 = .ok (.aload_n 0, 1) := by decide +kernel
theorem dX7_drops_32 : decode cX7_drops 32 = .ok (.iconst 0, 1) := by decide +kernel
theorem dX7_drops_33 : decode cX7_drops 33 = .ok (.invokevirtual 114, 3) := by decide +kernel
theorem dX7_drops_36 : decode cX7_drops 36 = .ok (.ireturn, 1) := by decide +kernel
theorem dX7_side_0 : decode cX7_side 0 = .ok (.aload_n 0, 1) := by decide +kernel
theorem dX7_side_1 : decode cX7_side 1 = .ok (.iload_n 1, 1) := by decide +kernel
theorem dX7_side_2 : decode cX7_side 2 = .ok (.invokevirtual 126, 3) := by decide +kernel
theorem dX7_side_5 : decode cX7_side 5 = .ok (.ifCond .eq 36, 3) := by decide +kernel
theorem dX7_side_8 : decode cX7_side 8 = .ok (.iload_n 2, 1) := by decide +kernel
theorem dX7_side_9 : decode cX7_side 9 = .ok (.iconst 0, 1) := by decide +kernel
theorem dX7_side_10 : decode cX7_side 10 = .ok (.iconst 1, 1) := by decide +kernel
theorem dX7_side_11 : decode cX7_side 11 = .ok (.invokestatic 60, 3) := by decide +kernel
theorem dX7_side_14 : decode cX7_side 14 = .ok (.ifCond .eq 27, 3) := by decide +kernel
theorem dX7_side_17 : decode cX7_side 17 = .ok (.aload_n 0, 1) := by decide +kernel
theorem dX7_side_18 : decode cX7_side 18 = .ok (.iload_n 1, 1) := by decide +kernel
theorem dX7_side_19 : decode cX7_side 19 = .ok (.aload_n 0, 1) := by decide +kernel
theorem dX7_side_20 : decode cX7_side 20 = .ok (.iload_n 1, 1) := by decide +kernel
theorem dX7_side_21 : decode cX7_side 21 = .ok (.iconst 2, 1) := by decide +kernel
theorem dX7_side_22 : decode cX7_side 22 = .ok (.invokevirtual 80, 3) := by decide +kernel
theorem dX7_side_25 : decode cX7_side 25 = .ok (.iload_n 2, 1) := by decide +kernel
theorem dX7_side_26 : decode cX7_side 26 = .ok (.iconst 1, 1) := by decide +kernel
theorem dX7_side_27 : decode cX7_side 27 = .ok (.if_icmp .ne 7, 3) := by decide +kernel
theorem dX7_side_30 : decode cX7_side 30 = .ok (.iconst 1, 1) := by decide +kernel
theorem dX7_side_31 : decode cX7_side 31 = .ok (.goto 4, 3) := by decide +kernel
theorem dX7_side_34 : decode cX7_side 34 = .ok (.iconst 0, 1) := by decide +kernel
theorem dX7_side_35 : decode cX7_side 35 = .ok (.invokevirtual 93, 3) := by decide +kernel
theorem dX7_side_38 : decode cX7_side 38 = .ok (.goto 8, 3) := by decide +kernel
theorem dX7_side_41 : decode cX7_side 41 = .ok (.aload_n 0, 1) := by decide +kernel
theorem dX7_side_42 : decode cX7_side 42 = .ok (.iconst 0, 1) := by decide +kernel
theorem dX7_side_43 : decode cX7_side 43 = .ok (.invokevirtual 114, 3) := by decide +kernel
theorem dX7_side_46 : decode cX7_side 46 = .ok (.ireturn, 1) := by decide +kernel
theorem dX7_passes_0 : decode cX7_passes 0 = .ok (.aload_n 0, 1) := by decide +kernel
theorem dX7_passes_1 : decode cX7_passes 1 = .ok (.iload_n 1, 1) := by decide +kernel
theorem dX7_passes_2 : decode cX7_passes 2 = .ok (.invokevirtual 126, 3) := by decide +kernel
theorem dX7_passes_5 : decode cX7_passes 5 = .ok (.ifCond .eq 19, 3) := by decide +kernel
theorem dX7_passes_8 : decode cX7_passes 8 = .ok (.aload_n 0, 1) := by decide +kernel
theorem dX7_passes_9 : decode cX7_passes 9 = .ok (.iload_n 1, 1) := by decide +kernel
theorem dX7_passes_10 : decode cX7_passes 10 = .ok (.invokevirtual 104, 3) := by decide +kernel
theorem dX7_passes_13 : decode cX7_passes 13 = .ok (.ifCond .eq 7, 3) := by decide +kernel
theorem dX7_passes_16 : decode cX7_passes 16 = .ok (.iconst 1, 1) := by decide +kernel
theorem dX7_passes_17 : decode cX7_passes 17 = .ok (.goto 12, 3) := by decide +kernel
theorem dX7_passes_20 : decode cX7_passes 20 = .ok (.iconst 0, 1) := by decide +kernel
theorem dX7_passes_21 : decode cX7_passes 21 = .ok (.goto 8, 3) := by decide +kernel
theorem dX7_passes_24 : decode cX7_passes 24 = .ok (.aload_n 0, 1) := by decide +kernel
theorem dX7_passes_25 : decode cX7_passes 25 = .ok (.iconst 0, 1) := by decide +kernel
theorem dX7_passes_26 : decode cX7_passes 26 = .ok (.invokevirtual 114, 3) := by decide +kernel
theorem dX7_passes_29 : decode cX7_passes 29 = .ok (.ireturn, 1) := by decide +kernel
theorem dX7_vote_0 : decode cX7_vote 0 = .ok (.aload_n 0, 1) := by decide +kernel
theorem dX7_vote_1 : decode cX7_vote 1 = .ok (.iload_n 1, 1) := by decide +kernel
theorem dX7_vote_2 : decode cX7_vote 2 = .ok (.invokevirtual 126, 3) := by decide +kernel
theorem dX7_vote_5 : decode cX7_vote 5 = .ok (.ifCond .eq 19, 3) := by decide +kernel
theorem dX7_vote_8 : decode cX7_vote 8 = .ok (.aload_n 0, 1) := by decide +kernel
theorem dX7_vote_9 : decode cX7_vote 9 = .ok (.iload_n 1, 1) := by decide +kernel
theorem dX7_vote_10 : decode cX7_vote 10 = .ok (.invokevirtual 136, 3) := by decide +kernel
theorem dX7_vote_13 : decode cX7_vote 13 = .ok (.ifCond .eq 7, 3) := by decide +kernel
theorem dX7_vote_16 : decode cX7_vote 16 = .ok (.iconst 1, 1) := by decide +kernel
theorem dX7_vote_17 : decode cX7_vote 17 = .ok (.goto 12, 3) := by decide +kernel
theorem dX7_vote_20 : decode cX7_vote 20 = .ok (.iconst 0, 1) := by decide +kernel
theorem dX7_vote_21 : decode cX7_vote 21 = .ok (.goto 8, 3) := by decide +kernel
theorem dX7_vote_24 : decode cX7_vote 24 = .ok (.aload_n 0, 1) := by decide +kernel
theorem dX7_vote_25 : decode cX7_vote 25 = .ok (.iconst 0, 1) := by decide +kernel
theorem dX7_vote_26 : decode cX7_vote 26 = .ok (.invokevirtual 114, 3) := by decide +kernel
theorem dX7_vote_29 : decode cX7_vote 29 = .ok (.ireturn, 1) := by decide +kernel
theorem dX7_seasons_0 : decode cX7_seasons 0 = .ok (.iload_n 1, 1) := by decide +kernel
theorem dX7_seasons_1 : decode cX7_seasons 1 = .ok (.iconst 1, 1) := by decide +kernel
theorem dX7_seasons_2 : decode cX7_seasons 2 = .ok (.bipush 40, 2) := by decide +kernel
theorem dX7_seasons_4 : decode cX7_seasons 4 = .ok (.invokestatic 60, 3) := by decide +kernel
theorem dX7_seasons_7 : decode cX7_seasons 7 = .ok (.ifCond .ne 9, 3) := by decide +kernel
theorem dX7_seasons_10 : decode cX7_seasons 10 = .ok (.aload_n 0, 1) := by decide +kernel
theorem dX7_seasons_11 : decode cX7_seasons 11 = .ok (.iconst 0, 1) := by decide +kernel
theorem dX7_seasons_12 : decode cX7_seasons 12 = .ok (.invokevirtual 114, 3) := by decide +kernel
theorem dX7_seasons_15 : decode cX7_seasons 15 = .ok (.ireturn, 1) := by decide +kernel
theorem dX7_seasons_16 : decode cX7_seasons 16 = .ok (.aload_n 0, 1) := by decide +kernel
theorem dX7_seasons_17 : decode cX7_seasons 17 = .ok (.getfield 9, 3) := by decide +kernel
theorem dX7_seasons_20 : decode cX7_seasons 20 = .ok (.iconst 0, 1) := by decide +kernel
theorem dX7_seasons_21 : decode cX7_seasons 21 = .ok (.iaload, 1) := by decide +kernel
theorem dX7_seasons_22 : decode cX7_seasons 22 = .ok (.iload_n 1, 1) := by decide +kernel
theorem dX7_seasons_23 : decode cX7_seasons 23 = .ok (.iadd, 1) := by decide +kernel
theorem dX7_seasons_24 : decode cX7_seasons 24 = .ok (.ldc 139, 2) := by decide +kernel
theorem dX7_seasons_26 : decode cX7_seasons 26 = .ok (.if_icmp .le 9, 3) := by decide +kernel
theorem dX7_seasons_29 : decode cX7_seasons 29 = .ok (.aload_n 0, 1) := by decide +kernel
theorem dX7_seasons_30 : decode cX7_seasons 30 = .ok (.iconst 4, 1) := by decide +kernel
theorem dX7_seasons_31 : decode cX7_seasons 31 = .ok (.invokevirtual 114, 3) := by decide +kernel
theorem dX7_seasons_34 : decode cX7_seasons 34 = .ok (.ireturn, 1) := by decide +kernel
theorem dX7_seasons_35 : decode cX7_seasons 35 = .ok (.iconst 0, 1) := by decide +kernel
theorem dX7_seasons_36 : decode cX7_seasons 36 = .ok (.istore_n 2, 1) := by decide +kernel
theorem dX7_seasons_37 : decode cX7_seasons 37 = .ok (.iload_n 2, 1) := by decide +kernel
theorem dX7_seasons_38 : decode cX7_seasons 38 = .ok (.iload_n 1, 1) := by decide +kernel
theorem dX7_seasons_39 : decode cX7_seasons 39 = .ok (.if_icmp .ge 13, 3) := by decide +kernel
theorem dX7_seasons_42 : decode cX7_seasons 42 = .ok (.aload_n 0, 1) := by decide +kernel
theorem dX7_seasons_43 : decode cX7_seasons 43 = .ok (.invokevirtual 140, 3) := by decide +kernel
theorem dX7_seasons_46 : decode cX7_seasons 46 = .ok (.iinc 2 1, 3) := by decide +kernel
theorem dX7_seasons_49 : decode cX7_seasons 49 = .ok (.goto (-12), 3) := by decide +kernel
theorem dX7_seasons_52 : decode cX7_seasons 52 = .ok (.aload_n 0, 1) := by decide +kernel
theorem dX7_seasons_53 : decode cX7_seasons 53 = .ok (.invokevirtual 143, 3) := by decide +kernel
theorem dX7_seasons_56 : decode cX7_seasons 56 = .ok (.ireturn, 1) := by decide +kernel
theorem dX7_laws_0 : decode cX7_laws 0 = .ok (.iconst 0, 1) := by decide +kernel
theorem dX7_laws_1 : decode cX7_laws 1 = .ok (.istore_n 1, 1) := by decide +kernel
theorem dX7_laws_2 : decode cX7_laws 2 = .ok (.iconst 0, 1) := by decide +kernel
theorem dX7_laws_3 : decode cX7_laws 3 = .ok (.istore_n 2, 1) := by decide +kernel
theorem dX7_laws_4 : decode cX7_laws 4 = .ok (.iload_n 2, 1) := by decide +kernel
theorem dX7_laws_5 : decode cX7_laws 5 = .ok (.aload_n 0, 1) := by decide +kernel
theorem dX7_laws_6 : decode cX7_laws 6 = .ok (.getfield 9, 3) := by decide +kernel
theorem dX7_laws_9 : decode cX7_laws 9 = .ok (.iconst 2, 1) := by decide +kernel
theorem dX7_laws_10 : decode cX7_laws 10 = .ok (.iaload, 1) := by decide +kernel
theorem dX7_laws_11 : decode cX7_laws 11 = .ok (.if_icmp .ge 20, 3) := by decide +kernel
theorem dX7_laws_14 : decode cX7_laws 14 = .ok (.iload_n 1, 1) := by decide +kernel
theorem dX7_laws_15 : decode cX7_laws 15 = .ok (.aload_n 0, 1) := by decide +kernel
theorem dX7_laws_16 : decode cX7_laws 16 = .ok (.iload_n 2, 1) := by decide +kernel
theorem dX7_laws_17 : decode cX7_laws 17 = .ok (.iconst 4, 1) := by decide +kernel
theorem dX7_laws_18 : decode cX7_laws 18 = .ok (.invokevirtual 80, 3) := by decide +kernel
theorem dX7_laws_21 : decode cX7_laws 21 = .ok (.iload_n 2, 1) := by decide +kernel
theorem dX7_laws_22 : decode cX7_laws 22 = .ok (.ishl, 1) := by decide +kernel
theorem dX7_laws_23 : decode cX7_laws 23 = .ok (.ior, 1) := by decide +kernel
theorem dX7_laws_24 : decode cX7_laws 24 = .ok (.istore_n 1, 1) := by decide +kernel
theorem dX7_laws_25 : decode cX7_laws 25 = .ok (.iinc 2 1, 3) := by decide +kernel
theorem dX7_laws_28 : decode cX7_laws 28 = .ok (.goto (-24), 3) := by decide +kernel
theorem dX7_laws_31 : decode cX7_laws 31 = .ok (.iload_n 1, 1) := by decide +kernel
theorem dX7_laws_32 : decode cX7_laws 32 = .ok (.ireturn, 1) := by decide +kernel
theorem dX7_now_0 : decode cX7_now 0 = .ok (.iload_n 1, 1) := by decide +kernel
theorem dX7_now_1 : decode cX7_now 1 = .ok (.tableswitch 53 0 3 #[31, 38, 43, 48], 31) := by decide +kernel
theorem dX7_now_32 : decode cX7_now 32 = .ok (.aload_n 0, 1) := by decide +kernel
theorem dX7_now_33 : decode cX7_now 33 = .ok (.getfield 9, 3) := by decide +kernel
theorem dX7_now_36 : decode cX7_now 36 = .ok (.iconst 0, 1) := by decide +kernel
theorem dX7_now_37 : decode cX7_now 37 = .ok (.iaload, 1) := by decide +kernel
theorem dX7_now_38 : decode cX7_now 38 = .ok (.ireturn, 1) := by decide +kernel
theorem dX7_now_39 : decode cX7_now 39 = .ok (.aload_n 0, 1) := by decide +kernel
theorem dX7_now_40 : decode cX7_now 40 = .ok (.invokevirtual 143, 3) := by decide +kernel
theorem dX7_now_43 : decode cX7_now 43 = .ok (.ireturn, 1) := by decide +kernel
theorem dX7_now_44 : decode cX7_now 44 = .ok (.aload_n 0, 1) := by decide +kernel
theorem dX7_now_45 : decode cX7_now 45 = .ok (.invokevirtual 146, 3) := by decide +kernel
theorem dX7_now_48 : decode cX7_now 48 = .ok (.ireturn, 1) := by decide +kernel
theorem dX7_now_49 : decode cX7_now 49 = .ok (.aload_n 0, 1) := by decide +kernel
theorem dX7_now_50 : decode cX7_now 50 = .ok (.invokevirtual 149, 3) := by decide +kernel
theorem dX7_now_53 : decode cX7_now 53 = .ok (.ireturn, 1) := by decide +kernel
theorem dX7_now_54 : decode cX7_now 54 = .ok (.iload_n 1, 1) := by decide +kernel
theorem dX7_now_55 : decode cX7_now 55 = .ok (.iconst 4, 1) := by decide +kernel
theorem dX7_now_56 : decode cX7_now 56 = .ok (.bipush 7, 2) := by decide +kernel
theorem dX7_now_58 : decode cX7_now 58 = .ok (.invokestatic 60, 3) := by decide +kernel
theorem dX7_now_61 : decode cX7_now 61 = .ok (.ifCond .eq 16, 3) := by decide +kernel
theorem dX7_now_64 : decode cX7_now 64 = .ok (.aload_n 0, 1) := by decide +kernel
theorem dX7_now_65 : decode cX7_now 65 = .ok (.getfield 9, 3) := by decide +kernel
theorem dX7_now_68 : decode cX7_now 68 = .ok (.iconst 4, 1) := by decide +kernel
theorem dX7_now_69 : decode cX7_now 69 = .ok (.iload_n 1, 1) := by decide +kernel
theorem dX7_now_70 : decode cX7_now 70 = .ok (.iadd, 1) := by decide +kernel
theorem dX7_now_71 : decode cX7_now 71 = .ok (.iconst 4, 1) := by decide +kernel
theorem dX7_now_72 : decode cX7_now 72 = .ok (.isub, 1) := by decide +kernel
theorem dX7_now_73 : decode cX7_now 73 = .ok (.iaload, 1) := by decide +kernel
theorem dX7_now_74 : decode cX7_now 74 = .ok (.goto 8, 3) := by decide +kernel
theorem dX7_now_77 : decode cX7_now 77 = .ok (.aload_n 0, 1) := by decide +kernel
theorem dX7_now_78 : decode cX7_now 78 = .ok (.iconst 0, 1) := by decide +kernel
theorem dX7_now_79 : decode cX7_now 79 = .ok (.invokevirtual 114, 3) := by decide +kernel
theorem dX7_now_82 : decode cX7_now 82 = .ok (.ireturn, 1) := by decide +kernel
theorem dX7_clears_0 : decode cX7_clears 0 = .ok (.iconst 0, 1) := by decide +kernel
theorem dX7_clears_1 : decode cX7_clears 1 = .ok (.istore_n 1, 1) := by decide +kernel
theorem dX7_clears_2 : decode cX7_clears 2 = .ok (.iconst 0, 1) := by decide +kernel
theorem dX7_clears_3 : decode cX7_clears 3 = .ok (.istore_n 2, 1) := by decide +kernel
theorem dX7_clears_4 : decode cX7_clears 4 = .ok (.iload_n 2, 1) := by decide +kernel
theorem dX7_clears_5 : decode cX7_clears 5 = .ok (.iconst 4, 1) := by decide +kernel
theorem dX7_clears_6 : decode cX7_clears 6 = .ok (.if_icmp .ge 29, 3) := by decide +kernel
theorem dX7_clears_9 : decode cX7_clears 9 = .ok (.iload_n 1, 1) := by decide +kernel
theorem dX7_clears_10 : decode cX7_clears 10 = .ok (.aload_n 0, 1) := by decide +kernel
theorem dX7_clears_11 : decode cX7_clears 11 = .ok (.getfield 9, 3) := by decide +kernel
theorem dX7_clears_14 : decode cX7_clears 14 = .ok (.iconst 4, 1) := by decide +kernel
theorem dX7_clears_15 : decode cX7_clears 15 = .ok (.iload_n 2, 1) := by decide +kernel
theorem dX7_clears_16 : decode cX7_clears 16 = .ok (.iadd, 1) := by decide +kernel
theorem dX7_clears_17 : decode cX7_clears 17 = .ok (.iaload, 1) := by decide +kernel
theorem dX7_clears_18 : decode cX7_clears 18 = .ok (.iadd, 1) := by decide +kernel
theorem dX7_clears_19 : decode cX7_clears 19 = .ok (.istore_n 1, 1) := by decide +kernel
theorem dX7_clears_20 : decode cX7_clears 20 = .ok (.aload_n 0, 1) := by decide +kernel
theorem dX7_clears_21 : decode cX7_clears 21 = .ok (.getfield 9, 3) := by decide +kernel
theorem dX7_clears_24 : decode cX7_clears 24 = .ok (.iconst 4, 1) := by decide +kernel
theorem dX7_clears_25 : decode cX7_clears 25 = .ok (.iload_n 2, 1) := by decide +kernel
theorem dX7_clears_26 : decode cX7_clears 26 = .ok (.iadd, 1) := by decide +kernel
theorem dX7_clears_27 : decode cX7_clears 27 = .ok (.iconst 0, 1) := by decide +kernel
theorem dX7_clears_28 : decode cX7_clears 28 = .ok (.iastore, 1) := by decide +kernel
theorem dX7_clears_29 : decode cX7_clears 29 = .ok (.iinc 2 1, 3) := by decide +kernel
theorem dX7_clears_32 : decode cX7_clears 32 = .ok (.goto (-28), 3) := by decide +kernel
theorem dX7_clears_35 : decode cX7_clears 35 = .ok (.iload_n 1, 1) := by decide +kernel
theorem dX7_clears_36 : decode cX7_clears 36 = .ok (.ireturn, 1) := by decide +kernel
theorem dX7_when_0 : decode cX7_when 0 = .ok (.aload_n 0, 1) := by decide +kernel
theorem dX7_when_1 : decode cX7_when 1 = .ok (.iload_n 1, 1) := by decide +kernel
theorem dX7_when_2 : decode cX7_when 2 = .ok (.invokevirtual 126, 3) := by decide +kernel
theorem dX7_when_5 : decode cX7_when 5 = .ok (.ifCond .ne 9, 3) := by decide +kernel
theorem dX7_when_8 : decode cX7_when 8 = .ok (.aload_n 0, 1) := by decide +kernel
theorem dX7_when_9 : decode cX7_when 9 = .ok (.iconst 0, 1) := by decide +kernel
theorem dX7_when_10 : decode cX7_when 10 = .ok (.invokevirtual 114, 3) := by decide +kernel
theorem dX7_when_13 : decode cX7_when 13 = .ok (.ireturn, 1) := by decide +kernel
theorem dX7_when_14 : decode cX7_when 14 = .ok (.aload_n 0, 1) := by decide +kernel
theorem dX7_when_15 : decode cX7_when 15 = .ok (.invokevirtual 152, 3) := by decide +kernel
theorem dX7_when_18 : decode cX7_when 18 = .ok (.iconst 0, 1) := by decide +kernel
theorem dX7_when_19 : decode cX7_when 19 = .ok (.istore_n 2, 1) := by decide +kernel
theorem dX7_when_20 : decode cX7_when 20 = .ok (.aload_n 0, 1) := by decide +kernel
theorem dX7_when_21 : decode cX7_when 21 = .ok (.iload_n 1, 1) := by decide +kernel
theorem dX7_when_22 : decode cX7_when 22 = .ok (.invokevirtual 104, 3) := by decide +kernel
theorem dX7_when_25 : decode cX7_when 25 = .ok (.istore_n 3, 1) := by decide +kernel
theorem dX7_when_26 : decode cX7_when 26 = .ok (.iload_n 2, 1) := by decide +kernel
theorem dX7_when_27 : decode cX7_when 27 = .ok (.sipush 200, 3) := by decide +kernel
theorem dX7_when_30 : decode cX7_when 30 = .ok (.if_icmp .ge 23, 3) := by decide +kernel
theorem dX7_when_33 : decode cX7_when 33 = .ok (.iload_n 3, 1) := by decide +kernel
theorem dX7_when_34 : decode cX7_when 34 = .ok (.ifCond .ne 19, 3) := by decide +kernel
theorem dX7_when_37 : decode cX7_when 37 = .ok (.aload_n 0, 1) := by decide +kernel
theorem dX7_when_38 : decode cX7_when 38 = .ok (.invokevirtual 140, 3) := by decide +kernel
theorem dX7_when_41 : decode cX7_when 41 = .ok (.iinc 2 1, 3) := by decide +kernel
theorem dX7_when_44 : decode cX7_when 44 = .ok (.aload_n 0, 1) := by decide +kernel
theorem dX7_when_45 : decode cX7_when 45 = .ok (.iload_n 1, 1) := by decide +kernel
theorem dX7_when_46 : decode cX7_when 46 = .ok (.invokevirtual 104, 3) := by decide +kernel
theorem dX7_when_49 : decode cX7_when 49 = .ok (.istore_n 3, 1) := by decide +kernel
theorem dX7_when_50 : decode cX7_when 50 = .ok (.goto (-24), 3) := by decide +kernel
theorem dX7_when_53 : decode cX7_when 53 = .ok (.aload_n 0, 1) := by decide +kernel
theorem dX7_when_54 : decode cX7_when 54 = .ok (.invokevirtual 155, 3) := by decide +kernel
theorem dX7_when_57 : decode cX7_when 57 = .ok (.iload_n 3, 1) := by decide +kernel
theorem dX7_when_58 : decode cX7_when 58 = .ok (.ifCond .eq 7, 3) := by decide +kernel
theorem dX7_when_61 : decode cX7_when 61 = .ok (.iload_n 2, 1) := by decide +kernel
theorem dX7_when_62 : decode cX7_when 62 = .ok (.goto 8, 3) := by decide +kernel
theorem dX7_when_65 : decode cX7_when 65 = .ok (.aload_n 0, 1) := by decide +kernel
theorem dX7_when_66 : decode cX7_when 66 = .ok (.iconst 3, 1) := by decide +kernel
theorem dX7_when_67 : decode cX7_when 67 = .ok (.invokevirtual 114, 3) := by decide +kernel
theorem dX7_when_70 : decode cX7_when 70 = .ok (.ireturn, 1) := by decide +kernel
theorem dX7_flies_0 : decode cX7_flies 0 = .ok (.aload_n 0, 1) := by decide +kernel
theorem dX7_flies_1 : decode cX7_flies 1 = .ok (.iload_n 1, 1) := by decide +kernel
theorem dX7_flies_2 : decode cX7_flies 2 = .ok (.invokevirtual 120, 3) := by decide +kernel
theorem dX7_flies_5 : decode cX7_flies 5 = .ok (.ifCond .ne 9, 3) := by decide +kernel
theorem dX7_flies_8 : decode cX7_flies 8 = .ok (.aload_n 0, 1) := by decide +kernel
theorem dX7_flies_9 : decode cX7_flies 9 = .ok (.iconst 0, 1) := by decide +kernel
theorem dX7_flies_10 : decode cX7_flies 10 = .ok (.invokevirtual 114, 3) := by decide +kernel
theorem dX7_flies_13 : decode cX7_flies 13 = .ok (.ireturn, 1) := by decide +kernel
theorem dX7_flies_14 : decode cX7_flies 14 = .ok (.aload_n 0, 1) := by decide +kernel
theorem dX7_flies_15 : decode cX7_flies 15 = .ok (.invokevirtual 152, 3) := by decide +kernel
theorem dX7_flies_18 : decode cX7_flies 18 = .ok (.iconst 0, 1) := by decide +kernel
theorem dX7_flies_19 : decode cX7_flies 19 = .ok (.istore_n 2, 1) := by decide +kernel
theorem dX7_flies_20 : decode cX7_flies 20 = .ok (.iload_n 2, 1) := by decide +kernel
theorem dX7_flies_21 : decode cX7_flies 21 = .ok (.sipush 200, 3) := by decide +kernel
theorem dX7_flies_24 : decode cX7_flies 24 = .ok (.if_icmp .ge 21, 3) := by decide +kernel
theorem dX7_flies_27 : decode cX7_flies 27 = .ok (.aload_n 0, 1) := by decide +kernel
theorem dX7_flies_28 : decode cX7_flies 28 = .ok (.iload_n 1, 1) := by decide +kernel
theorem dX7_flies_29 : decode cX7_flies 29 = .ok (.invokevirtual 72, 3) := by decide +kernel
theorem dX7_flies_32 : decode cX7_flies 32 = .ok (.ifCond .ne 13, 3) := by decide +kernel
theorem dX7_flies_35 : decode cX7_flies 35 = .ok (.aload_n 0, 1) := by decide +kernel
theorem dX7_flies_36 : decode cX7_flies 36 = .ok (.invokevirtual 140, 3) := by decide +kernel
theorem dX7_flies_39 : decode cX7_flies 39 = .ok (.iinc 2 1, 3) := by decide +kernel
theorem dX7_flies_42 : decode cX7_flies 42 = .ok (.goto (-22), 3) := by decide +kernel
theorem dX7_flies_45 : decode cX7_flies 45 = .ok (.aload_n 0, 1) := by decide +kernel
theorem dX7_flies_46 : decode cX7_flies 46 = .ok (.iload_n 1, 1) := by decide +kernel
theorem dX7_flies_47 : decode cX7_flies 47 = .ok (.invokevirtual 72, 3) := by decide +kernel
theorem dX7_flies_50 : decode cX7_flies 50 = .ok (.istore_n 3, 1) := by decide +kernel
theorem dX7_flies_51 : decode cX7_flies 51 = .ok (.aload_n 0, 1) := by decide +kernel
theorem dX7_flies_52 : decode cX7_flies 52 = .ok (.invokevirtual 155, 3) := by decide +kernel
theorem dX7_flies_55 : decode cX7_flies 55 = .ok (.iload_n 3, 1) := by decide +kernel
theorem dX7_flies_56 : decode cX7_flies 56 = .ok (.ifCond .eq 7, 3) := by decide +kernel
theorem dX7_flies_59 : decode cX7_flies 59 = .ok (.iload_n 2, 1) := by decide +kernel
theorem dX7_flies_60 : decode cX7_flies 60 = .ok (.goto 8, 3) := by decide +kernel
theorem dX7_flies_63 : decode cX7_flies 63 = .ok (.aload_n 0, 1) := by decide +kernel
theorem dX7_flies_64 : decode cX7_flies 64 = .ok (.iconst 3, 1) := by decide +kernel
theorem dX7_flies_65 : decode cX7_flies 65 = .ok (.invokevirtual 114, 3) := by decide +kernel
theorem dX7_flies_68 : decode cX7_flies 68 = .ok (.ireturn, 1) := by decide +kernel
theorem dX7_plucked_0 : decode cX7_plucked 0 = .ok (.aload_n 0, 1) := by decide +kernel
theorem dX7_plucked_1 : decode cX7_plucked 1 = .ok (.iload_n 1, 1) := by decide +kernel
theorem dX7_plucked_2 : decode cX7_plucked 2 = .ok (.invokevirtual 126, 3) := by decide +kernel
theorem dX7_plucked_5 : decode cX7_plucked 5 = .ok (.ifCond .ne 9, 3) := by decide +kernel
theorem dX7_plucked_8 : decode cX7_plucked 8 = .ok (.aload_n 0, 1) := by decide +kernel
theorem dX7_plucked_9 : decode cX7_plucked 9 = .ok (.iconst 0, 1) := by decide +kernel
theorem dX7_plucked_10 : decode cX7_plucked 10 = .ok (.invokevirtual 114, 3) := by decide +kernel
theorem dX7_plucked_13 : decode cX7_plucked 13 = .ok (.ireturn, 1) := by decide +kernel
theorem dX7_plucked_14 : decode cX7_plucked 14 = .ok (.aload_n 0, 1) := by decide +kernel
theorem dX7_plucked_15 : decode cX7_plucked 15 = .ok (.invokevirtual 149, 3) := by decide +kernel
theorem dX7_plucked_18 : decode cX7_plucked 18 = .ok (.istore_n 2, 1) := by decide +kernel
theorem dX7_plucked_19 : decode cX7_plucked 19 = .ok (.aload_n 0, 1) := by decide +kernel
theorem dX7_plucked_20 : decode cX7_plucked 20 = .ok (.invokevirtual 152, 3) := by decide +kernel
theorem dX7_plucked_23 : decode cX7_plucked 23 = .ok (.aload_n 0, 1) := by decide +kernel
theorem dX7_plucked_24 : decode cX7_plucked 24 = .ok (.iload_n 1, 1) := by decide +kernel
theorem dX7_plucked_25 : decode cX7_plucked 25 = .ok (.invokevirtual 136, 3) := by decide +kernel
theorem dX7_plucked_28 : decode cX7_plucked 28 = .ok (.istore_n 3, 1) := by decide +kernel
theorem dX7_plucked_29 : decode cX7_plucked 29 = .ok (.iload_n 3, 1) := by decide +kernel
theorem dX7_plucked_30 : decode cX7_plucked 30 = .ok (.ifCond .ne 7, 3) := by decide +kernel
theorem dX7_plucked_33 : decode cX7_plucked 33 = .ok (.iload_n 3, 1) := by decide +kernel
theorem dX7_plucked_34 : decode cX7_plucked 34 = .ok (.ifCond .ne 10, 3) := by decide +kernel
theorem dX7_plucked_37 : decode cX7_plucked 37 = .ok (.aload_n 0, 1) := by decide +kernel
theorem dX7_plucked_38 : decode cX7_plucked 38 = .ok (.invokevirtual 149, 3) := by decide +kernel
theorem dX7_plucked_41 : decode cX7_plucked 41 = .ok (.goto 4, 3) := by decide +kernel
theorem dX7_plucked_44 : decode cX7_plucked 44 = .ok (.iconst 0, 1) := by decide +kernel
theorem dX7_plucked_45 : decode cX7_plucked 45 = .ok (.istore 4, 2) := by decide +kernel
theorem dX7_plucked_47 : decode cX7_plucked 47 = .ok (.aload_n 0, 1) := by decide +kernel
theorem dX7_plucked_48 : decode cX7_plucked 48 = .ok (.invokevirtual 155, 3) := by decide +kernel
theorem dX7_plucked_51 : decode cX7_plucked 51 = .ok (.iload_n 2, 1) := by decide +kernel
theorem dX7_plucked_52 : decode cX7_plucked 52 = .ok (.iload 4, 2) := by decide +kernel
theorem dX7_plucked_54 : decode cX7_plucked 54 = .ok (.iconst (-1), 1) := by decide +kernel
theorem dX7_plucked_55 : decode cX7_plucked 55 = .ok (.ixor, 1) := by decide +kernel
theorem dX7_plucked_56 : decode cX7_plucked 56 = .ok (.iand, 1) := by decide +kernel
theorem dX7_plucked_57 : decode cX7_plucked 57 = .ok (.ireturn, 1) := by decide +kernel
theorem dX7_hinges_0 : decode cX7_hinges 0 = .ok (.aload_n 0, 1) := by decide +kernel
theorem dX7_hinges_1 : decode cX7_hinges 1 = .ok (.iload_n 1, 1) := by decide +kernel
theorem dX7_hinges_2 : decode cX7_hinges 2 = .ok (.invokevirtual 126, 3) := by decide +kernel
theorem dX7_hinges_5 : decode cX7_hinges 5 = .ok (.ifCond .ne 9, 3) := by decide +kernel
theorem dX7_hinges_8 : decode cX7_hinges 8 = .ok (.aload_n 0, 1) := by decide +kernel
theorem dX7_hinges_9 : decode cX7_hinges 9 = .ok (.iconst 0, 1) := by decide +kernel
theorem dX7_hinges_10 : decode cX7_hinges 10 = .ok (.invokevirtual 114, 3) := by decide +kernel
theorem dX7_hinges_13 : decode cX7_hinges 13 = .ok (.ireturn, 1) := by decide +kernel
theorem dX7_hinges_14 : decode cX7_hinges 14 = .ok (.aload_n 0, 1) := by decide +kernel
theorem dX7_hinges_15 : decode cX7_hinges 15 = .ok (.iload_n 1, 1) := by decide +kernel
theorem dX7_hinges_16 : decode cX7_hinges 16 = .ok (.iconst 2, 1) := by decide +kernel
theorem dX7_hinges_17 : decode cX7_hinges 17 = .ok (.invokevirtual 80, 3) := by decide +kernel
theorem dX7_hinges_20 : decode cX7_hinges 20 = .ok (.istore_n 2, 1) := by decide +kernel
theorem dX7_hinges_21 : decode cX7_hinges 21 = .ok (.aload_n 0, 1) := by decide +kernel
theorem dX7_hinges_22 : decode cX7_hinges 22 = .ok (.iload_n 1, 1) := by decide +kernel
theorem dX7_hinges_23 : decode cX7_hinges 23 = .ok (.invokevirtual 104, 3) := by decide +kernel
theorem dX7_hinges_26 : decode cX7_hinges 26 = .ok (.istore_n 3, 1) := by decide +kernel
theorem dX7_hinges_27 : decode cX7_hinges 27 = .ok (.iconst 0, 1) := by decide +kernel
theorem dX7_hinges_28 : decode cX7_hinges 28 = .ok (.istore 4, 2) := by decide +kernel
theorem dX7_hinges_30 : decode cX7_hinges 30 = .ok (.iconst 0, 1) := by decide +kernel
theorem dX7_hinges_31 : decode cX7_hinges 31 = .ok (.istore 5, 2) := by decide +kernel
theorem dX7_hinges_33 : decode cX7_hinges 33 = .ok (.iload 5, 2) := by decide +kernel
theorem dX7_hinges_35 : decode cX7_hinges 35 = .ok (.aload_n 0, 1) := by decide +kernel
theorem dX7_hinges_36 : decode cX7_hinges 36 = .ok (.getfield 9, 3) := by decide +kernel
theorem dX7_hinges_39 : decode cX7_hinges 39 = .ok (.iconst 1, 1) := by decide +kernel
theorem dX7_hinges_40 : decode cX7_hinges 40 = .ok (.iaload, 1) := by decide +kernel
theorem dX7_hinges_41 : decode cX7_hinges 41 = .ok (.if_icmp .ge 37, 3) := by decide +kernel
theorem dX7_hinges_44 : decode cX7_hinges 44 = .ok (.iload 4, 2) := by decide +kernel
theorem dX7_hinges_46 : decode cX7_hinges 46 = .ok (.aload_n 0, 1) := by decide +kernel
theorem dX7_hinges_47 : decode cX7_hinges 47 = .ok (.iload_n 1, 1) := by decide +kernel
theorem dX7_hinges_48 : decode cX7_hinges 48 = .ok (.iload_n 2, 1) := by decide +kernel
theorem dX7_hinges_49 : decode cX7_hinges 49 = .ok (.iconst 1, 1) := by decide +kernel
theorem dX7_hinges_50 : decode cX7_hinges 50 = .ok (.iload 5, 2) := by decide +kernel
theorem dX7_hinges_52 : decode cX7_hinges 52 = .ok (.ishl, 1) := by decide +kernel
theorem dX7_hinges_53 : decode cX7_hinges 53 = .ok (.ixor, 1) := by decide +kernel
theorem dX7_hinges_54 : decode cX7_hinges 54 = .ok (.invokevirtual 97, 3) := by decide +kernel
theorem dX7_hinges_57 : decode cX7_hinges 57 = .ok (.iload_n 3, 1) := by decide +kernel
theorem dX7_hinges_58 : decode cX7_hinges 58 = .ok (.if_icmp .eq 10, 3) := by decide +kernel
theorem dX7_hinges_61 : decode cX7_hinges 61 = .ok (.iconst 1, 1) := by decide +kernel
theorem dX7_hinges_62 : decode cX7_hinges 62 = .ok (.iload 5, 2) := by decide +kernel
theorem dX7_hinges_64 : decode cX7_hinges 64 = .ok (.ishl, 1) := by decide +kernel
theorem dX7_hinges_65 : decode cX7_hinges 65 = .ok (.goto 4, 3) := by decide +kernel
theorem dX7_hinges_68 : decode cX7_hinges 68 = .ok (.iconst 0, 1) := by decide +kernel
theorem dX7_hinges_69 : decode cX7_hinges 69 = .ok (.ior, 1) := by decide +kernel
theorem dX7_hinges_70 : decode cX7_hinges 70 = .ok (.istore 4, 2) := by decide +kernel
theorem dX7_hinges_72 : decode cX7_hinges 72 = .ok (.iinc 5 1, 3) := by decide +kernel
theorem dX7_hinges_75 : decode cX7_hinges 75 = .ok (.goto (-42), 3) := by decide +kernel
theorem dX7_hinges_78 : decode cX7_hinges 78 = .ok (.iload 4, 2) := by decide +kernel
theorem dX7_hinges_80 : decode cX7_hinges 80 = .ok (.ireturn, 1) := by decide +kernel
theorem dX7_sets_0 : decode cX7_sets 0 = .ok (.aload_n 0, 1) := by decide +kernel
theorem dX7_sets_1 : decode cX7_sets 1 = .ok (.iload_n 1, 1) := by decide +kernel
theorem dX7_sets_2 : decode cX7_sets 2 = .ok (.invokevirtual 126, 3) := by decide +kernel
theorem dX7_sets_5 : decode cX7_sets 5 = .ok (.ifCond .ne 9, 3) := by decide +kernel
theorem dX7_sets_8 : decode cX7_sets 8 = .ok (.aload_n 0, 1) := by decide +kernel
theorem dX7_sets_9 : decode cX7_sets 9 = .ok (.iconst 0, 1) := by decide +kernel
theorem dX7_sets_10 : decode cX7_sets 10 = .ok (.invokevirtual 114, 3) := by decide +kernel
theorem dX7_sets_13 : decode cX7_sets 13 = .ok (.ireturn, 1) := by decide +kernel
theorem dX7_sets_14 : decode cX7_sets 14 = .ok (.iconst 0, 1) := by decide +kernel
theorem dX7_sets_15 : decode cX7_sets 15 = .ok (.istore_n 2, 1) := by decide +kernel
theorem dX7_sets_16 : decode cX7_sets 16 = .ok (.iconst 0, 1) := by decide +kernel
theorem dX7_sets_17 : decode cX7_sets 17 = .ok (.istore_n 3, 1) := by decide +kernel
theorem dX7_sets_18 : decode cX7_sets 18 = .ok (.iload_n 3, 1) := by decide +kernel
theorem dX7_sets_19 : decode cX7_sets 19 = .ok (.aload_n 0, 1) := by decide +kernel
theorem dX7_sets_20 : decode cX7_sets 20 = .ok (.invokevirtual 129, 3) := by decide +kernel
theorem dX7_sets_23 : decode cX7_sets 23 = .ok (.if_icmp .gt 26, 3) := by decide +kernel
theorem dX7_sets_26 : decode cX7_sets 26 = .ok (.iload_n 2, 1) := by decide +kernel
theorem dX7_sets_27 : decode cX7_sets 27 = .ok (.aload_n 0, 1) := by decide +kernel
theorem dX7_sets_28 : decode cX7_sets 28 = .ok (.iload_n 1, 1) := by decide +kernel
theorem dX7_sets_29 : decode cX7_sets 29 = .ok (.iload_n 3, 1) := by decide +kernel
theorem dX7_sets_30 : decode cX7_sets 30 = .ok (.invokevirtual 97, 3) := by decide +kernel
theorem dX7_sets_33 : decode cX7_sets 33 = .ok (.ifCond .eq 7, 3) := by decide +kernel
theorem dX7_sets_36 : decode cX7_sets 36 = .ok (.iconst 1, 1) := by decide +kernel
theorem dX7_sets_37 : decode cX7_sets 37 = .ok (.goto 4, 3) := by decide +kernel
theorem dX7_sets_40 : decode cX7_sets 40 = .ok (.iconst 0, 1) := by decide +kernel
theorem dX7_sets_41 : decode cX7_sets 41 = .ok (.iadd, 1) := by decide +kernel
theorem dX7_sets_42 : decode cX7_sets 42 = .ok (.istore_n 2, 1) := by decide +kernel
theorem dX7_sets_43 : decode cX7_sets 43 = .ok (.iinc 3 1, 3) := by decide +kernel
theorem dX7_sets_46 : decode cX7_sets 46 = .ok (.goto (-28), 3) := by decide +kernel
theorem dX7_sets_49 : decode cX7_sets 49 = .ok (.iload_n 2, 1) := by decide +kernel
theorem dX7_sets_50 : decode cX7_sets 50 = .ok (.ireturn, 1) := by decide +kernel
theorem dX7_power_0 : decode cX7_power 0 = .ok (.aload_n 0, 1) := by decide +kernel
theorem dX7_power_1 : decode cX7_power 1 = .ok (.iload_n 1, 1) := by decide +kernel
theorem dX7_power_2 : decode cX7_power 2 = .ok (.invokevirtual 120, 3) := by decide +kernel
theorem dX7_power_5 : decode cX7_power 5 = .ok (.ifCond .eq 11, 3) := by decide +kernel
theorem dX7_power_8 : decode cX7_power 8 = .ok (.aload_n 0, 1) := by decide +kernel
theorem dX7_power_9 : decode cX7_power 9 = .ok (.iload_n 2, 1) := by decide +kernel
theorem dX7_power_10 : decode cX7_power 10 = .ok (.invokevirtual 126, 3) := by decide +kernel
theorem dX7_power_13 : decode cX7_power 13 = .ok (.ifCond .ne 9, 3) := by decide +kernel
theorem dX7_power_16 : decode cX7_power 16 = .ok (.aload_n 0, 1) := by decide +kernel
theorem dX7_power_17 : decode cX7_power 17 = .ok (.iconst 0, 1) := by decide +kernel
theorem dX7_power_18 : decode cX7_power 18 = .ok (.invokevirtual 114, 3) := by decide +kernel
theorem dX7_power_21 : decode cX7_power 21 = .ok (.ireturn, 1) := by decide +kernel
theorem dX7_power_22 : decode cX7_power 22 = .ok (.iconst 0, 1) := by decide +kernel
theorem dX7_power_23 : decode cX7_power 23 = .ok (.istore_n 3, 1) := by decide +kernel
theorem dX7_power_24 : decode cX7_power 24 = .ok (.iconst 0, 1) := by decide +kernel
theorem dX7_power_25 : decode cX7_power 25 = .ok (.istore 4, 2) := by decide +kernel
theorem dX7_power_27 : decode cX7_power 27 = .ok (.iload 4, 2) := by decide +kernel
theorem dX7_power_29 : decode cX7_power 29 = .ok (.aload_n 0, 1) := by decide +kernel
theorem dX7_power_30 : decode cX7_power 30 = .ok (.invokevirtual 129, 3) := by decide +kernel
theorem dX7_power_33 : decode cX7_power 33 = .ok (.if_icmp .gt 52, 3) := by decide +kernel
theorem dX7_power_36 : decode cX7_power 36 = .ok (.iload_n 3, 1) := by decide +kernel
theorem dX7_power_37 : decode cX7_power 37 = .ok (.iload 4, 2) := by decide +kernel
theorem dX7_power_39 : decode cX7_power 39 = .ok (.iload_n 1, 1) := by decide +kernel
theorem dX7_power_40 : decode cX7_power 40 = .ok (.invokestatic 76, 3) := by decide +kernel
theorem dX7_power_43 : decode cX7_power 43 = .ok (.ifCond .eq 33, 3) := by decide +kernel
theorem dX7_power_46 : decode cX7_power 46 = .ok (.aload_n 0, 1) := by decide +kernel
theorem dX7_power_47 : decode cX7_power 47 = .ok (.iload_n 2, 1) := by decide +kernel
theorem dX7_power_48 : decode cX7_power 48 = .ok (.iload 4, 2) := by decide +kernel
theorem dX7_power_50 : decode cX7_power 50 = .ok (.invokevirtual 97, 3) := by decide +kernel
theorem dX7_power_53 : decode cX7_power 53 = .ok (.ifCond .eq 23, 3) := by decide +kernel
theorem dX7_power_56 : decode cX7_power 56 = .ok (.aload_n 0, 1) := by decide +kernel
theorem dX7_power_57 : decode cX7_power 57 = .ok (.iload_n 2, 1) := by decide +kernel
theorem dX7_power_58 : decode cX7_power 58 = .ok (.iload 4, 2) := by decide +kernel
theorem dX7_power_60 : decode cX7_power 60 = .ok (.iconst 1, 1) := by decide +kernel
theorem dX7_power_61 : decode cX7_power 61 = .ok (.iload_n 1, 1) := by decide +kernel
theorem dX7_power_62 : decode cX7_power 62 = .ok (.ishl, 1) := by decide +kernel
theorem dX7_power_63 : decode cX7_power 63 = .ok (.iconst (-1), 1) := by decide +kernel
theorem dX7_power_64 : decode cX7_power 64 = .ok (.ixor, 1) := by decide +kernel
theorem dX7_power_65 : decode cX7_power 65 = .ok (.iand, 1) := by decide +kernel
theorem dX7_power_66 : decode cX7_power 66 = .ok (.invokevirtual 97, 3) := by decide +kernel
theorem dX7_power_69 : decode cX7_power 69 = .ok (.ifCond .ne 7, 3) := by decide +kernel
theorem dX7_power_72 : decode cX7_power 72 = .ok (.iconst 1, 1) := by decide +kernel
theorem dX7_power_73 : decode cX7_power 73 = .ok (.goto 4, 3) := by decide +kernel
theorem dX7_power_76 : decode cX7_power 76 = .ok (.iconst 0, 1) := by decide +kernel
theorem dX7_power_77 : decode cX7_power 77 = .ok (.iadd, 1) := by decide +kernel
theorem dX7_power_78 : decode cX7_power 78 = .ok (.istore_n 3, 1) := by decide +kernel
theorem dX7_power_79 : decode cX7_power 79 = .ok (.iinc 4 1, 3) := by decide +kernel
theorem dX7_power_82 : decode cX7_power 82 = .ok (.goto (-55), 3) := by decide +kernel
theorem dX7_power_85 : decode cX7_power 85 = .ok (.iload_n 3, 1) := by decide +kernel
theorem dX7_power_86 : decode cX7_power 86 = .ok (.ireturn, 1) := by decide +kernel
theorem dX7_won_0 : decode cX7_won 0 = .ok (.aload_n 0, 1) := by decide +kernel
theorem dX7_won_1 : decode cX7_won 1 = .ok (.iload_n 1, 1) := by decide +kernel
theorem dX7_won_2 : decode cX7_won 2 = .ok (.invokevirtual 126, 3) := by decide +kernel
theorem dX7_won_5 : decode cX7_won 5 = .ok (.ifCond .ne 9, 3) := by decide +kernel
theorem dX7_won_8 : decode cX7_won 8 = .ok (.aload_n 0, 1) := by decide +kernel
theorem dX7_won_9 : decode cX7_won 9 = .ok (.iconst 0, 1) := by decide +kernel
theorem dX7_won_10 : decode cX7_won 10 = .ok (.invokevirtual 114, 3) := by decide +kernel
theorem dX7_won_13 : decode cX7_won 13 = .ok (.ireturn, 1) := by decide +kernel
theorem dX7_won_14 : decode cX7_won 14 = .ok (.aload_n 0, 1) := by decide +kernel
theorem dX7_won_15 : decode cX7_won 15 = .ok (.iload_n 1, 1) := by decide +kernel
theorem dX7_won_16 : decode cX7_won 16 = .ok (.iconst 2, 1) := by decide +kernel
theorem dX7_won_17 : decode cX7_won 17 = .ok (.invokevirtual 80, 3) := by decide +kernel
theorem dX7_won_20 : decode cX7_won 20 = .ok (.istore_n 2, 1) := by decide +kernel
theorem dX7_won_21 : decode cX7_won 21 = .ok (.iconst (-1), 1) := by decide +kernel
theorem dX7_won_22 : decode cX7_won 22 = .ok (.istore_n 3, 1) := by decide +kernel
theorem dX7_won_23 : decode cX7_won 23 = .ok (.iconst 0, 1) := by decide +kernel
theorem dX7_won_24 : decode cX7_won 24 = .ok (.istore 4, 2) := by decide +kernel
theorem dX7_won_26 : decode cX7_won 26 = .ok (.iload 4, 2) := by decide +kernel
theorem dX7_won_28 : decode cX7_won 28 = .ok (.aload_n 0, 1) := by decide +kernel
theorem dX7_won_29 : decode cX7_won 29 = .ok (.invokevirtual 129, 3) := by decide +kernel
theorem dX7_won_32 : decode cX7_won 32 = .ok (.if_icmp .gt 63, 3) := by decide +kernel
theorem dX7_won_35 : decode cX7_won 35 = .ok (.iload 4, 2) := by decide +kernel
theorem dX7_won_37 : decode cX7_won 37 = .ok (.iload_n 2, 1) := by decide +kernel
theorem dX7_won_38 : decode cX7_won 38 = .ok (.iand, 1) := by decide +kernel
theorem dX7_won_39 : decode cX7_won 39 = .ok (.ifCond .ne 23, 3) := by decide +kernel
theorem dX7_won_42 : decode cX7_won 42 = .ok (.iload_n 3, 1) := by decide +kernel
theorem dX7_won_43 : decode cX7_won 43 = .ok (.ifCond .lt 15, 3) := by decide +kernel
theorem dX7_won_46 : decode cX7_won 46 = .ok (.iload 4, 2) := by decide +kernel
theorem dX7_won_48 : decode cX7_won 48 = .ok (.invokestatic 158, 3) := by decide +kernel
theorem dX7_won_51 : decode cX7_won 51 = .ok (.iload_n 3, 1) := by decide +kernel
theorem dX7_won_52 : decode cX7_won 52 = .ok (.invokestatic 158, 3) := by decide +kernel
theorem dX7_won_55 : decode cX7_won 55 = .ok (.if_icmp .ge 7, 3) := by decide +kernel
theorem dX7_won_58 : decode cX7_won 58 = .ok (.iconst 1, 1) := by decide +kernel
theorem dX7_won_59 : decode cX7_won 59 = .ok (.goto 4, 3) := by decide +kernel
theorem dX7_won_62 : decode cX7_won 62 = .ok (.iconst 0, 1) := by decide +kernel
theorem dX7_won_63 : decode cX7_won 63 = .ok (.istore 5, 2) := by decide +kernel
theorem dX7_won_65 : decode cX7_won 65 = .ok (.iload 5, 2) := by decide +kernel
theorem dX7_won_67 : decode cX7_won 67 = .ok (.ifCond .eq 20, 3) := by decide +kernel
theorem dX7_won_70 : decode cX7_won 70 = .ok (.aload_n 0, 1) := by decide +kernel
theorem dX7_won_71 : decode cX7_won 71 = .ok (.iload_n 1, 1) := by decide +kernel
theorem dX7_won_72 : decode cX7_won 72 = .ok (.iload_n 2, 1) := by decide +kernel
theorem dX7_won_73 : decode cX7_won 73 = .ok (.iload 4, 2) := by decide +kernel
theorem dX7_won_75 : decode cX7_won 75 = .ok (.ior, 1) := by decide +kernel
theorem dX7_won_76 : decode cX7_won 76 = .ok (.invokevirtual 97, 3) := by decide +kernel
theorem dX7_won_79 : decode cX7_won 79 = .ok (.ifCond .eq 8, 3) := by decide +kernel
theorem dX7_won_82 : decode cX7_won 82 = .ok (.iload 4, 2) := by decide +kernel
theorem dX7_won_84 : decode cX7_won 84 = .ok (.goto 4, 3) := by decide +kernel
theorem dX7_won_87 : decode cX7_won 87 = .ok (.iload_n 3, 1) := by decide +kernel
theorem dX7_won_88 : decode cX7_won 88 = .ok (.istore_n 3, 1) := by decide +kernel
theorem dX7_won_89 : decode cX7_won 89 = .ok (.iinc 4 1, 3) := by decide +kernel
theorem dX7_won_92 : decode cX7_won 92 = .ok (.goto (-66), 3) := by decide +kernel
theorem dX7_won_95 : decode cX7_won 95 = .ok (.iload_n 3, 1) := by decide +kernel
theorem dX7_won_96 : decode cX7_won 96 = .ok (.ifCond .ge 11, 3) := by decide +kernel
theorem dX7_won_99 : decode cX7_won 99 = .ok (.aload_n 0, 1) := by decide +kernel
theorem dX7_won_100 : decode cX7_won 100 = .ok (.iconst 3, 1) := by decide +kernel
theorem dX7_won_101 : decode cX7_won 101 = .ok (.invokevirtual 114, 3) := by decide +kernel
theorem dX7_won_104 : decode cX7_won 104 = .ok (.goto 4, 3) := by decide +kernel
theorem dX7_won_107 : decode cX7_won 107 = .ok (.iload_n 3, 1) := by decide +kernel
theorem dX7_won_108 : decode cX7_won 108 = .ok (.ireturn, 1) := by decide +kernel
theorem dX7_colour_0 : decode cX7_colour 0 = .ok (.aload_n 0, 1) := by decide +kernel
theorem dX7_colour_1 : decode cX7_colour 1 = .ok (.iload_n 1, 1) := by decide +kernel
theorem dX7_colour_2 : decode cX7_colour 2 = .ok (.invokevirtual 126, 3) := by decide +kernel
theorem dX7_colour_5 : decode cX7_colour 5 = .ok (.ifCond .ne 9, 3) := by decide +kernel
theorem dX7_colour_8 : decode cX7_colour 8 = .ok (.aload_n 0, 1) := by decide +kernel
theorem dX7_colour_9 : decode cX7_colour 9 = .ok (.iconst 0, 1) := by decide +kernel
theorem dX7_colour_10 : decode cX7_colour 10 = .ok (.invokevirtual 114, 3) := by decide +kernel
theorem dX7_colour_13 : decode cX7_colour 13 = .ok (.ireturn, 1) := by decide +kernel
theorem dX7_colour_14 : decode cX7_colour 14 = .ok (.aload_n 0, 1) := by decide +kernel
theorem dX7_colour_15 : decode cX7_colour 15 = .ok (.iload_n 1, 1) := by decide +kernel
theorem dX7_colour_16 : decode cX7_colour 16 = .ok (.iconst 0, 1) := by decide +kernel
theorem dX7_colour_17 : decode cX7_colour 17 = .ok (.invokevirtual 80, 3) := by decide +kernel
theorem dX7_colour_20 : decode cX7_colour 20 = .ok (.istore_n 2, 1) := by decide +kernel
theorem dX7_colour_21 : decode cX7_colour 21 = .ok (.iconst (-1), 1) := by decide +kernel
theorem dX7_colour_22 : decode cX7_colour 22 = .ok (.istore_n 3, 1) := by decide +kernel
theorem dX7_colour_23 : decode cX7_colour 23 = .ok (.iconst 0, 1) := by decide +kernel
theorem dX7_colour_24 : decode cX7_colour 24 = .ok (.istore 4, 2) := by decide +kernel
theorem dX7_colour_26 : decode cX7_colour 26 = .ok (.iconst 0, 1) := by decide +kernel
theorem dX7_colour_27 : decode cX7_colour 27 = .ok (.istore 5, 2) := by decide +kernel
theorem dX7_colour_29 : decode cX7_colour 29 = .ok (.iload 5, 2) := by decide +kernel
theorem dX7_colour_31 : decode cX7_colour 31 = .ok (.iconst 4, 1) := by decide +kernel
theorem dX7_colour_32 : decode cX7_colour 32 = .ok (.if_icmp .ge 76, 3) := by decide +kernel
theorem dX7_colour_35 : decode cX7_colour 35 = .ok (.aload_n 0, 1) := by decide +kernel
theorem dX7_colour_36 : decode cX7_colour 36 = .ok (.iload_n 1, 1) := by decide +kernel
theorem dX7_colour_37 : decode cX7_colour 37 = .ok (.iconst 0, 1) := by decide +kernel
theorem dX7_colour_38 : decode cX7_colour 38 = .ok (.iload 5, 2) := by decide +kernel
theorem dX7_colour_40 : decode cX7_colour 40 = .ok (.invokevirtual 107, 3) := by decide +kernel
theorem dX7_colour_43 : decode cX7_colour 43 = .ok (.aload_n 0, 1) := by decide +kernel
theorem dX7_colour_44 : decode cX7_colour 44 = .ok (.iload_n 1, 1) := by decide +kernel
theorem dX7_colour_45 : decode cX7_colour 45 = .ok (.invokevirtual 161, 3) := by decide +kernel
theorem dX7_colour_48 : decode cX7_colour 48 = .ok (.istore 6, 2) := by decide +kernel
theorem dX7_colour_50 : decode cX7_colour 50 = .ok (.aload_n 0, 1) := by decide +kernel
theorem dX7_colour_51 : decode cX7_colour 51 = .ok (.iload_n 1, 1) := by decide +kernel
theorem dX7_colour_52 : decode cX7_colour 52 = .ok (.invokevirtual 104, 3) := by decide +kernel
theorem dX7_colour_55 : decode cX7_colour 55 = .ok (.ifCond .eq 18, 3) := by decide +kernel
theorem dX7_colour_58 : decode cX7_colour 58 = .ok (.iload_n 3, 1) := by decide +kernel
theorem dX7_colour_59 : decode cX7_colour 59 = .ok (.ifCond .lt 10, 3) := by decide +kernel
theorem dX7_colour_62 : decode cX7_colour 62 = .ok (.iload 6, 2) := by decide +kernel
theorem dX7_colour_64 : decode cX7_colour 64 = .ok (.iload 4, 2) := by decide +kernel
theorem dX7_colour_66 : decode cX7_colour 66 = .ok (.if_icmp .ge 7, 3) := by decide +kernel
theorem dX7_colour_69 : decode cX7_colour 69 = .ok (.iconst 1, 1) := by decide +kernel
theorem dX7_colour_70 : decode cX7_colour 70 = .ok (.goto 4, 3) := by decide +kernel
theorem dX7_colour_73 : decode cX7_colour 73 = .ok (.iconst 0, 1) := by decide +kernel
theorem dX7_colour_74 : decode cX7_colour 74 = .ok (.istore 7, 2) := by decide +kernel
theorem dX7_colour_76 : decode cX7_colour 76 = .ok (.iload 7, 2) := by decide +kernel
theorem dX7_colour_78 : decode cX7_colour 78 = .ok (.ifCond .eq 8, 3) := by decide +kernel
theorem dX7_colour_81 : decode cX7_colour 81 = .ok (.iload 5, 2) := by decide +kernel
theorem dX7_colour_83 : decode cX7_colour 83 = .ok (.goto 4, 3) := by decide +kernel
theorem dX7_colour_86 : decode cX7_colour 86 = .ok (.iload_n 3, 1) := by decide +kernel
theorem dX7_colour_87 : decode cX7_colour 87 = .ok (.istore_n 3, 1) := by decide +kernel
theorem dX7_colour_88 : decode cX7_colour 88 = .ok (.iload 7, 2) := by decide +kernel
theorem dX7_colour_90 : decode cX7_colour 90 = .ok (.ifCond .eq 8, 3) := by decide +kernel
theorem dX7_colour_93 : decode cX7_colour 93 = .ok (.iload 6, 2) := by decide +kernel
theorem dX7_colour_95 : decode cX7_colour 95 = .ok (.goto 5, 3) := by decide +kernel
theorem dX7_colour_98 : decode cX7_colour 98 = .ok (.iload 4, 2) := by decide +kernel
theorem dX7_colour_100 : decode cX7_colour 100 = .ok (.istore 4, 2) := by decide +kernel
theorem dX7_colour_102 : decode cX7_colour 102 = .ok (.iinc 5 1, 3) := by decide +kernel
theorem dX7_colour_105 : decode cX7_colour 105 = .ok (.goto (-76), 3) := by decide +kernel
theorem dX7_colour_108 : decode cX7_colour 108 = .ok (.aload_n 0, 1) := by decide +kernel
theorem dX7_colour_109 : decode cX7_colour 109 = .ok (.iload_n 1, 1) := by decide +kernel
theorem dX7_colour_110 : decode cX7_colour 110 = .ok (.iconst 0, 1) := by decide +kernel
theorem dX7_colour_111 : decode cX7_colour 111 = .ok (.iload_n 2, 1) := by decide +kernel
theorem dX7_colour_112 : decode cX7_colour 112 = .ok (.invokevirtual 107, 3) := by decide +kernel
theorem dX7_colour_115 : decode cX7_colour 115 = .ok (.iload_n 3, 1) := by decide +kernel
theorem dX7_colour_116 : decode cX7_colour 116 = .ok (.ifCond .ge 11, 3) := by decide +kernel
theorem dX7_colour_119 : decode cX7_colour 119 = .ok (.aload_n 0, 1) := by decide +kernel
theorem dX7_colour_120 : decode cX7_colour 120 = .ok (.iconst 3, 1) := by decide +kernel
theorem dX7_colour_121 : decode cX7_colour 121 = .ok (.invokevirtual 114, 3) := by decide +kernel
theorem dX7_colour_124 : decode cX7_colour 124 = .ok (.goto 4, 3) := by decide +kernel
theorem dX7_colour_127 : decode cX7_colour 127 = .ok (.iload_n 3, 1) := by decide +kernel
theorem dX7_colour_128 : decode cX7_colour 128 = .ok (.ireturn, 1) := by decide +kernel
theorem dX7_kindFor_0 : decode cX7_kindFor 0 = .ok (.aload_n 0, 1) := by decide +kernel
theorem dX7_kindFor_1 : decode cX7_kindFor 1 = .ok (.iload_n 1, 1) := by decide +kernel
theorem dX7_kindFor_2 : decode cX7_kindFor 2 = .ok (.invokevirtual 120, 3) := by decide +kernel
theorem dX7_kindFor_5 : decode cX7_kindFor 5 = .ok (.ifCond .ne 9, 3) := by decide +kernel
theorem dX7_kindFor_8 : decode cX7_kindFor 8 = .ok (.aload_n 0, 1) := by decide +kernel
theorem dX7_kindFor_9 : decode cX7_kindFor 9 = .ok (.iconst 0, 1) := by decide +kernel
theorem dX7_kindFor_10 : decode cX7_kindFor 10 = .ok (.invokevirtual 114, 3) := by decide +kernel
theorem dX7_kindFor_13 : decode cX7_kindFor 13 = .ok (.ireturn, 1) := by decide +kernel
theorem dX7_kindFor_14 : decode cX7_kindFor 14 = .ok (.aload_n 0, 1) := by decide +kernel
theorem dX7_kindFor_15 : decode cX7_kindFor 15 = .ok (.iload_n 1, 1) := by decide +kernel
theorem dX7_kindFor_16 : decode cX7_kindFor 16 = .ok (.iconst 0, 1) := by decide +kernel
theorem dX7_kindFor_17 : decode cX7_kindFor 17 = .ok (.invokevirtual 64, 3) := by decide +kernel
theorem dX7_kindFor_20 : decode cX7_kindFor 20 = .ok (.istore_n 2, 1) := by decide +kernel
theorem dX7_kindFor_21 : decode cX7_kindFor 21 = .ok (.iconst 0, 1) := by decide +kernel
theorem dX7_kindFor_22 : decode cX7_kindFor 22 = .ok (.istore_n 3, 1) := by decide +kernel
theorem dX7_kindFor_23 : decode cX7_kindFor 23 = .ok (.iconst (-1), 1) := by decide +kernel
theorem dX7_kindFor_24 : decode cX7_kindFor 24 = .ok (.istore 4, 2) := by decide +kernel
theorem dX7_kindFor_26 : decode cX7_kindFor 26 = .ok (.iconst 0, 1) := by decide +kernel
theorem dX7_kindFor_27 : decode cX7_kindFor 27 = .ok (.istore 5, 2) := by decide +kernel
theorem dX7_kindFor_29 : decode cX7_kindFor 29 = .ok (.iload 5, 2) := by decide +kernel
theorem dX7_kindFor_31 : decode cX7_kindFor 31 = .ok (.bipush 6, 2) := by decide +kernel
theorem dX7_kindFor_33 : decode cX7_kindFor 33 = .ok (.if_icmp .gt 89, 3) := by decide +kernel
theorem dX7_kindFor_36 : decode cX7_kindFor 36 = .ok (.aload_n 0, 1) := by decide +kernel
theorem dX7_kindFor_37 : decode cX7_kindFor 37 = .ok (.iload_n 1, 1) := by decide +kernel
theorem dX7_kindFor_38 : decode cX7_kindFor 38 = .ok (.iconst 0, 1) := by decide +kernel
theorem dX7_kindFor_39 : decode cX7_kindFor 39 = .ok (.iload 5, 2) := by decide +kernel
theorem dX7_kindFor_41 : decode cX7_kindFor 41 = .ok (.invokevirtual 100, 3) := by decide +kernel
theorem dX7_kindFor_44 : decode cX7_kindFor 44 = .ok (.iconst 0, 1) := by decide +kernel
theorem dX7_kindFor_45 : decode cX7_kindFor 45 = .ok (.istore 6, 2) := by decide +kernel
theorem dX7_kindFor_47 : decode cX7_kindFor 47 = .ok (.iconst 0, 1) := by decide +kernel
theorem dX7_kindFor_48 : decode cX7_kindFor 48 = .ok (.istore 7, 2) := by decide +kernel
theorem dX7_kindFor_50 : decode cX7_kindFor 50 = .ok (.iload 7, 2) := by decide +kernel
theorem dX7_kindFor_52 : decode cX7_kindFor 52 = .ok (.aload_n 0, 1) := by decide +kernel
theorem dX7_kindFor_53 : decode cX7_kindFor 53 = .ok (.getfield 9, 3) := by decide +kernel
theorem dX7_kindFor_56 : decode cX7_kindFor 56 = .ok (.iconst 2, 1) := by decide +kernel
theorem dX7_kindFor_57 : decode cX7_kindFor 57 = .ok (.iaload, 1) := by decide +kernel
theorem dX7_kindFor_58 : decode cX7_kindFor 58 = .ok (.if_icmp .ge 28, 3) := by decide +kernel
theorem dX7_kindFor_61 : decode cX7_kindFor 61 = .ok (.iload 6, 2) := by decide +kernel
theorem dX7_kindFor_63 : decode cX7_kindFor 63 = .ok (.aload_n 0, 1) := by decide +kernel
theorem dX7_kindFor_64 : decode cX7_kindFor 64 = .ok (.iload 7, 2) := by decide +kernel
theorem dX7_kindFor_66 : decode cX7_kindFor 66 = .ok (.invokevirtual 104, 3) := by decide +kernel
theorem dX7_kindFor_69 : decode cX7_kindFor 69 = .ok (.ifCond .eq 7, 3) := by decide +kernel
theorem dX7_kindFor_72 : decode cX7_kindFor 72 = .ok (.iconst 1, 1) := by decide +kernel
theorem dX7_kindFor_73 : decode cX7_kindFor 73 = .ok (.goto 4, 3) := by decide +kernel
theorem dX7_kindFor_76 : decode cX7_kindFor 76 = .ok (.iconst 0, 1) := by decide +kernel
theorem dX7_kindFor_77 : decode cX7_kindFor 77 = .ok (.iadd, 1) := by decide +kernel
theorem dX7_kindFor_78 : decode cX7_kindFor 78 = .ok (.istore 6, 2) := by decide +kernel
theorem dX7_kindFor_80 : decode cX7_kindFor 80 = .ok (.iinc 7 1, 3) := by decide +kernel
theorem dX7_kindFor_83 : decode cX7_kindFor 83 = .ok (.goto (-33), 3) := by decide +kernel
theorem dX7_kindFor_86 : decode cX7_kindFor 86 = .ok (.iload 6, 2) := by decide +kernel
theorem dX7_kindFor_88 : decode cX7_kindFor 88 = .ok (.iload 4, 2) := by decide +kernel
theorem dX7_kindFor_90 : decode cX7_kindFor 90 = .ok (.if_icmp .le 8, 3) := by decide +kernel
theorem dX7_kindFor_93 : decode cX7_kindFor 93 = .ok (.iload 5, 2) := by decide +kernel
theorem dX7_kindFor_95 : decode cX7_kindFor 95 = .ok (.goto 4, 3) := by decide +kernel
theorem dX7_kindFor_98 : decode cX7_kindFor 98 = .ok (.iload_n 3, 1) := by decide +kernel
theorem dX7_kindFor_99 : decode cX7_kindFor 99 = .ok (.istore_n 3, 1) := by decide +kernel
theorem dX7_kindFor_100 : decode cX7_kindFor 100 = .ok (.iload 6, 2) := by decide +kernel
theorem dX7_kindFor_102 : decode cX7_kindFor 102 = .ok (.iload 4, 2) := by decide +kernel
theorem dX7_kindFor_104 : decode cX7_kindFor 104 = .ok (.if_icmp .le 8, 3) := by decide +kernel
theorem dX7_kindFor_107 : decode cX7_kindFor 107 = .ok (.iload 6, 2) := by decide +kernel
theorem dX7_kindFor_109 : decode cX7_kindFor 109 = .ok (.goto 5, 3) := by decide +kernel
theorem dX7_kindFor_112 : decode cX7_kindFor 112 = .ok (.iload 4, 2) := by decide +kernel
theorem dX7_kindFor_114 : decode cX7_kindFor 114 = .ok (.istore 4, 2) := by decide +kernel
theorem dX7_kindFor_116 : decode cX7_kindFor 116 = .ok (.iinc 5 1, 3) := by decide +kernel
theorem dX7_kindFor_119 : decode cX7_kindFor 119 = .ok (.goto (-90), 3) := by decide +kernel
theorem dX7_kindFor_122 : decode cX7_kindFor 122 = .ok (.aload_n 0, 1) := by decide +kernel
theorem dX7_kindFor_123 : decode cX7_kindFor 123 = .ok (.iload_n 1, 1) := by decide +kernel
theorem dX7_kindFor_124 : decode cX7_kindFor 124 = .ok (.iconst 0, 1) := by decide +kernel
theorem dX7_kindFor_125 : decode cX7_kindFor 125 = .ok (.iload_n 2, 1) := by decide +kernel
theorem dX7_kindFor_126 : decode cX7_kindFor 126 = .ok (.invokevirtual 100, 3) := by decide +kernel
theorem dX7_kindFor_129 : decode cX7_kindFor 129 = .ok (.iload_n 3, 1) := by decide +kernel
theorem dX7_kindFor_130 : decode cX7_kindFor 130 = .ok (.ireturn, 1) := by decide +kernel
theorem dX7_quorum_0 : decode cX7_quorum 0 = .ok (.aload_n 0, 1) := by decide +kernel
theorem dX7_quorum_1 : decode cX7_quorum 1 = .ok (.iload_n 1, 1) := by decide +kernel
theorem dX7_quorum_2 : decode cX7_quorum 2 = .ok (.invokevirtual 126, 3) := by decide +kernel
theorem dX7_quorum_5 : decode cX7_quorum 5 = .ok (.ifCond .ne 9, 3) := by decide +kernel
theorem dX7_quorum_8 : decode cX7_quorum 8 = .ok (.aload_n 0, 1) := by decide +kernel
theorem dX7_quorum_9 : decode cX7_quorum 9 = .ok (.iconst 0, 1) := by decide +kernel
theorem dX7_quorum_10 : decode cX7_quorum 10 = .ok (.invokevirtual 114, 3) := by decide +kernel
theorem dX7_quorum_13 : decode cX7_quorum 13 = .ok (.ireturn, 1) := by decide +kernel
theorem dX7_quorum_14 : decode cX7_quorum 14 = .ok (.aload_n 0, 1) := by decide +kernel
theorem dX7_quorum_15 : decode cX7_quorum 15 = .ok (.iload_n 1, 1) := by decide +kernel
theorem dX7_quorum_16 : decode cX7_quorum 16 = .ok (.iconst 2, 1) := by decide +kernel
theorem dX7_quorum_17 : decode cX7_quorum 17 = .ok (.invokevirtual 80, 3) := by decide +kernel
theorem dX7_quorum_20 : decode cX7_quorum 20 = .ok (.istore_n 2, 1) := by decide +kernel
theorem dX7_quorum_21 : decode cX7_quorum 21 = .ok (.aload_n 0, 1) := by decide +kernel
theorem dX7_quorum_22 : decode cX7_quorum 22 = .ok (.iload_n 1, 1) := by decide +kernel
theorem dX7_quorum_23 : decode cX7_quorum 23 = .ok (.iload_n 2, 1) := by decide +kernel
theorem dX7_quorum_24 : decode cX7_quorum 24 = .ok (.iconst 1, 1) := by decide +kernel
theorem dX7_quorum_25 : decode cX7_quorum 25 = .ok (.invokevirtual 93, 3) := by decide +kernel
theorem dX7_quorum_28 : decode cX7_quorum 28 = .ok (.aload_n 0, 1) := by decide +kernel
theorem dX7_quorum_29 : decode cX7_quorum 29 = .ok (.iload_n 1, 1) := by decide +kernel
theorem dX7_quorum_30 : decode cX7_quorum 30 = .ok (.iload_n 2, 1) := by decide +kernel
theorem dX7_quorum_31 : decode cX7_quorum 31 = .ok (.iconst 0, 1) := by decide +kernel
theorem dX7_quorum_32 : decode cX7_quorum 32 = .ok (.invokevirtual 93, 3) := by decide +kernel
theorem dX7_quorum_35 : decode cX7_quorum 35 = .ok (.if_icmp .le 7, 3) := by decide +kernel
theorem dX7_quorum_38 : decode cX7_quorum 38 = .ok (.iconst 1, 1) := by decide +kernel
theorem dX7_quorum_39 : decode cX7_quorum 39 = .ok (.goto 4, 3) := by decide +kernel
theorem dX7_quorum_42 : decode cX7_quorum 42 = .ok (.iconst 0, 1) := by decide +kernel
theorem dX7_quorum_43 : decode cX7_quorum 43 = .ok (.istore_n 3, 1) := by decide +kernel
theorem dX7_quorum_44 : decode cX7_quorum 44 = .ok (.iload_n 3, 1) := by decide +kernel
theorem dX7_quorum_45 : decode cX7_quorum 45 = .ok (.ifCond .eq 16, 3) := by decide +kernel
theorem dX7_quorum_48 : decode cX7_quorum 48 = .ok (.bipush 99, 2) := by decide +kernel
theorem dX7_quorum_50 : decode cX7_quorum 50 = .ok (.aload_n 0, 1) := by decide +kernel
theorem dX7_quorum_51 : decode cX7_quorum 51 = .ok (.iload_n 1, 1) := by decide +kernel
theorem dX7_quorum_52 : decode cX7_quorum 52 = .ok (.invokevirtual 161, 3) := by decide +kernel
theorem dX7_quorum_55 : decode cX7_quorum 55 = .ok (.invokestatic 86, 3) := by decide +kernel
theorem dX7_quorum_58 : decode cX7_quorum 58 = .ok (.goto 8, 3) := by decide +kernel
theorem dX7_quorum_61 : decode cX7_quorum 61 = .ok (.aload_n 0, 1) := by decide +kernel
theorem dX7_quorum_62 : decode cX7_quorum 62 = .ok (.iconst 3, 1) := by decide +kernel
theorem dX7_quorum_63 : decode cX7_quorum 63 = .ok (.invokevirtual 114, 3) := by decide +kernel
theorem dX7_quorum_66 : decode cX7_quorum 66 = .ok (.ireturn, 1) := by decide +kernel
theorem dX7_isSet_0 : decode cX7_isSet 0 = .ok (.iload_n 1, 1) := by decide +kernel
theorem dX7_isSet_1 : decode cX7_isSet 1 = .ok (.iconst 0, 1) := by decide +kernel
theorem dX7_isSet_2 : decode cX7_isSet 2 = .ok (.iconst 1, 1) := by decide +kernel
theorem dX7_isSet_3 : decode cX7_isSet 3 = .ok (.aload_n 0, 1) := by decide +kernel
theorem dX7_isSet_4 : decode cX7_isSet 4 = .ok (.getfield 9, 3) := by decide +kernel
theorem dX7_isSet_7 : decode cX7_isSet 7 = .ok (.iconst 2, 1) := by decide +kernel
theorem dX7_isSet_8 : decode cX7_isSet 8 = .ok (.iaload, 1) := by decide +kernel
theorem dX7_isSet_9 : decode cX7_isSet 9 = .ok (.ishl, 1) := by decide +kernel
theorem dX7_isSet_10 : decode cX7_isSet 10 = .ok (.iconst 1, 1) := by decide +kernel
theorem dX7_isSet_11 : decode cX7_isSet 11 = .ok (.isub, 1) := by decide +kernel
theorem dX7_isSet_12 : decode cX7_isSet 12 = .ok (.invokestatic 60, 3) := by decide +kernel
theorem dX7_isSet_15 : decode cX7_isSet 15 = .ok (.ifCond .eq 15, 3) := by decide +kernel
theorem dX7_isSet_18 : decode cX7_isSet 18 = .ok (.iload_n 1, 1) := by decide +kernel
theorem dX7_isSet_19 : decode cX7_isSet 19 = .ok (.invokestatic 158, 3) := by decide +kernel
theorem dX7_isSet_22 : decode cX7_isSet 22 = .ok (.iconst 5, 1) := by decide +kernel
theorem dX7_isSet_23 : decode cX7_isSet 23 = .ok (.if_icmp .gt 7, 3) := by decide +kernel
theorem dX7_isSet_26 : decode cX7_isSet 26 = .ok (.iconst 1, 1) := by decide +kernel
theorem dX7_isSet_27 : decode cX7_isSet 27 = .ok (.goto 4, 3) := by decide +kernel
theorem dX7_isSet_30 : decode cX7_isSet 30 = .ok (.iconst 0, 1) := by decide +kernel
theorem dX7_isSet_31 : decode cX7_isSet 31 = .ok (.ireturn, 1) := by decide +kernel
theorem dX7_laysOrder_0 : decode cX7_laysOrder 0 = .ok (.iconst 0, 1) := by decide +kernel
theorem dX7_laysOrder_1 : decode cX7_laysOrder 1 = .ok (.istore_n 2, 1) := by decide +kernel
theorem dX7_laysOrder_2 : decode cX7_laysOrder 2 = .ok (.iconst 0, 1) := by decide +kernel
theorem dX7_laysOrder_3 : decode cX7_laysOrder 3 = .ok (.istore_n 3, 1) := by decide +kernel
theorem dX7_laysOrder_4 : decode cX7_laysOrder 4 = .ok (.iload_n 3, 1) := by decide +kernel
theorem dX7_laysOrder_5 : decode cX7_laysOrder 5 = .ok (.aload_n 0, 1) := by decide +kernel
theorem dX7_laysOrder_6 : decode cX7_laysOrder 6 = .ok (.getfield 9, 3) := by decide +kernel
theorem dX7_laysOrder_9 : decode cX7_laysOrder 9 = .ok (.iconst 2, 1) := by decide +kernel
theorem dX7_laysOrder_10 : decode cX7_laysOrder 10 = .ok (.iaload, 1) := by decide +kernel
theorem dX7_laysOrder_11 : decode cX7_laysOrder 11 = .ok (.if_icmp .ge 27, 3) := by decide +kernel
theorem dX7_laysOrder_14 : decode cX7_laysOrder 14 = .ok (.iload_n 1, 1) := by decide +kernel
theorem dX7_laysOrder_15 : decode cX7_laysOrder 15 = .ok (.iload_n 3, 1) := by decide +kernel
theorem dX7_laysOrder_16 : decode cX7_laysOrder 16 = .ok (.invokestatic 76, 3) := by decide +kernel
theorem dX7_laysOrder_19 : decode cX7_laysOrder 19 = .ok (.ifCond .eq 13, 3) := by decide +kernel
theorem dX7_laysOrder_22 : decode cX7_laysOrder 22 = .ok (.aload_n 0, 1) := by decide +kernel
theorem dX7_laysOrder_23 : decode cX7_laysOrder 23 = .ok (.getfield 25, 3) := by decide +kernel
theorem dX7_laysOrder_26 : decode cX7_laysOrder 26 = .ok (.iload_n 2, 1) := by decide +kernel
theorem dX7_laysOrder_27 : decode cX7_laysOrder 27 = .ok (.iload_n 3, 1) := by decide +kernel
theorem dX7_laysOrder_28 : decode cX7_laysOrder 28 = .ok (.iastore, 1) := by decide +kernel
theorem dX7_laysOrder_29 : decode cX7_laysOrder 29 = .ok (.iinc 2 1, 3) := by decide +kernel
theorem dX7_laysOrder_32 : decode cX7_laysOrder 32 = .ok (.iinc 3 1, 3) := by decide +kernel
theorem dX7_laysOrder_35 : decode cX7_laysOrder 35 = .ok (.goto (-31), 3) := by decide +kernel
theorem dX7_laysOrder_38 : decode cX7_laysOrder 38 = .ok (.iload_n 2, 1) := by decide +kernel
theorem dX7_laysOrder_39 : decode cX7_laysOrder 39 = .ok (.ireturn, 1) := by decide +kernel
theorem dX7_nextOrder_0 : decode cX7_nextOrder 0 = .ok (.iload_n 1, 1) := by decide +kernel
theorem dX7_nextOrder_1 : decode cX7_nextOrder 1 = .ok (.iconst 2, 1) := by decide +kernel
theorem dX7_nextOrder_2 : decode cX7_nextOrder 2 = .ok (.isub, 1) := by decide +kernel
theorem dX7_nextOrder_3 : decode cX7_nextOrder 3 = .ok (.istore_n 2, 1) := by decide +kernel
theorem dX7_nextOrder_4 : decode cX7_nextOrder 4 = .ok (.iload_n 2, 1) := by decide +kernel
theorem dX7_nextOrder_5 : decode cX7_nextOrder 5 = .ok (.ifCond .lt 26, 3) := by decide +kernel
theorem dX7_nextOrder_8 : decode cX7_nextOrder 8 = .ok (.aload_n 0, 1) := by decide +kernel
theorem dX7_nextOrder_9 : decode cX7_nextOrder 9 = .ok (.getfield 25, 3) := by decide +kernel
theorem dX7_nextOrder_12 : decode cX7_nextOrder 12 = .ok (.iload_n 2, 1) := by decide +kernel
theorem dX7_nextOrder_13 : decode cX7_nextOrder 13 = .ok (.iaload, 1) := by decide +kernel
theorem dX7_nextOrder_14 : decode cX7_nextOrder 14 = .ok (.aload_n 0, 1) := by decide +kernel
theorem dX7_nextOrder_15 : decode cX7_nextOrder 15 = .ok (.getfield 25, 3) := by decide +kernel
theorem dX7_nextOrder_18 : decode cX7_nextOrder 18 = .ok (.iload_n 2, 1) := by decide +kernel
theorem dX7_nextOrder_19 : decode cX7_nextOrder 19 = .ok (.iconst 1, 1) := by decide +kernel
theorem dX7_nextOrder_20 : decode cX7_nextOrder 20 = .ok (.iadd, 1) := by decide +kernel
theorem dX7_nextOrder_21 : decode cX7_nextOrder 21 = .ok (.iaload, 1) := by decide +kernel
theorem dX7_nextOrder_22 : decode cX7_nextOrder 22 = .ok (.if_icmp .le 9, 3) := by decide +kernel
theorem dX7_nextOrder_25 : decode cX7_nextOrder 25 = .ok (.iinc 2 (-1), 3) := by decide +kernel
theorem dX7_nextOrder_28 : decode cX7_nextOrder 28 = .ok (.goto (-24), 3) := by decide +kernel
theorem dX7_nextOrder_31 : decode cX7_nextOrder 31 = .ok (.iload_n 2, 1) := by decide +kernel
theorem dX7_nextOrder_32 : decode cX7_nextOrder 32 = .ok (.ifCond .ge 5, 3) := by decide +kernel
theorem dX7_nextOrder_35 : decode cX7_nextOrder 35 = .ok (.iconst 0, 1) := by decide +kernel
theorem dX7_nextOrder_36 : decode cX7_nextOrder 36 = .ok (.ireturn, 1) := by decide +kernel
theorem dX7_nextOrder_37 : decode cX7_nextOrder 37 = .ok (.iload_n 1, 1) := by decide +kernel
theorem dX7_nextOrder_38 : decode cX7_nextOrder 38 = .ok (.iconst 1, 1) := by decide +kernel
theorem dX7_nextOrder_39 : decode cX7_nextOrder 39 = .ok (.isub, 1) := by decide +kernel
theorem dX7_nextOrder_40 : decode cX7_nextOrder 40 = .ok (.istore_n 3, 1) := by decide +kernel
theorem dX7_nextOrder_41 : decode cX7_nextOrder 41 = .ok (.aload_n 0, 1) := by decide +kernel
theorem dX7_nextOrder_42 : decode cX7_nextOrder 42 = .ok (.getfield 25, 3) := by decide +kernel
theorem dX7_nextOrder_45 : decode cX7_nextOrder 45 = .ok (.iload_n 3, 1) := by decide +kernel
theorem dX7_nextOrder_46 : decode cX7_nextOrder 46 = .ok (.iaload, 1) := by decide +kernel
theorem dX7_nextOrder_47 : decode cX7_nextOrder 47 = .ok (.aload_n 0, 1) := by decide +kernel
theorem dX7_nextOrder_48 : decode cX7_nextOrder 48 = .ok (.getfield 25, 3) := by decide +kernel
theorem dX7_nextOrder_51 : decode cX7_nextOrder 51 = .ok (.iload_n 2, 1) := by decide +kernel
theorem dX7_nextOrder_52 : decode cX7_nextOrder 52 = .ok (.iaload, 1) := by decide +kernel
theorem dX7_nextOrder_53 : decode cX7_nextOrder 53 = .ok (.if_icmp .ge 9, 3) := by decide +kernel
theorem dX7_nextOrder_56 : decode cX7_nextOrder 56 = .ok (.iinc 3 (-1), 3) := by decide +kernel
theorem dX7_nextOrder_59 : decode cX7_nextOrder 59 = .ok (.goto (-18), 3) := by decide +kernel
theorem dX7_nextOrder_62 : decode cX7_nextOrder 62 = .ok (.aload_n 0, 1) := by decide +kernel
theorem dX7_nextOrder_63 : decode cX7_nextOrder 63 = .ok (.iload_n 2, 1) := by decide +kernel
theorem dX7_nextOrder_64 : decode cX7_nextOrder 64 = .ok (.iload_n 3, 1) := by decide +kernel
theorem dX7_nextOrder_65 : decode cX7_nextOrder 65 = .ok (.invokevirtual 164, 3) := by decide +kernel
theorem dX7_nextOrder_68 : decode cX7_nextOrder 68 = .ok (.iload_n 2, 1) := by decide +kernel
theorem dX7_nextOrder_69 : decode cX7_nextOrder 69 = .ok (.iconst 1, 1) := by decide +kernel
theorem dX7_nextOrder_70 : decode cX7_nextOrder 70 = .ok (.iadd, 1) := by decide +kernel
theorem dX7_nextOrder_71 : decode cX7_nextOrder 71 = .ok (.istore 4, 2) := by decide +kernel
theorem dX7_nextOrder_73 : decode cX7_nextOrder 73 = .ok (.iload_n 1, 1) := by decide +kernel
theorem dX7_nextOrder_74 : decode cX7_nextOrder 74 = .ok (.iconst 1, 1) := by decide +kernel
theorem dX7_nextOrder_75 : decode cX7_nextOrder 75 = .ok (.isub, 1) := by decide +kernel
theorem dX7_nextOrder_76 : decode cX7_nextOrder 76 = .ok (.istore 5, 2) := by decide +kernel
theorem dX7_nextOrder_78 : decode cX7_nextOrder 78 = .ok (.iload 4, 2) := by decide +kernel
theorem dX7_nextOrder_80 : decode cX7_nextOrder 80 = .ok (.iload 5, 2) := by decide +kernel
theorem dX7_nextOrder_82 : decode cX7_nextOrder 82 = .ok (.if_icmp .ge 20, 3) := by decide +kernel
theorem dX7_nextOrder_85 : decode cX7_nextOrder 85 = .ok (.aload_n 0, 1) := by decide +kernel
theorem dX7_nextOrder_86 : decode cX7_nextOrder 86 = .ok (.iload 4, 2) := by decide +kernel
theorem dX7_nextOrder_88 : decode cX7_nextOrder 88 = .ok (.iload 5, 2) := by decide +kernel
theorem dX7_nextOrder_90 : decode cX7_nextOrder 90 = .ok (.invokevirtual 164, 3) := by decide +kernel
theorem dX7_nextOrder_93 : decode cX7_nextOrder 93 = .ok (.iinc 4 1, 3) := by decide +kernel
theorem dX7_nextOrder_96 : decode cX7_nextOrder 96 = .ok (.iinc 5 (-1), 3) := by decide +kernel
theorem dX7_nextOrder_99 : decode cX7_nextOrder 99 = .ok (.goto (-21), 3) := by decide +kernel
theorem dX7_nextOrder_102 : decode cX7_nextOrder 102 = .ok (.iconst 1, 1) := by decide +kernel
theorem dX7_nextOrder_103 : decode cX7_nextOrder 103 = .ok (.ireturn, 1) := by decide +kernel
theorem dX7_swaps_0 : decode cX7_swaps 0 = .ok (.aload_n 0, 1) := by decide +kernel
theorem dX7_swaps_1 : decode cX7_swaps 1 = .ok (.getfield 25, 3) := by decide +kernel
theorem dX7_swaps_4 : decode cX7_swaps 4 = .ok (.iload_n 1, 1) := by decide +kernel
theorem dX7_swaps_5 : decode cX7_swaps 5 = .ok (.iaload, 1) := by decide +kernel
theorem dX7_swaps_6 : decode cX7_swaps 6 = .ok (.istore_n 3, 1) := by decide +kernel
theorem dX7_swaps_7 : decode cX7_swaps 7 = .ok (.aload_n 0, 1) := by decide +kernel
theorem dX7_swaps_8 : decode cX7_swaps 8 = .ok (.getfield 25, 3) := by decide +kernel
theorem dX7_swaps_11 : decode cX7_swaps 11 = .ok (.iload_n 1, 1) := by decide +kernel
theorem dX7_swaps_12 : decode cX7_swaps 12 = .ok (.aload_n 0, 1) := by decide +kernel
theorem dX7_swaps_13 : decode cX7_swaps 13 = .ok (.getfield 25, 3) := by decide +kernel
theorem dX7_swaps_16 : decode cX7_swaps 16 = .ok (.iload_n 2, 1) := by decide +kernel
theorem dX7_swaps_17 : decode cX7_swaps 17 = .ok (.iaload, 1) := by decide +kernel
theorem dX7_swaps_18 : decode cX7_swaps 18 = .ok (.iastore, 1) := by decide +kernel
theorem dX7_swaps_19 : decode cX7_swaps 19 = .ok (.aload_n 0, 1) := by decide +kernel
theorem dX7_swaps_20 : decode cX7_swaps 20 = .ok (.getfield 25, 3) := by decide +kernel
theorem dX7_swaps_23 : decode cX7_swaps 23 = .ok (.iload_n 2, 1) := by decide +kernel
theorem dX7_swaps_24 : decode cX7_swaps 24 = .ok (.iload_n 3, 1) := by decide +kernel
theorem dX7_swaps_25 : decode cX7_swaps 25 = .ok (.iastore, 1) := by decide +kernel
theorem dX7_swaps_26 : decode cX7_swaps 26 = .ok (.return_, 1) := by decide +kernel
theorem dX7_findsOrder_0 : decode cX7_findsOrder 0 = .ok (.aload_n 0, 1) := by decide +kernel
theorem dX7_findsOrder_1 : decode cX7_findsOrder 1 = .ok (.invokevirtual 152, 3) := by decide +kernel
theorem dX7_findsOrder_4 : decode cX7_findsOrder 4 = .ok (.aload_n 0, 1) := by decide +kernel
theorem dX7_findsOrder_5 : decode cX7_findsOrder 5 = .ok (.iconst (-1), 1) := by decide +kernel
theorem dX7_findsOrder_6 : decode cX7_findsOrder 6 = .ok (.putfield 168, 3) := by decide +kernel
theorem dX7_findsOrder_9 : decode cX7_findsOrder 9 = .ok (.aload_n 0, 1) := by decide +kernel
theorem dX7_findsOrder_10 : decode cX7_findsOrder 10 = .ok (.iconst 0, 1) := by decide +kernel
theorem dX7_findsOrder_11 : decode cX7_findsOrder 11 = .ok (.putfield 172, 3) := by decide +kernel
theorem dX7_findsOrder_14 : decode cX7_findsOrder 14 = .ok (.aload_n 0, 1) := by decide +kernel
theorem dX7_findsOrder_15 : decode cX7_findsOrder 15 = .ok (.iload_n 1, 1) := by decide +kernel
theorem dX7_findsOrder_16 : decode cX7_findsOrder 16 = .ok (.invokevirtual 175, 3) := by decide +kernel
theorem dX7_findsOrder_19 : decode cX7_findsOrder 19 = .ok (.istore_n 2, 1) := by decide +kernel
theorem dX7_findsOrder_20 : decode cX7_findsOrder 20 = .ok (.iconst 1, 1) := by decide +kernel
theorem dX7_findsOrder_21 : decode cX7_findsOrder 21 = .ok (.istore_n 3, 1) := by decide +kernel
theorem dX7_findsOrder_22 : decode cX7_findsOrder 22 = .ok (.iload_n 3, 1) := by decide +kernel
theorem dX7_findsOrder_23 : decode cX7_findsOrder 23 = .ok (.ifCond .eq 138, 3) := by decide +kernel
theorem dX7_findsOrder_26 : decode cX7_findsOrder 26 = .ok (.iconst 0, 1) := by decide +kernel
theorem dX7_findsOrder_27 : decode cX7_findsOrder 27 = .ok (.istore 4, 2) := by decide +kernel
theorem dX7_findsOrder_29 : decode cX7_findsOrder 29 = .ok (.iconst 0, 1) := by decide +kernel
theorem dX7_findsOrder_30 : decode cX7_findsOrder 30 = .ok (.istore 5, 2) := by decide +kernel
theorem dX7_findsOrder_32 : decode cX7_findsOrder 32 = .ok (.iload 5, 2) := by decide +kernel
theorem dX7_findsOrder_34 : decode cX7_findsOrder 34 = .ok (.iload_n 2, 1) := by decide +kernel
theorem dX7_findsOrder_35 : decode cX7_findsOrder 35 = .ok (.if_icmp .ge 33, 3) := by decide +kernel
theorem dX7_findsOrder_38 : decode cX7_findsOrder 38 = .ok (.iload 4, 2) := by decide +kernel
theorem dX7_findsOrder_40 : decode cX7_findsOrder 40 = .ok (.aload_n 0, 1) := by decide +kernel
theorem dX7_findsOrder_41 : decode cX7_findsOrder 41 = .ok (.aload_n 0, 1) := by decide +kernel
theorem dX7_findsOrder_42 : decode cX7_findsOrder 42 = .ok (.getfield 25, 3) := by decide +kernel
theorem dX7_findsOrder_45 : decode cX7_findsOrder 45 = .ok (.iload 5, 2) := by decide +kernel
theorem dX7_findsOrder_47 : decode cX7_findsOrder 47 = .ok (.iaload, 1) := by decide +kernel
theorem dX7_findsOrder_48 : decode cX7_findsOrder 48 = .ok (.invokevirtual 136, 3) := by decide +kernel
theorem dX7_findsOrder_51 : decode cX7_findsOrder 51 = .ok (.ifCond .eq 7, 3) := by decide +kernel
theorem dX7_findsOrder_54 : decode cX7_findsOrder 54 = .ok (.iconst 1, 1) := by decide +kernel
theorem dX7_findsOrder_55 : decode cX7_findsOrder 55 = .ok (.goto 4, 3) := by decide +kernel
theorem dX7_findsOrder_58 : decode cX7_findsOrder 58 = .ok (.iconst 0, 1) := by decide +kernel
theorem dX7_findsOrder_59 : decode cX7_findsOrder 59 = .ok (.iadd, 1) := by decide +kernel
theorem dX7_findsOrder_60 : decode cX7_findsOrder 60 = .ok (.istore 4, 2) := by decide +kernel
theorem dX7_findsOrder_62 : decode cX7_findsOrder 62 = .ok (.iinc 5 1, 3) := by decide +kernel
theorem dX7_findsOrder_65 : decode cX7_findsOrder 65 = .ok (.goto (-33), 3) := by decide +kernel
theorem dX7_findsOrder_68 : decode cX7_findsOrder 68 = .ok (.iload 4, 2) := by decide +kernel
theorem dX7_findsOrder_70 : decode cX7_findsOrder 70 = .ok (.aload_n 0, 1) := by decide +kernel
theorem dX7_findsOrder_71 : decode cX7_findsOrder 71 = .ok (.getfield 168, 3) := by decide +kernel
theorem dX7_findsOrder_74 : decode cX7_findsOrder 74 = .ok (.if_icmp .le 51, 3) := by decide +kernel
theorem dX7_findsOrder_77 : decode cX7_findsOrder 77 = .ok (.aload_n 0, 1) := by decide +kernel
theorem dX7_findsOrder_78 : decode cX7_findsOrder 78 = .ok (.iload 4, 2) := by decide +kernel
theorem dX7_findsOrder_80 : decode cX7_findsOrder 80 = .ok (.putfield 168, 3) := by decide +kernel
theorem dX7_findsOrder_83 : decode cX7_findsOrder 83 = .ok (.aload_n 0, 1) := by decide +kernel
theorem dX7_findsOrder_84 : decode cX7_findsOrder 84 = .ok (.iconst 0, 1) := by decide +kernel
theorem dX7_findsOrder_85 : decode cX7_findsOrder 85 = .ok (.putfield 172, 3) := by decide +kernel
theorem dX7_findsOrder_88 : decode cX7_findsOrder 88 = .ok (.aload_n 0, 1) := by decide +kernel
theorem dX7_findsOrder_89 : decode cX7_findsOrder 89 = .ok (.aload_n 0, 1) := by decide +kernel
theorem dX7_findsOrder_90 : decode cX7_findsOrder 90 = .ok (.invokevirtual 143, 3) := by decide +kernel
theorem dX7_findsOrder_93 : decode cX7_findsOrder 93 = .ok (.putfield 178, 3) := by decide +kernel
theorem dX7_findsOrder_96 : decode cX7_findsOrder 96 = .ok (.iconst 0, 1) := by decide +kernel
theorem dX7_findsOrder_97 : decode cX7_findsOrder 97 = .ok (.istore 5, 2) := by decide +kernel
theorem dX7_findsOrder_99 : decode cX7_findsOrder 99 = .ok (.iload 5, 2) := by decide +kernel
theorem dX7_findsOrder_101 : decode cX7_findsOrder 101 = .ok (.iload_n 2, 1) := by decide +kernel
theorem dX7_findsOrder_102 : decode cX7_findsOrder 102 = .ok (.if_icmp .ge 23, 3) := by decide +kernel
theorem dX7_findsOrder_105 : decode cX7_findsOrder 105 = .ok (.aload_n 0, 1) := by decide +kernel
theorem dX7_findsOrder_106 : decode cX7_findsOrder 106 = .ok (.getfield 28, 3) := by decide +kernel
theorem dX7_findsOrder_109 : decode cX7_findsOrder 109 = .ok (.iload 5, 2) := by decide +kernel
theorem dX7_findsOrder_111 : decode cX7_findsOrder 111 = .ok (.aload_n 0, 1) := by decide +kernel
theorem dX7_findsOrder_112 : decode cX7_findsOrder 112 = .ok (.getfield 25, 3) := by decide +kernel
theorem dX7_findsOrder_115 : decode cX7_findsOrder 115 = .ok (.iload 5, 2) := by decide +kernel
theorem dX7_findsOrder_117 : decode cX7_findsOrder 117 = .ok (.iaload, 1) := by decide +kernel
theorem dX7_findsOrder_118 : decode cX7_findsOrder 118 = .ok (.iastore, 1) := by decide +kernel
theorem dX7_findsOrder_119 : decode cX7_findsOrder 119 = .ok (.iinc 5 1, 3) := by decide +kernel
theorem dX7_findsOrder_122 : decode cX7_findsOrder 122 = .ok (.goto (-23), 3) := by decide +kernel
theorem dX7_findsOrder_125 : decode cX7_findsOrder 125 = .ok (.aload_n 0, 1) := by decide +kernel
theorem dX7_findsOrder_126 : decode cX7_findsOrder 126 = .ok (.dup, 1) := by decide +kernel
theorem dX7_findsOrder_127 : decode cX7_findsOrder 127 = .ok (.getfield 172, 3) := by decide +kernel
theorem dX7_findsOrder_130 : decode cX7_findsOrder 130 = .ok (.iload 4, 2) := by decide +kernel
theorem dX7_findsOrder_132 : decode cX7_findsOrder 132 = .ok (.aload_n 0, 1) := by decide +kernel
theorem dX7_findsOrder_133 : decode cX7_findsOrder 133 = .ok (.getfield 168, 3) := by decide +kernel
theorem dX7_findsOrder_136 : decode cX7_findsOrder 136 = .ok (.if_icmp .ne 7, 3) := by decide +kernel
theorem dX7_findsOrder_139 : decode cX7_findsOrder 139 = .ok (.iconst 1, 1) := by decide +kernel
theorem dX7_findsOrder_140 : decode cX7_findsOrder 140 = .ok (.goto 4, 3) := by decide +kernel
theorem dX7_findsOrder_143 : decode cX7_findsOrder 143 = .ok (.iconst 0, 1) := by decide +kernel
theorem dX7_findsOrder_144 : decode cX7_findsOrder 144 = .ok (.iadd, 1) := by decide +kernel
theorem dX7_findsOrder_145 : decode cX7_findsOrder 145 = .ok (.putfield 172, 3) := by decide +kernel
theorem dX7_findsOrder_148 : decode cX7_findsOrder 148 = .ok (.aload_n 0, 1) := by decide +kernel
theorem dX7_findsOrder_149 : decode cX7_findsOrder 149 = .ok (.invokevirtual 155, 3) := by decide +kernel
theorem dX7_findsOrder_152 : decode cX7_findsOrder 152 = .ok (.aload_n 0, 1) := by decide +kernel
theorem dX7_findsOrder_153 : decode cX7_findsOrder 153 = .ok (.iload_n 2, 1) := by decide +kernel
theorem dX7_findsOrder_154 : decode cX7_findsOrder 154 = .ok (.invokevirtual 181, 3) := by decide +kernel
theorem dX7_findsOrder_157 : decode cX7_findsOrder 157 = .ok (.istore_n 3, 1) := by decide +kernel
theorem dX7_findsOrder_158 : decode cX7_findsOrder 158 = .ok (.goto (-136), 3) := by decide +kernel
theorem dX7_findsOrder_161 : decode cX7_findsOrder 161 = .ok (.return_, 1) := by decide +kernel
theorem dX7_agenda_0 : decode cX7_agenda 0 = .ok (.aload_n 0, 1) := by decide +kernel
theorem dX7_agenda_1 : decode cX7_agenda 1 = .ok (.iload_n 1, 1) := by decide +kernel
theorem dX7_agenda_2 : decode cX7_agenda 2 = .ok (.invokevirtual 184, 3) := by decide +kernel
theorem dX7_agenda_5 : decode cX7_agenda 5 = .ok (.ifCond .ne 9, 3) := by decide +kernel
theorem dX7_agenda_8 : decode cX7_agenda 8 = .ok (.aload_n 0, 1) := by decide +kernel
theorem dX7_agenda_9 : decode cX7_agenda 9 = .ok (.iconst 0, 1) := by decide +kernel
theorem dX7_agenda_10 : decode cX7_agenda 10 = .ok (.invokevirtual 114, 3) := by decide +kernel
theorem dX7_agenda_13 : decode cX7_agenda 13 = .ok (.ireturn, 1) := by decide +kernel
theorem dX7_agenda_14 : decode cX7_agenda 14 = .ok (.aload_n 0, 1) := by decide +kernel
theorem dX7_agenda_15 : decode cX7_agenda 15 = .ok (.iload_n 1, 1) := by decide +kernel
theorem dX7_agenda_16 : decode cX7_agenda 16 = .ok (.invokevirtual 187, 3) := by decide +kernel
theorem dX7_agenda_19 : decode cX7_agenda 19 = .ok (.aload_n 0, 1) := by decide +kernel
theorem dX7_agenda_20 : decode cX7_agenda 20 = .ok (.getfield 168, 3) := by decide +kernel
theorem dX7_agenda_23 : decode cX7_agenda 23 = .ok (.ireturn, 1) := by decide +kernel
theorem dX7_ith_0 : decode cX7_ith 0 = .ok (.aload_n 0, 1) := by decide +kernel
theorem dX7_ith_1 : decode cX7_ith 1 = .ok (.iload_n 1, 1) := by decide +kernel
theorem dX7_ith_2 : decode cX7_ith 2 = .ok (.invokevirtual 184, 3) := by decide +kernel
theorem dX7_ith_5 : decode cX7_ith 5 = .ok (.ifCond .eq 17, 3) := by decide +kernel
theorem dX7_ith_8 : decode cX7_ith 8 = .ok (.iload_n 2, 1) := by decide +kernel
theorem dX7_ith_9 : decode cX7_ith 9 = .ok (.iconst 0, 1) := by decide +kernel
theorem dX7_ith_10 : decode cX7_ith 10 = .ok (.iload_n 1, 1) := by decide +kernel
theorem dX7_ith_11 : decode cX7_ith 11 = .ok (.invokestatic 158, 3) := by decide +kernel
theorem dX7_ith_14 : decode cX7_ith 14 = .ok (.iconst 1, 1) := by decide +kernel
theorem dX7_ith_15 : decode cX7_ith 15 = .ok (.isub, 1) := by decide +kernel
theorem dX7_ith_16 : decode cX7_ith 16 = .ok (.invokestatic 60, 3) := by decide +kernel
theorem dX7_ith_19 : decode cX7_ith 19 = .ok (.ifCond .ne 9, 3) := by decide +kernel
theorem dX7_ith_22 : decode cX7_ith 22 = .ok (.aload_n 0, 1) := by decide +kernel
theorem dX7_ith_23 : decode cX7_ith 23 = .ok (.iconst 0, 1) := by decide +kernel
theorem dX7_ith_24 : decode cX7_ith 24 = .ok (.invokevirtual 114, 3) := by decide +kernel
theorem dX7_ith_27 : decode cX7_ith 27 = .ok (.ireturn, 1) := by decide +kernel
theorem dX7_ith_28 : decode cX7_ith 28 = .ok (.aload_n 0, 1) := by decide +kernel
theorem dX7_ith_29 : decode cX7_ith 29 = .ok (.iload_n 1, 1) := by decide +kernel
theorem dX7_ith_30 : decode cX7_ith 30 = .ok (.invokevirtual 187, 3) := by decide +kernel
theorem dX7_ith_33 : decode cX7_ith 33 = .ok (.aload_n 0, 1) := by decide +kernel
theorem dX7_ith_34 : decode cX7_ith 34 = .ok (.getfield 28, 3) := by decide +kernel
theorem dX7_ith_37 : decode cX7_ith 37 = .ok (.iload_n 2, 1) := by decide +kernel
theorem dX7_ith_38 : decode cX7_ith 38 = .ok (.iaload, 1) := by decide +kernel
theorem dX7_ith_39 : decode cX7_ith 39 = .ok (.ireturn, 1) := by decide +kernel
theorem dX7_ways_0 : decode cX7_ways 0 = .ok (.aload_n 0, 1) := by decide +kernel
theorem dX7_ways_1 : decode cX7_ways 1 = .ok (.iload_n 1, 1) := by decide +kernel
theorem dX7_ways_2 : decode cX7_ways 2 = .ok (.invokevirtual 184, 3) := by decide +kernel
theorem dX7_ways_5 : decode cX7_ways 5 = .ok (.ifCond .ne 9, 3) := by decide +kernel
theorem dX7_ways_8 : decode cX7_ways 8 = .ok (.aload_n 0, 1) := by decide +kernel
theorem dX7_ways_9 : decode cX7_ways 9 = .ok (.iconst 0, 1) := by decide +kernel
theorem dX7_ways_10 : decode cX7_ways 10 = .ok (.invokevirtual 114, 3) := by decide +kernel
theorem dX7_ways_13 : decode cX7_ways 13 = .ok (.ireturn, 1) := by decide +kernel
theorem dX7_ways_14 : decode cX7_ways 14 = .ok (.aload_n 0, 1) := by decide +kernel
theorem dX7_ways_15 : decode cX7_ways 15 = .ok (.iload_n 1, 1) := by decide +kernel
theorem dX7_ways_16 : decode cX7_ways 16 = .ok (.invokevirtual 187, 3) := by decide +kernel
theorem dX7_ways_19 : decode cX7_ways 19 = .ok (.aload_n 0, 1) := by decide +kernel
theorem dX7_ways_20 : decode cX7_ways 20 = .ok (.getfield 172, 3) := by decide +kernel
theorem dX7_ways_23 : decode cX7_ways 23 = .ok (.ireturn, 1) := by decide +kernel
theorem dX7_left_0 : decode cX7_left 0 = .ok (.aload_n 0, 1) := by decide +kernel
theorem dX7_left_1 : decode cX7_left 1 = .ok (.iload_n 1, 1) := by decide +kernel
theorem dX7_left_2 : decode cX7_left 2 = .ok (.invokevirtual 184, 3) := by decide +kernel
theorem dX7_left_5 : decode cX7_left 5 = .ok (.ifCond .ne 9, 3) := by decide +kernel
theorem dX7_left_8 : decode cX7_left 8 = .ok (.aload_n 0, 1) := by decide +kernel
theorem dX7_left_9 : decode cX7_left 9 = .ok (.iconst 0, 1) := by decide +kernel
theorem dX7_left_10 : decode cX7_left 10 = .ok (.invokevirtual 114, 3) := by decide +kernel
theorem dX7_left_13 : decode cX7_left 13 = .ok (.ireturn, 1) := by decide +kernel
theorem dX7_left_14 : decode cX7_left 14 = .ok (.aload_n 0, 1) := by decide +kernel
theorem dX7_left_15 : decode cX7_left 15 = .ok (.iload_n 1, 1) := by decide +kernel
theorem dX7_left_16 : decode cX7_left 16 = .ok (.invokevirtual 187, 3) := by decide +kernel
theorem dX7_left_19 : decode cX7_left 19 = .ok (.aload_n 0, 1) := by decide +kernel
theorem dX7_left_20 : decode cX7_left 20 = .ok (.getfield 178, 3) := by decide +kernel
theorem dX7_left_23 : decode cX7_left 23 = .ok (.ireturn, 1) := by decide +kernel
theorem dX7_power1_0 : decode cX7_power1 0 = .ok (.lconst 1, 1) := by decide +kernel
theorem dX7_power1_1 : decode cX7_power1 1 = .ok (.lstore_n 3, 1) := by decide +kernel
theorem dX7_power1_2 : decode cX7_power1 2 = .ok (.iconst 0, 1) := by decide +kernel
theorem dX7_power1_3 : decode cX7_power1 3 = .ok (.istore 5, 2) := by decide +kernel
theorem dX7_power1_5 : decode cX7_power1 5 = .ok (.iload 5, 2) := by decide +kernel
theorem dX7_power1_7 : decode cX7_power1 7 = .ok (.iload_n 2, 1) := by decide +kernel
theorem dX7_power1_8 : decode cX7_power1 8 = .ok (.if_icmp .ge 13, 3) := by decide +kernel
theorem dX7_power1_11 : decode cX7_power1 11 = .ok (.lload_n 3, 1) := by decide +kernel
theorem dX7_power1_12 : decode cX7_power1 12 = .ok (.lload_n 0, 1) := by decide +kernel
theorem dX7_power1_13 : decode cX7_power1 13 = .ok (.lmul, 1) := by decide +kernel
theorem dX7_power1_14 : decode cX7_power1 14 = .ok (.lstore_n 3, 1) := by decide +kernel
theorem dX7_power1_15 : decode cX7_power1 15 = .ok (.iinc 5 1, 3) := by decide +kernel
theorem dX7_power1_18 : decode cX7_power1 18 = .ok (.goto (-13), 3) := by decide +kernel
theorem dX7_power1_21 : decode cX7_power1 21 = .ok (.lload_n 3, 1) := by decide +kernel
theorem dX7_power1_22 : decode cX7_power1 22 = .ok (.lreturn, 1) := by decide +kernel
theorem dX7_wind_0 : decode cX7_wind 0 = .ok (.aload_n 0, 1) := by decide +kernel
theorem dX7_wind_1 : decode cX7_wind 1 = .ok (.iload_n 1, 1) := by decide +kernel
theorem dX7_wind_2 : decode cX7_wind 2 = .ok (.invokevirtual 126, 3) := by decide +kernel
theorem dX7_wind_5 : decode cX7_wind 5 = .ok (.ifCond .eq 22, 3) := by decide +kernel
theorem dX7_wind_8 : decode cX7_wind 8 = .ok (.iload_n 2, 1) := by decide +kernel
theorem dX7_wind_9 : decode cX7_wind 9 = .ok (.iconst 0, 1) := by decide +kernel
theorem dX7_wind_10 : decode cX7_wind 10 = .ok (.bipush 10, 2) := by decide +kernel
theorem dX7_wind_12 : decode cX7_wind 12 = .ok (.invokestatic 60, 3) := by decide +kernel
theorem dX7_wind_15 : decode cX7_wind 15 = .ok (.ifCond .eq 12, 3) := by decide +kernel
theorem dX7_wind_18 : decode cX7_wind 18 = .ok (.iload_n 3, 1) := by decide +kernel
theorem dX7_wind_19 : decode cX7_wind 19 = .ok (.iconst 0, 1) := by decide +kernel
theorem dX7_wind_20 : decode cX7_wind 20 = .ok (.iconst 1, 1) := by decide +kernel
theorem dX7_wind_21 : decode cX7_wind 21 = .ok (.invokestatic 60, 3) := by decide +kernel
theorem dX7_wind_24 : decode cX7_wind 24 = .ok (.ifCond .ne 10, 3) := by decide +kernel
theorem dX7_wind_27 : decode cX7_wind 27 = .ok (.aload_n 0, 1) := by decide +kernel
theorem dX7_wind_28 : decode cX7_wind 28 = .ok (.iconst 0, 1) := by decide +kernel
theorem dX7_wind_29 : decode cX7_wind 29 = .ok (.invokevirtual 114, 3) := by decide +kernel
theorem dX7_wind_32 : decode cX7_wind 32 = .ok (.i2l, 1) := by decide +kernel
theorem dX7_wind_33 : decode cX7_wind 33 = .ok (.lreturn, 1) := by decide +kernel
theorem dX7_wind_34 : decode cX7_wind 34 = .ok (.aload_n 0, 1) := by decide +kernel
theorem dX7_wind_35 : decode cX7_wind 35 = .ok (.iload_n 1, 1) := by decide +kernel
theorem dX7_wind_36 : decode cX7_wind 36 = .ok (.invokevirtual 161, 3) := by decide +kernel
theorem dX7_wind_39 : decode cX7_wind 39 = .ok (.istore 4, 2) := by decide +kernel
theorem dX7_wind_41 : decode cX7_wind 41 = .ok (.iload 4, 2) := by decide +kernel
theorem dX7_wind_43 : decode cX7_wind 43 = .ok (.bipush 15, 2) := by decide +kernel
theorem dX7_wind_45 : decode cX7_wind 45 = .ok (.if_icmp .le 11, 3) := by decide +kernel
theorem dX7_wind_48 : decode cX7_wind 48 = .ok (.aload_n 0, 1) := by decide +kernel
theorem dX7_wind_49 : decode cX7_wind 49 = .ok (.bipush 6, 2) := by decide +kernel
theorem dX7_wind_51 : decode cX7_wind 51 = .ok (.invokevirtual 114, 3) := by decide +kernel
theorem dX7_wind_54 : decode cX7_wind 54 = .ok (.i2l, 1) := by decide +kernel
theorem dX7_wind_55 : decode cX7_wind 55 = .ok (.lreturn, 1) := by decide +kernel
theorem dX7_wind_56 : decode cX7_wind 56 = .ok (.ldc2_w 190, 3) := by decide +kernel
theorem dX7_wind_59 : decode cX7_wind 59 = .ok (.iload_n 2, 1) := by decide +kernel
theorem dX7_wind_60 : decode cX7_wind 60 = .ok (.i2l, 1) := by decide +kernel
theorem dX7_wind_61 : decode cX7_wind 61 = .ok (.lsub, 1) := by decide +kernel
theorem dX7_wind_62 : decode cX7_wind 62 = .ok (.iload 4, 2) := by decide +kernel
theorem dX7_wind_64 : decode cX7_wind 64 = .ok (.invokestatic 192, 3) := by decide +kernel
theorem dX7_wind_67 : decode cX7_wind 67 = .ok (.lstore 5, 2) := by decide +kernel
theorem dX7_wind_69 : decode cX7_wind 69 = .ok (.ldc2_w 190, 3) := by decide +kernel
theorem dX7_wind_72 : decode cX7_wind 72 = .ok (.iload 4, 2) := by decide +kernel
theorem dX7_wind_74 : decode cX7_wind 74 = .ok (.invokestatic 192, 3) := by decide +kernel
theorem dX7_wind_77 : decode cX7_wind 77 = .ok (.lstore 7, 2) := by decide +kernel
theorem dX7_wind_79 : decode cX7_wind 79 = .ok (.lload 5, 2) := by decide +kernel
theorem dX7_wind_81 : decode cX7_wind 81 = .ok (.lstore 9, 2) := by decide +kernel
theorem dX7_wind_83 : decode cX7_wind 83 = .ok (.lload 7, 2) := by decide +kernel
theorem dX7_wind_85 : decode cX7_wind 85 = .ok (.lstore 11, 2) := by decide +kernel
theorem dX7_wind_87 : decode cX7_wind 87 = .ok (.lload 11, 2) := by decide +kernel
theorem dX7_wind_89 : decode cX7_wind 89 = .ok (.lconst 0, 1) := by decide +kernel
theorem dX7_wind_90 : decode cX7_wind 90 = .ok (.lcmp, 1) := by decide +kernel
theorem dX7_wind_91 : decode cX7_wind 91 = .ok (.ifCond .eq 21, 3) := by decide +kernel
theorem dX7_wind_94 : decode cX7_wind 94 = .ok (.lload 9, 2) := by decide +kernel
theorem dX7_wind_96 : decode cX7_wind 96 = .ok (.lload 11, 2) := by decide +kernel
theorem dX7_wind_98 : decode cX7_wind 98 = .ok (.lrem, 1) := by decide +kernel
theorem dX7_wind_99 : decode cX7_wind 99 = .ok (.lstore 13, 2) := by decide +kernel
theorem dX7_wind_101 : decode cX7_wind 101 = .ok (.lload 11, 2) := by decide +kernel
theorem dX7_wind_103 : decode cX7_wind 103 = .ok (.lstore 9, 2) := by decide +kernel
theorem dX7_wind_105 : decode cX7_wind 105 = .ok (.lload 13, 2) := by decide +kernel
theorem dX7_wind_107 : decode cX7_wind 107 = .ok (.lstore 11, 2) := by decide +kernel
theorem dX7_wind_109 : decode cX7_wind 109 = .ok (.goto (-22), 3) := by decide +kernel
theorem dX7_wind_112 : decode cX7_wind 112 = .ok (.iload_n 3, 1) := by decide +kernel
theorem dX7_wind_113 : decode cX7_wind 113 = .ok (.ifCond .ne 11, 3) := by decide +kernel
theorem dX7_wind_116 : decode cX7_wind 116 = .ok (.lload 5, 2) := by decide +kernel
theorem dX7_wind_118 : decode cX7_wind 118 = .ok (.lload 9, 2) := by decide +kernel
theorem dX7_wind_120 : decode cX7_wind 120 = .ok (.ldiv, 1) := by decide +kernel
theorem dX7_wind_121 : decode cX7_wind 121 = .ok (.goto 8, 3) := by decide +kernel
theorem dX7_wind_124 : decode cX7_wind 124 = .ok (.lload 7, 2) := by decide +kernel
theorem dX7_wind_126 : decode cX7_wind 126 = .ok (.lload 9, 2) := by decide +kernel
theorem dX7_wind_128 : decode cX7_wind 128 = .ok (.ldiv, 1) := by decide +kernel
theorem dX7_wind_129 : decode cX7_wind 129 = .ok (.lreturn, 1) := by decide +kernel
theorem dX7_isSheet_0 : decode cX7_isSheet 0 = .ok (.iload_n 0, 1) := by decide +kernel
theorem dX7_isSheet_1 : decode cX7_isSheet 1 = .ok (.iconst 0, 1) := by decide +kernel
theorem dX7_isSheet_2 : decode cX7_isSheet 2 = .ok (.iconst 3, 1) := by decide +kernel
theorem dX7_isSheet_3 : decode cX7_isSheet 3 = .ok (.invokestatic 60, 3) := by decide +kernel
theorem dX7_isSheet_6 : decode cX7_isSheet 6 = .ok (.ireturn, 1) := by decide +kernel
theorem dX7_wrongSheet_0 : decode cX7_wrongSheet 0 = .ok (.iload_n 1, 1) := by decide +kernel
theorem dX7_wrongSheet_1 : decode cX7_wrongSheet 1 = .ok (.invokestatic 196, 3) := by decide +kernel
theorem dX7_wrongSheet_4 : decode cX7_wrongSheet 4 = .ok (.ifCond .ne 7, 3) := by decide +kernel
theorem dX7_wrongSheet_7 : decode cX7_wrongSheet 7 = .ok (.iconst 0, 1) := by decide +kernel
theorem dX7_wrongSheet_8 : decode cX7_wrongSheet 8 = .ok (.goto 17, 3) := by decide +kernel
theorem dX7_wrongSheet_11 : decode cX7_wrongSheet 11 = .ok (.aload_n 0, 1) := by decide +kernel
theorem dX7_wrongSheet_12 : decode cX7_wrongSheet 12 = .ok (.getfield 47, 3) := by decide +kernel
theorem dX7_wrongSheet_15 : decode cX7_wrongSheet 15 = .ok (.iload_n 1, 1) := by decide +kernel
theorem dX7_wrongSheet_16 : decode cX7_wrongSheet 16 = .ok (.iaload, 1) := by decide +kernel
theorem dX7_wrongSheet_17 : decode cX7_wrongSheet 17 = .ok (.ifCond .ne 7, 3) := by decide +kernel
theorem dX7_wrongSheet_20 : decode cX7_wrongSheet 20 = .ok (.iconst 5, 1) := by decide +kernel
theorem dX7_wrongSheet_21 : decode cX7_wrongSheet 21 = .ok (.goto 4, 3) := by decide +kernel
theorem dX7_wrongSheet_24 : decode cX7_wrongSheet 24 = .ok (.iconst (-1), 1) := by decide +kernel
theorem dX7_wrongSheet_25 : decode cX7_wrongSheet 25 = .ok (.ireturn, 1) := by decide +kernel
theorem dX7_isTold_0 : decode cX7_isTold 0 = .ok (.iload_n 2, 1) := by decide +kernel
theorem dX7_isTold_1 : decode cX7_isTold 1 = .ok (.aload_n 0, 1) := by decide +kernel
theorem dX7_isTold_2 : decode cX7_isTold 2 = .ok (.getfield 50, 3) := by decide +kernel
theorem dX7_isTold_5 : decode cX7_isTold 5 = .ok (.iload_n 1, 1) := by decide +kernel
theorem dX7_isTold_6 : decode cX7_isTold 6 = .ok (.iaload, 1) := by decide +kernel
theorem dX7_isTold_7 : decode cX7_isTold 7 = .ok (.if_icmp .ge 18, 3) := by decide +kernel
theorem dX7_isTold_10 : decode cX7_isTold 10 = .ok (.aload_n 0, 1) := by decide +kernel
theorem dX7_isTold_11 : decode cX7_isTold 11 = .ok (.getfield 53, 3) := by decide +kernel
theorem dX7_isTold_14 : decode cX7_isTold 14 = .ok (.bipush 40, 2) := by decide +kernel
theorem dX7_isTold_16 : decode cX7_isTold 16 = .ok (.iload_n 1, 1) := by decide +kernel
theorem dX7_isTold_17 : decode cX7_isTold 17 = .ok (.imul, 1) := by decide +kernel
theorem dX7_isTold_18 : decode cX7_isTold 18 = .ok (.iload_n 2, 1) := by decide +kernel
theorem dX7_isTold_19 : decode cX7_isTold 19 = .ok (.iadd, 1) := by decide +kernel
theorem dX7_isTold_20 : decode cX7_isTold 20 = .ok (.iaload, 1) := by decide +kernel
theorem dX7_isTold_21 : decode cX7_isTold 21 = .ok (.iload_n 3, 1) := by decide +kernel
theorem dX7_isTold_22 : decode cX7_isTold 22 = .ok (.if_icmp .ne 7, 3) := by decide +kernel
theorem dX7_isTold_25 : decode cX7_isTold 25 = .ok (.iconst 1, 1) := by decide +kernel
theorem dX7_isTold_26 : decode cX7_isTold 26 = .ok (.goto 4, 3) := by decide +kernel
theorem dX7_isTold_29 : decode cX7_isTold 29 = .ok (.iconst 0, 1) := by decide +kernel
theorem dX7_isTold_30 : decode cX7_isTold 30 = .ok (.ireturn, 1) := by decide +kernel
theorem dX7_fits_0 : decode cX7_fits 0 = .ok (.aload_n 0, 1) := by decide +kernel
theorem dX7_fits_1 : decode cX7_fits 1 = .ok (.iload_n 1, 1) := by decide +kernel
theorem dX7_fits_2 : decode cX7_fits 2 = .ok (.invokevirtual 199, 3) := by decide +kernel
theorem dX7_fits_5 : decode cX7_fits 5 = .ok (.istore_n 2, 1) := by decide +kernel
theorem dX7_fits_6 : decode cX7_fits 6 = .ok (.iload_n 2, 1) := by decide +kernel
theorem dX7_fits_7 : decode cX7_fits 7 = .ok (.ifCond .lt 9, 3) := by decide +kernel
theorem dX7_fits_10 : decode cX7_fits 10 = .ok (.aload_n 0, 1) := by decide +kernel
theorem dX7_fits_11 : decode cX7_fits 11 = .ok (.iload_n 2, 1) := by decide +kernel
theorem dX7_fits_12 : decode cX7_fits 12 = .ok (.invokevirtual 114, 3) := by decide +kernel
theorem dX7_fits_15 : decode cX7_fits 15 = .ok (.ireturn, 1) := by decide +kernel
theorem dX7_fits_16 : decode cX7_fits 16 = .ok (.iconst 0, 1) := by decide +kernel
theorem dX7_fits_17 : decode cX7_fits 17 = .ok (.istore_n 3, 1) := by decide +kernel
theorem dX7_fits_18 : decode cX7_fits 18 = .ok (.iconst 0, 1) := by decide +kernel
theorem dX7_fits_19 : decode cX7_fits 19 = .ok (.istore 4, 2) := by decide +kernel
theorem dX7_fits_21 : decode cX7_fits 21 = .ok (.iload 4, 2) := by decide +kernel
theorem dX7_fits_23 : decode cX7_fits 23 = .ok (.aload_n 0, 1) := by decide +kernel
theorem dX7_fits_24 : decode cX7_fits 24 = .ok (.getfield 9, 3) := by decide +kernel
theorem dX7_fits_27 : decode cX7_fits 27 = .ok (.iconst 2, 1) := by decide +kernel
theorem dX7_fits_28 : decode cX7_fits 28 = .ok (.iaload, 1) := by decide +kernel
theorem dX7_fits_29 : decode cX7_fits 29 = .ok (.if_icmp .ge 65, 3) := by decide +kernel
theorem dX7_fits_32 : decode cX7_fits 32 = .ok (.aload_n 0, 1) := by decide +kernel
theorem dX7_fits_33 : decode cX7_fits 33 = .ok (.iload 4, 2) := by decide +kernel
theorem dX7_fits_35 : decode cX7_fits 35 = .ok (.iconst 2, 1) := by decide +kernel
theorem dX7_fits_36 : decode cX7_fits 36 = .ok (.invokevirtual 80, 3) := by decide +kernel
theorem dX7_fits_39 : decode cX7_fits 39 = .ok (.istore 5, 2) := by decide +kernel
theorem dX7_fits_41 : decode cX7_fits 41 = .ok (.iload_n 3, 1) := by decide +kernel
theorem dX7_fits_42 : decode cX7_fits 42 = .ok (.aload_n 0, 1) := by decide +kernel
theorem dX7_fits_43 : decode cX7_fits 43 = .ok (.iload_n 1, 1) := by decide +kernel
theorem dX7_fits_44 : decode cX7_fits 44 = .ok (.iconst 0, 1) := by decide +kernel
theorem dX7_fits_45 : decode cX7_fits 45 = .ok (.aload_n 0, 1) := by decide +kernel
theorem dX7_fits_46 : decode cX7_fits 46 = .ok (.iload 4, 2) := by decide +kernel
theorem dX7_fits_48 : decode cX7_fits 48 = .ok (.iload 5, 2) := by decide +kernel
theorem dX7_fits_50 : decode cX7_fits 50 = .ok (.iconst 1, 1) := by decide +kernel
theorem dX7_fits_51 : decode cX7_fits 51 = .ok (.invokevirtual 93, 3) := by decide +kernel
theorem dX7_fits_54 : decode cX7_fits 54 = .ok (.invokevirtual 202, 3) := by decide +kernel
theorem dX7_fits_57 : decode cX7_fits 57 = .ok (.ifCond .eq 28, 3) := by decide +kernel
theorem dX7_fits_60 : decode cX7_fits 60 = .ok (.aload_n 0, 1) := by decide +kernel
theorem dX7_fits_61 : decode cX7_fits 61 = .ok (.iload_n 1, 1) := by decide +kernel
theorem dX7_fits_62 : decode cX7_fits 62 = .ok (.iconst 1, 1) := by decide +kernel
theorem dX7_fits_63 : decode cX7_fits 63 = .ok (.aload_n 0, 1) := by decide +kernel
theorem dX7_fits_64 : decode cX7_fits 64 = .ok (.iload 4, 2) := by decide +kernel
theorem dX7_fits_66 : decode cX7_fits 66 = .ok (.iload 5, 2) := by decide +kernel
theorem dX7_fits_68 : decode cX7_fits 68 = .ok (.iconst 0, 1) := by decide +kernel
theorem dX7_fits_69 : decode cX7_fits 69 = .ok (.invokevirtual 93, 3) := by decide +kernel
theorem dX7_fits_72 : decode cX7_fits 72 = .ok (.invokevirtual 202, 3) := by decide +kernel
theorem dX7_fits_75 : decode cX7_fits 75 = .ok (.ifCond .eq 10, 3) := by decide +kernel
theorem dX7_fits_78 : decode cX7_fits 78 = .ok (.iconst 1, 1) := by decide +kernel
theorem dX7_fits_79 : decode cX7_fits 79 = .ok (.iload 4, 2) := by decide +kernel
theorem dX7_fits_81 : decode cX7_fits 81 = .ok (.ishl, 1) := by decide +kernel
theorem dX7_fits_82 : decode cX7_fits 82 = .ok (.goto 4, 3) := by decide +kernel
theorem dX7_fits_85 : decode cX7_fits 85 = .ok (.iconst 0, 1) := by decide +kernel
theorem dX7_fits_86 : decode cX7_fits 86 = .ok (.ior, 1) := by decide +kernel
theorem dX7_fits_87 : decode cX7_fits 87 = .ok (.istore_n 3, 1) := by decide +kernel
theorem dX7_fits_88 : decode cX7_fits 88 = .ok (.iinc 4 1, 3) := by decide +kernel
theorem dX7_fits_91 : decode cX7_fits 91 = .ok (.goto (-70), 3) := by decide +kernel
theorem dX7_fits_94 : decode cX7_fits 94 = .ok (.iload_n 3, 1) := by decide +kernel
theorem dX7_fits_95 : decode cX7_fits 95 = .ok (.ireturn, 1) := by decide +kernel
theorem dX7_stolen_0 : decode cX7_stolen 0 = .ok (.aload_n 0, 1) := by decide +kernel
theorem dX7_stolen_1 : decode cX7_stolen 1 = .ok (.iload_n 1, 1) := by decide +kernel
theorem dX7_stolen_2 : decode cX7_stolen 2 = .ok (.invokevirtual 199, 3) := by decide +kernel
theorem dX7_stolen_5 : decode cX7_stolen 5 = .ok (.istore_n 3, 1) := by decide +kernel
theorem dX7_stolen_6 : decode cX7_stolen 6 = .ok (.iload_n 3, 1) := by decide +kernel
theorem dX7_stolen_7 : decode cX7_stolen 7 = .ok (.ifCond .ge 15, 3) := by decide +kernel
theorem dX7_stolen_10 : decode cX7_stolen 10 = .ok (.iload_n 2, 1) := by decide +kernel
theorem dX7_stolen_11 : decode cX7_stolen 11 = .ok (.iconst 0, 1) := by decide +kernel
theorem dX7_stolen_12 : decode cX7_stolen 12 = .ok (.bipush 9, 2) := by decide +kernel
theorem dX7_stolen_14 : decode cX7_stolen 14 = .ok (.invokestatic 60, 3) := by decide +kernel
theorem dX7_stolen_17 : decode cX7_stolen 17 = .ok (.ifCond .ne 5, 3) := by decide +kernel
theorem dX7_stolen_20 : decode cX7_stolen 20 = .ok (.iconst 0, 1) := by decide +kernel
theorem dX7_stolen_21 : decode cX7_stolen 21 = .ok (.istore_n 3, 1) := by decide +kernel
theorem dX7_stolen_22 : decode cX7_stolen 22 = .ok (.iload_n 3, 1) := by decide +kernel
theorem dX7_stolen_23 : decode cX7_stolen 23 = .ok (.ifCond .lt 9, 3) := by decide +kernel
theorem dX7_stolen_26 : decode cX7_stolen 26 = .ok (.aload_n 0, 1) := by decide +kernel
theorem dX7_stolen_27 : decode cX7_stolen 27 = .ok (.iload_n 3, 1) := by decide +kernel
theorem dX7_stolen_28 : decode cX7_stolen 28 = .ok (.invokevirtual 114, 3) := by decide +kernel
theorem dX7_stolen_31 : decode cX7_stolen 31 = .ok (.ireturn, 1) := by decide +kernel
theorem dX7_stolen_32 : decode cX7_stolen 32 = .ok (.iconst 0, 1) := by decide +kernel
theorem dX7_stolen_33 : decode cX7_stolen 33 = .ok (.istore 4, 2) := by decide +kernel
theorem dX7_stolen_35 : decode cX7_stolen 35 = .ok (.iconst 0, 1) := by decide +kernel
theorem dX7_stolen_36 : decode cX7_stolen 36 = .ok (.istore 5, 2) := by decide +kernel
theorem dX7_stolen_38 : decode cX7_stolen 38 = .ok (.iload 5, 2) := by decide +kernel
theorem dX7_stolen_40 : decode cX7_stolen 40 = .ok (.aload_n 0, 1) := by decide +kernel
theorem dX7_stolen_41 : decode cX7_stolen 41 = .ok (.getfield 9, 3) := by decide +kernel
theorem dX7_stolen_44 : decode cX7_stolen 44 = .ok (.iconst 1, 1) := by decide +kernel
theorem dX7_stolen_45 : decode cX7_stolen 45 = .ok (.iaload, 1) := by decide +kernel
theorem dX7_stolen_46 : decode cX7_stolen 46 = .ok (.if_icmp .ge 88, 3) := by decide +kernel
theorem dX7_stolen_49 : decode cX7_stolen 49 = .ok (.iconst 1, 1) := by decide +kernel
theorem dX7_stolen_50 : decode cX7_stolen 50 = .ok (.istore 6, 2) := by decide +kernel
theorem dX7_stolen_52 : decode cX7_stolen 52 = .ok (.iconst 0, 1) := by decide +kernel
theorem dX7_stolen_53 : decode cX7_stolen 53 = .ok (.istore 7, 2) := by decide +kernel
theorem dX7_stolen_55 : decode cX7_stolen 55 = .ok (.iload 7, 2) := by decide +kernel
theorem dX7_stolen_57 : decode cX7_stolen 57 = .ok (.iconst 4, 1) := by decide +kernel
theorem dX7_stolen_58 : decode cX7_stolen 58 = .ok (.if_icmp .ge 52, 3) := by decide +kernel
theorem dX7_stolen_61 : decode cX7_stolen 61 = .ok (.aload_n 0, 1) := by decide +kernel
theorem dX7_stolen_62 : decode cX7_stolen 62 = .ok (.iload 5, 2) := by decide +kernel
theorem dX7_stolen_64 : decode cX7_stolen 64 = .ok (.iconst 3, 1) := by decide +kernel
theorem dX7_stolen_65 : decode cX7_stolen 65 = .ok (.iload 7, 2) := by decide +kernel
theorem dX7_stolen_67 : decode cX7_stolen 67 = .ok (.iadd, 1) := by decide +kernel
theorem dX7_stolen_68 : decode cX7_stolen 68 = .ok (.invokevirtual 64, 3) := by decide +kernel
theorem dX7_stolen_71 : decode cX7_stolen 71 = .ok (.istore 8, 2) := by decide +kernel
theorem dX7_stolen_73 : decode cX7_stolen 73 = .ok (.iload 6, 2) := by decide +kernel
theorem dX7_stolen_75 : decode cX7_stolen 75 = .ok (.ifCond .eq 26, 3) := by decide +kernel
theorem dX7_stolen_78 : decode cX7_stolen 78 = .ok (.aload_n 0, 1) := by decide +kernel
theorem dX7_stolen_79 : decode cX7_stolen 79 = .ok (.iload_n 1, 1) := by decide +kernel
theorem dX7_stolen_80 : decode cX7_stolen 80 = .ok (.iload 7, 2) := by decide +kernel
theorem dX7_stolen_82 : decode cX7_stolen 82 = .ok (.iload 8, 2) := by decide +kernel
theorem dX7_stolen_84 : decode cX7_stolen 84 = .ok (.iload 8, 2) := by decide +kernel
theorem dX7_stolen_86 : decode cX7_stolen 86 = .ok (.iload_n 2, 1) := by decide +kernel
theorem dX7_stolen_87 : decode cX7_stolen 87 = .ok (.invokestatic 86, 3) := by decide +kernel
theorem dX7_stolen_90 : decode cX7_stolen 90 = .ok (.isub, 1) := by decide +kernel
theorem dX7_stolen_91 : decode cX7_stolen 91 = .ok (.invokevirtual 202, 3) := by decide +kernel
theorem dX7_stolen_94 : decode cX7_stolen 94 = .ok (.ifCond .eq 7, 3) := by decide +kernel
theorem dX7_stolen_97 : decode cX7_stolen 97 = .ok (.iconst 1, 1) := by decide +kernel
theorem dX7_stolen_98 : decode cX7_stolen 98 = .ok (.goto 4, 3) := by decide +kernel
theorem dX7_stolen_101 : decode cX7_stolen 101 = .ok (.iconst 0, 1) := by decide +kernel
theorem dX7_stolen_102 : decode cX7_stolen 102 = .ok (.istore 6, 2) := by decide +kernel
theorem dX7_stolen_104 : decode cX7_stolen 104 = .ok (.iinc 7 1, 3) := by decide +kernel
theorem dX7_stolen_107 : decode cX7_stolen 107 = .ok (.goto (-52), 3) := by decide +kernel
theorem dX7_stolen_110 : decode cX7_stolen 110 = .ok (.iload 4, 2) := by decide +kernel
theorem dX7_stolen_112 : decode cX7_stolen 112 = .ok (.iload 6, 2) := by decide +kernel
theorem dX7_stolen_114 : decode cX7_stolen 114 = .ok (.ifCond .eq 10, 3) := by decide +kernel
theorem dX7_stolen_117 : decode cX7_stolen 117 = .ok (.iconst 1, 1) := by decide +kernel
theorem dX7_stolen_118 : decode cX7_stolen 118 = .ok (.iload 5, 2) := by decide +kernel
theorem dX7_stolen_120 : decode cX7_stolen 120 = .ok (.ishl, 1) := by decide +kernel
theorem dX7_stolen_121 : decode cX7_stolen 121 = .ok (.goto 4, 3) := by decide +kernel
theorem dX7_stolen_124 : decode cX7_stolen 124 = .ok (.iconst 0, 1) := by decide +kernel
theorem dX7_stolen_125 : decode cX7_stolen 125 = .ok (.ior, 1) := by decide +kernel
theorem dX7_stolen_126 : decode cX7_stolen 126 = .ok (.istore 4, 2) := by decide +kernel
theorem dX7_stolen_128 : decode cX7_stolen 128 = .ok (.iinc 5 1, 3) := by decide +kernel
theorem dX7_stolen_131 : decode cX7_stolen 131 = .ok (.goto (-93), 3) := by decide +kernel
theorem dX7_stolen_134 : decode cX7_stolen 134 = .ok (.iload 4, 2) := by decide +kernel
theorem dX7_stolen_136 : decode cX7_stolen 136 = .ok (.ireturn, 1) := by decide +kernel
theorem dX7_draw_0 : decode cX7_draw 0 = .ok (.aload_n 0, 1) := by decide +kernel
theorem dX7_draw_1 : decode cX7_draw 1 = .ok (.getfield 9, 3) := by decide +kernel
theorem dX7_draw_4 : decode cX7_draw 4 = .ok (.iconst 3, 1) := by decide +kernel
theorem dX7_draw_5 : decode cX7_draw 5 = .ok (.aload_n 0, 1) := by decide +kernel
theorem dX7_draw_6 : decode cX7_draw 6 = .ok (.getfield 9, 3) := by decide +kernel
theorem dX7_draw_9 : decode cX7_draw 9 = .ok (.iconst 3, 1) := by decide +kernel
theorem dX7_draw_10 : decode cX7_draw 10 = .ok (.iaload, 1) := by decide +kernel
theorem dX7_draw_11 : decode cX7_draw 11 = .ok (.ldc 205, 2) := by decide +kernel
theorem dX7_draw_13 : decode cX7_draw 13 = .ok (.imul, 1) := by decide +kernel
theorem dX7_draw_14 : decode cX7_draw 14 = .ok (.sipush 12345, 3) := by decide +kernel
theorem dX7_draw_17 : decode cX7_draw 17 = .ok (.iadd, 1) := by decide +kernel
theorem dX7_draw_18 : decode cX7_draw 18 = .ok (.iastore, 1) := by decide +kernel
theorem dX7_draw_19 : decode cX7_draw 19 = .ok (.aload_n 0, 1) := by decide +kernel
theorem dX7_draw_20 : decode cX7_draw 20 = .ok (.getfield 9, 3) := by decide +kernel
theorem dX7_draw_23 : decode cX7_draw 23 = .ok (.iconst 3, 1) := by decide +kernel
theorem dX7_draw_24 : decode cX7_draw 24 = .ok (.iaload, 1) := by decide +kernel
theorem dX7_draw_25 : decode cX7_draw 25 = .ok (.bipush 8, 2) := by decide +kernel
theorem dX7_draw_27 : decode cX7_draw 27 = .ok (.iushr, 1) := by decide +kernel
theorem dX7_draw_28 : decode cX7_draw 28 = .ok (.ireturn, 1) := by decide +kernel
theorem dX7_years_0 : decode cX7_years 0 = .ok (.iload_n 1, 1) := by decide +kernel
theorem dX7_years_1 : decode cX7_years 1 = .ok (.iconst 1, 1) := by decide +kernel
theorem dX7_years_2 : decode cX7_years 2 = .ok (.bipush 20, 2) := by decide +kernel
theorem dX7_years_4 : decode cX7_years 4 = .ok (.invokestatic 60, 3) := by decide +kernel
theorem dX7_years_7 : decode cX7_years 7 = .ok (.ifCond .ne 9, 3) := by decide +kernel
theorem dX7_years_10 : decode cX7_years 10 = .ok (.aload_n 0, 1) := by decide +kernel
theorem dX7_years_11 : decode cX7_years 11 = .ok (.iconst 0, 1) := by decide +kernel
theorem dX7_years_12 : decode cX7_years 12 = .ok (.invokevirtual 114, 3) := by decide +kernel
theorem dX7_years_15 : decode cX7_years 15 = .ok (.ireturn, 1) := by decide +kernel
theorem dX7_years_16 : decode cX7_years 16 = .ok (.aload_n 0, 1) := by decide +kernel
theorem dX7_years_17 : decode cX7_years 17 = .ok (.getfield 9, 3) := by decide +kernel
theorem dX7_years_20 : decode cX7_years 20 = .ok (.iconst 0, 1) := by decide +kernel
theorem dX7_years_21 : decode cX7_years 21 = .ok (.iaload, 1) := by decide +kernel
theorem dX7_years_22 : decode cX7_years 22 = .ok (.iload_n 1, 1) := by decide +kernel
theorem dX7_years_23 : decode cX7_years 23 = .ok (.iadd, 1) := by decide +kernel
theorem dX7_years_24 : decode cX7_years 24 = .ok (.ldc 139, 2) := by decide +kernel
theorem dX7_years_26 : decode cX7_years 26 = .ok (.if_icmp .le 9, 3) := by decide +kernel
theorem dX7_years_29 : decode cX7_years 29 = .ok (.aload_n 0, 1) := by decide +kernel
theorem dX7_years_30 : decode cX7_years 30 = .ok (.iconst 4, 1) := by decide +kernel
theorem dX7_years_31 : decode cX7_years 31 = .ok (.invokevirtual 114, 3) := by decide +kernel
theorem dX7_years_34 : decode cX7_years 34 = .ok (.ireturn, 1) := by decide +kernel
theorem dX7_years_35 : decode cX7_years 35 = .ok (.iconst 0, 1) := by decide +kernel
theorem dX7_years_36 : decode cX7_years 36 = .ok (.istore_n 2, 1) := by decide +kernel
theorem dX7_years_37 : decode cX7_years 37 = .ok (.iconst 0, 1) := by decide +kernel
theorem dX7_years_38 : decode cX7_years 38 = .ok (.istore_n 3, 1) := by decide +kernel
theorem dX7_years_39 : decode cX7_years 39 = .ok (.iload_n 3, 1) := by decide +kernel
theorem dX7_years_40 : decode cX7_years 40 = .ok (.iload_n 1, 1) := by decide +kernel
theorem dX7_years_41 : decode cX7_years 41 = .ok (.if_icmp .ge 48, 3) := by decide +kernel
theorem dX7_years_44 : decode cX7_years 44 = .ok (.aload_n 0, 1) := by decide +kernel
theorem dX7_years_45 : decode cX7_years 45 = .ok (.invokevirtual 140, 3) := by decide +kernel
theorem dX7_years_48 : decode cX7_years 48 = .ok (.aload_n 0, 1) := by decide +kernel
theorem dX7_years_49 : decode cX7_years 49 = .ok (.getfield 9, 3) := by decide +kernel
theorem dX7_years_52 : decode cX7_years 52 = .ok (.iconst 2, 1) := by decide +kernel
theorem dX7_years_53 : decode cX7_years 53 = .ok (.iaload, 1) := by decide +kernel
theorem dX7_years_54 : decode cX7_years 54 = .ok (.ifCond .le 29, 3) := by decide +kernel
theorem dX7_years_57 : decode cX7_years 57 = .ok (.iload_n 2, 1) := by decide +kernel
theorem dX7_years_58 : decode cX7_years 58 = .ok (.aload_n 0, 1) := by decide +kernel
theorem dX7_years_59 : decode cX7_years 59 = .ok (.aload_n 0, 1) := by decide +kernel
theorem dX7_years_60 : decode cX7_years 60 = .ok (.invokevirtual 206, 3) := by decide +kernel
theorem dX7_years_63 : decode cX7_years 63 = .ok (.aload_n 0, 1) := by decide +kernel
theorem dX7_years_64 : decode cX7_years 64 = .ok (.getfield 9, 3) := by decide +kernel
theorem dX7_years_67 : decode cX7_years 67 = .ok (.iconst 2, 1) := by decide +kernel
theorem dX7_years_68 : decode cX7_years 68 = .ok (.iaload, 1) := by decide +kernel
theorem dX7_years_69 : decode cX7_years 69 = .ok (.irem, 1) := by decide +kernel
theorem dX7_years_70 : decode cX7_years 70 = .ok (.invokevirtual 136, 3) := by decide +kernel
theorem dX7_years_73 : decode cX7_years 73 = .ok (.ifCond .eq 7, 3) := by decide +kernel
theorem dX7_years_76 : decode cX7_years 76 = .ok (.iconst 1, 1) := by decide +kernel
theorem dX7_years_77 : decode cX7_years 77 = .ok (.goto 4, 3) := by decide +kernel
theorem dX7_years_80 : decode cX7_years 80 = .ok (.iconst 0, 1) := by decide +kernel
theorem dX7_years_81 : decode cX7_years 81 = .ok (.iadd, 1) := by decide +kernel
theorem dX7_years_82 : decode cX7_years 82 = .ok (.istore_n 2, 1) := by decide +kernel
theorem dX7_years_83 : decode cX7_years 83 = .ok (.iinc 3 1, 3) := by decide +kernel
theorem dX7_years_86 : decode cX7_years 86 = .ok (.goto (-47), 3) := by decide +kernel
theorem dX7_years_89 : decode cX7_years 89 = .ok (.iload_n 2, 1) := by decide +kernel
theorem dX7_years_90 : decode cX7_years 90 = .ok (.ireturn, 1) := by decide +kernel
theorem dX7_seed_0 : decode cX7_seed 0 = .ok (.aload_n 0, 1) := by decide +kernel
theorem dX7_seed_1 : decode cX7_seed 1 = .ok (.getfield 9, 3) := by decide +kernel
theorem dX7_seed_4 : decode cX7_seed 4 = .ok (.iconst 3, 1) := by decide +kernel
theorem dX7_seed_5 : decode cX7_seed 5 = .ok (.iaload, 1) := by decide +kernel
theorem dX7_seed_6 : decode cX7_seed 6 = .ok (.istore_n 2, 1) := by decide +kernel
theorem dX7_seed_7 : decode cX7_seed 7 = .ok (.aload_n 0, 1) := by decide +kernel
theorem dX7_seed_8 : decode cX7_seed 8 = .ok (.getfield 9, 3) := by decide +kernel
theorem dX7_seed_11 : decode cX7_seed 11 = .ok (.iconst 3, 1) := by decide +kernel
theorem dX7_seed_12 : decode cX7_seed 12 = .ok (.iload_n 1, 1) := by decide +kernel
theorem dX7_seed_13 : decode cX7_seed 13 = .ok (.iastore, 1) := by decide +kernel
theorem dX7_seed_14 : decode cX7_seed 14 = .ok (.iload_n 2, 1) := by decide +kernel
theorem dX7_seed_15 : decode cX7_seed 15 = .ok (.ireturn, 1) := by decide +kernel
theorem dX7_feed_0 : decode cX7_feed 0 = .ok (.iload_n 2, 1) := by decide +kernel
theorem dX7_feed_1 : decode cX7_feed 1 = .ok (.iconst 1, 1) := by decide +kernel
theorem dX7_feed_2 : decode cX7_feed 2 = .ok (.iconst 4, 1) := by decide +kernel
theorem dX7_feed_3 : decode cX7_feed 3 = .ok (.invokestatic 60, 3) := by decide +kernel
theorem dX7_feed_6 : decode cX7_feed 6 = .ok (.ifCond .ne 9, 3) := by decide +kernel
theorem dX7_feed_9 : decode cX7_feed 9 = .ok (.aload_n 0, 1) := by decide +kernel
theorem dX7_feed_10 : decode cX7_feed 10 = .ok (.iconst 0, 1) := by decide +kernel
theorem dX7_feed_11 : decode cX7_feed 11 = .ok (.invokevirtual 114, 3) := by decide +kernel
theorem dX7_feed_14 : decode cX7_feed 14 = .ok (.ireturn, 1) := by decide +kernel
theorem dX7_feed_15 : decode cX7_feed 15 = .ok (.aload_n 0, 1) := by decide +kernel
theorem dX7_feed_16 : decode cX7_feed 16 = .ok (.getfield 209, 3) := by decide +kernel
theorem dX7_feed_19 : decode cX7_feed 19 = .ok (.iload_n 2, 1) := by decide +kernel
theorem dX7_feed_20 : decode cX7_feed 20 = .ok (.iadd, 1) := by decide +kernel
theorem dX7_feed_21 : decode cX7_feed 21 = .ok (.bipush 120, 2) := by decide +kernel
theorem dX7_feed_23 : decode cX7_feed 23 = .ok (.if_icmp .le 9, 3) := by decide +kernel
theorem dX7_feed_26 : decode cX7_feed 26 = .ok (.aload_n 0, 1) := by decide +kernel
theorem dX7_feed_27 : decode cX7_feed 27 = .ok (.iconst 1, 1) := by decide +kernel
theorem dX7_feed_28 : decode cX7_feed 28 = .ok (.invokevirtual 114, 3) := by decide +kernel
theorem dX7_feed_31 : decode cX7_feed 31 = .ok (.ireturn, 1) := by decide +kernel
theorem dX7_feed_32 : decode cX7_feed 32 = .ok (.iload_n 2, 1) := by decide +kernel
theorem dX7_feed_33 : decode cX7_feed 33 = .ok (.iconst 1, 1) := by decide +kernel
theorem dX7_feed_34 : decode cX7_feed 34 = .ok (.isub, 1) := by decide +kernel
theorem dX7_feed_35 : decode cX7_feed 35 = .ok (.istore_n 3, 1) := by decide +kernel
theorem dX7_feed_36 : decode cX7_feed 36 = .ok (.iload_n 3, 1) := by decide +kernel
theorem dX7_feed_37 : decode cX7_feed 37 = .ok (.ifCond .lt 38, 3) := by decide +kernel
theorem dX7_feed_40 : decode cX7_feed 40 = .ok (.aload_n 0, 1) := by decide +kernel
theorem dX7_feed_41 : decode cX7_feed 41 = .ok (.getfield 31, 3) := by decide +kernel
theorem dX7_feed_44 : decode cX7_feed 44 = .ok (.aload_n 0, 1) := by decide +kernel
theorem dX7_feed_45 : decode cX7_feed 45 = .ok (.getfield 209, 3) := by decide +kernel
theorem dX7_feed_48 : decode cX7_feed 48 = .ok (.iload_n 1, 1) := by decide +kernel
theorem dX7_feed_49 : decode cX7_feed 49 = .ok (.bipush 8, 2) := by decide +kernel
theorem dX7_feed_51 : decode cX7_feed 51 = .ok (.iload_n 3, 1) := by decide +kernel
theorem dX7_feed_52 : decode cX7_feed 52 = .ok (.imul, 1) := by decide +kernel
theorem dX7_feed_53 : decode cX7_feed 53 = .ok (.ishr, 1) := by decide +kernel
theorem dX7_feed_54 : decode cX7_feed 54 = .ok (.sipush 255, 3) := by decide +kernel
theorem dX7_feed_57 : decode cX7_feed 57 = .ok (.iand, 1) := by decide +kernel
theorem dX7_feed_58 : decode cX7_feed 58 = .ok (.iastore, 1) := by decide +kernel
theorem dX7_feed_59 : decode cX7_feed 59 = .ok (.aload_n 0, 1) := by decide +kernel
theorem dX7_feed_60 : decode cX7_feed 60 = .ok (.dup, 1) := by decide +kernel
theorem dX7_feed_61 : decode cX7_feed 61 = .ok (.getfield 209, 3) := by decide +kernel
theorem dX7_feed_64 : decode cX7_feed 64 = .ok (.iconst 1, 1) := by decide +kernel
theorem dX7_feed_65 : decode cX7_feed 65 = .ok (.iadd, 1) := by decide +kernel
theorem dX7_feed_66 : decode cX7_feed 66 = .ok (.putfield 209, 3) := by decide +kernel
theorem dX7_feed_69 : decode cX7_feed 69 = .ok (.iinc 3 (-1), 3) := by decide +kernel
theorem dX7_feed_72 : decode cX7_feed 72 = .ok (.goto (-36), 3) := by decide +kernel
theorem dX7_feed_75 : decode cX7_feed 75 = .ok (.aload_n 0, 1) := by decide +kernel
theorem dX7_feed_76 : decode cX7_feed 76 = .ok (.getfield 209, 3) := by decide +kernel
theorem dX7_feed_79 : decode cX7_feed 79 = .ok (.ireturn, 1) := by decide +kernel
theorem dX7_wipe_0 : decode cX7_wipe 0 = .ok (.aload_n 0, 1) := by decide +kernel
theorem dX7_wipe_1 : decode cX7_wipe 1 = .ok (.getfield 209, 3) := by decide +kernel
theorem dX7_wipe_4 : decode cX7_wipe 4 = .ok (.istore_n 1, 1) := by decide +kernel
theorem dX7_wipe_5 : decode cX7_wipe 5 = .ok (.aload_n 0, 1) := by decide +kernel
theorem dX7_wipe_6 : decode cX7_wipe 6 = .ok (.iconst 0, 1) := by decide +kernel
theorem dX7_wipe_7 : decode cX7_wipe 7 = .ok (.putfield 209, 3) := by decide +kernel
theorem dX7_wipe_10 : decode cX7_wipe 10 = .ok (.iload_n 1, 1) := by decide +kernel
theorem dX7_wipe_11 : decode cX7_wipe 11 = .ok (.ireturn, 1) := by decide +kernel
theorem dX7_isLetter_0 : decode cX7_isLetter 0 = .ok (.iload_n 0, 1) := by decide +kernel
theorem dX7_isLetter_1 : decode cX7_isLetter 1 = .ok (.bipush 97, 2) := by decide +kernel
theorem dX7_isLetter_3 : decode cX7_isLetter 3 = .ok (.bipush 122, 2) := by decide +kernel
theorem dX7_isLetter_5 : decode cX7_isLetter 5 = .ok (.invokestatic 60, 3) := by decide +kernel
theorem dX7_isLetter_8 : decode cX7_isLetter 8 = .ok (.ireturn, 1) := by decide +kernel
theorem dX7_isDigit_0 : decode cX7_isDigit 0 = .ok (.iload_n 0, 1) := by decide +kernel
theorem dX7_isDigit_1 : decode cX7_isDigit 1 = .ok (.bipush 48, 2) := by decide +kernel
theorem dX7_isDigit_3 : decode cX7_isDigit 3 = .ok (.bipush 57, 2) := by decide +kernel
theorem dX7_isDigit_5 : decode cX7_isDigit 5 = .ok (.invokestatic 60, 3) := by decide +kernel
theorem dX7_isDigit_8 : decode cX7_isDigit 8 = .ok (.ireturn, 1) := by decide +kernel
theorem dX7_nextToken_0 : decode cX7_nextToken 0 = .ok (.aload_n 0, 1) := by decide +kernel
theorem dX7_nextToken_1 : decode cX7_nextToken 1 = .ok (.aload_n 0, 1) := by decide +kernel
theorem dX7_nextToken_2 : decode cX7_nextToken 2 = .ok (.getfield 212, 3) := by decide +kernel
theorem dX7_nextToken_5 : decode cX7_nextToken 5 = .ok (.putfield 215, 3) := by decide +kernel
theorem dX7_nextToken_8 : decode cX7_nextToken 8 = .ok (.aload_n 0, 1) := by decide +kernel
theorem dX7_nextToken_9 : decode cX7_nextToken 9 = .ok (.getfield 215, 3) := by decide +kernel
theorem dX7_nextToken_12 : decode cX7_nextToken 12 = .ok (.aload_n 0, 1) := by decide +kernel
theorem dX7_nextToken_13 : decode cX7_nextToken 13 = .ok (.getfield 209, 3) := by decide +kernel
theorem dX7_nextToken_16 : decode cX7_nextToken 16 = .ok (.if_icmp .ge 30, 3) := by decide +kernel
theorem dX7_nextToken_19 : decode cX7_nextToken 19 = .ok (.aload_n 0, 1) := by decide +kernel
theorem dX7_nextToken_20 : decode cX7_nextToken 20 = .ok (.getfield 31, 3) := by decide +kernel
theorem dX7_nextToken_23 : decode cX7_nextToken 23 = .ok (.aload_n 0, 1) := by decide +kernel
theorem dX7_nextToken_24 : decode cX7_nextToken 24 = .ok (.getfield 215, 3) := by decide +kernel
theorem dX7_nextToken_27 : decode cX7_nextToken 27 = .ok (.iaload, 1) := by decide +kernel
theorem dX7_nextToken_28 : decode cX7_nextToken 28 = .ok (.bipush 32, 2) := by decide +kernel
theorem dX7_nextToken_30 : decode cX7_nextToken 30 = .ok (.if_icmp .ne 16, 3) := by decide +kernel
theorem dX7_nextToken_33 : decode cX7_nextToken 33 = .ok (.aload_n 0, 1) := by decide +kernel
theorem dX7_nextToken_34 : decode cX7_nextToken 34 = .ok (.dup, 1) := by decide +kernel
theorem dX7_nextToken_35 : decode cX7_nextToken 35 = .ok (.getfield 215, 3) := by decide +kernel
theorem dX7_nextToken_38 : decode cX7_nextToken 38 = .ok (.iconst 1, 1) := by decide +kernel
theorem dX7_nextToken_39 : decode cX7_nextToken 39 = .ok (.iadd, 1) := by decide +kernel
theorem dX7_nextToken_40 : decode cX7_nextToken 40 = .ok (.putfield 215, 3) := by decide +kernel
theorem dX7_nextToken_43 : decode cX7_nextToken 43 = .ok (.goto (-35), 3) := by decide +kernel
theorem dX7_nextToken_46 : decode cX7_nextToken 46 = .ok (.aload_n 0, 1) := by decide +kernel
theorem dX7_nextToken_47 : decode cX7_nextToken 47 = .ok (.aload_n 0, 1) := by decide +kernel
theorem dX7_nextToken_48 : decode cX7_nextToken 48 = .ok (.getfield 215, 3) := by decide +kernel
theorem dX7_nextToken_51 : decode cX7_nextToken 51 = .ok (.putfield 212, 3) := by decide +kernel
theorem dX7_nextToken_54 : decode cX7_nextToken 54 = .ok (.aload_n 0, 1) := by decide +kernel
theorem dX7_nextToken_55 : decode cX7_nextToken 55 = .ok (.lconst 0, 1) := by decide +kernel
theorem dX7_nextToken_56 : decode cX7_nextToken 56 = .ok (.putfield 218, 3) := by decide +kernel
theorem dX7_nextToken_59 : decode cX7_nextToken 59 = .ok (.aload_n 0, 1) := by decide +kernel
theorem dX7_nextToken_60 : decode cX7_nextToken 60 = .ok (.getfield 215, 3) := by decide +kernel
theorem dX7_nextToken_63 : decode cX7_nextToken 63 = .ok (.aload_n 0, 1) := by decide +kernel
theorem dX7_nextToken_64 : decode cX7_nextToken 64 = .ok (.getfield 209, 3) := by decide +kernel
theorem dX7_nextToken_67 : decode cX7_nextToken 67 = .ok (.if_icmp .ne 11, 3) := by decide +kernel
theorem dX7_nextToken_70 : decode cX7_nextToken 70 = .ok (.aload_n 0, 1) := by decide +kernel
theorem dX7_nextToken_71 : decode cX7_nextToken 71 = .ok (.iconst 0, 1) := by decide +kernel
theorem dX7_nextToken_72 : decode cX7_nextToken 72 = .ok (.putfield 222, 3) := by decide +kernel
theorem dX7_nextToken_75 : decode cX7_nextToken 75 = .ok (.goto 262, 3) := by decide +kernel
theorem dX7_nextToken_78 : decode cX7_nextToken 78 = .ok (.aload_n 0, 1) := by decide +kernel
theorem dX7_nextToken_79 : decode cX7_nextToken 79 = .ok (.getfield 31, 3) := by decide +kernel
theorem dX7_nextToken_82 : decode cX7_nextToken 82 = .ok (.aload_n 0, 1) := by decide +kernel
theorem dX7_nextToken_83 : decode cX7_nextToken 83 = .ok (.getfield 215, 3) := by decide +kernel
theorem dX7_nextToken_86 : decode cX7_nextToken 86 = .ok (.iaload, 1) := by decide +kernel
theorem dX7_nextToken_87 : decode cX7_nextToken 87 = .ok (.invokestatic 225, 3) := by decide +kernel
theorem dX7_nextToken_90 : decode cX7_nextToken 90 = .ok (.ifCond .eq 92, 3) := by decide +kernel
theorem dX7_nextToken_93 : decode cX7_nextToken 93 = .ok (.aload_n 0, 1) := by decide +kernel
theorem dX7_nextToken_94 : decode cX7_nextToken 94 = .ok (.iconst 1, 1) := by decide +kernel
theorem dX7_nextToken_95 : decode cX7_nextToken 95 = .ok (.putfield 222, 3) := by decide +kernel
theorem dX7_nextToken_98 : decode cX7_nextToken 98 = .ok (.aload_n 0, 1) := by decide +kernel
theorem dX7_nextToken_99 : decode cX7_nextToken 99 = .ok (.getfield 212, 3) := by decide +kernel
theorem dX7_nextToken_102 : decode cX7_nextToken 102 = .ok (.aload_n 0, 1) := by decide +kernel
theorem dX7_nextToken_103 : decode cX7_nextToken 103 = .ok (.getfield 209, 3) := by decide +kernel
theorem dX7_nextToken_106 : decode cX7_nextToken 106 = .ok (.if_icmp .ge 231, 3) := by decide +kernel
theorem dX7_nextToken_109 : decode cX7_nextToken 109 = .ok (.aload_n 0, 1) := by decide +kernel
theorem dX7_nextToken_110 : decode cX7_nextToken 110 = .ok (.getfield 31, 3) := by decide +kernel
theorem dX7_nextToken_113 : decode cX7_nextToken 113 = .ok (.aload_n 0, 1) := by decide +kernel
theorem dX7_nextToken_114 : decode cX7_nextToken 114 = .ok (.getfield 212, 3) := by decide +kernel
theorem dX7_nextToken_117 : decode cX7_nextToken 117 = .ok (.iaload, 1) := by decide +kernel
theorem dX7_nextToken_118 : decode cX7_nextToken 118 = .ok (.invokestatic 225, 3) := by decide +kernel
theorem dX7_nextToken_121 : decode cX7_nextToken 121 = .ok (.ifCond .eq 216, 3) := by decide +kernel
theorem dX7_nextToken_124 : decode cX7_nextToken 124 = .ok (.aload_n 0, 1) := by decide +kernel
theorem dX7_nextToken_125 : decode cX7_nextToken 125 = .ok (.aload_n 0, 1) := by decide +kernel
theorem dX7_nextToken_126 : decode cX7_nextToken 126 = .ok (.getfield 218, 3) := by decide +kernel
theorem dX7_nextToken_129 : decode cX7_nextToken 129 = .ok (.ldc2_w 228, 3) := by decide +kernel
theorem dX7_nextToken_132 : decode cX7_nextToken 132 = .ok (.lcmp, 1) := by decide +kernel
theorem dX7_nextToken_133 : decode cX7_nextToken 133 = .ok (.ifCond .le 10, 3) := by decide +kernel
theorem dX7_nextToken_136 : decode cX7_nextToken 136 = .ok (.aload_n 0, 1) := by decide +kernel
theorem dX7_nextToken_137 : decode cX7_nextToken 137 = .ok (.getfield 218, 3) := by decide +kernel
theorem dX7_nextToken_140 : decode cX7_nextToken 140 = .ok (.goto 26, 3) := by decide +kernel
theorem dX7_nextToken_143 : decode cX7_nextToken 143 = .ok (.aload_n 0, 1) := by decide +kernel
theorem dX7_nextToken_144 : decode cX7_nextToken 144 = .ok (.getfield 218, 3) := by decide +kernel
theorem dX7_nextToken_147 : decode cX7_nextToken 147 = .ok (.ldc2_w 230, 3) := by decide +kernel
theorem dX7_nextToken_150 : decode cX7_nextToken 150 = .ok (.lmul, 1) := by decide +kernel
theorem dX7_nextToken_151 : decode cX7_nextToken 151 = .ok (.aload_n 0, 1) := by decide +kernel
theorem dX7_nextToken_152 : decode cX7_nextToken 152 = .ok (.getfield 31, 3) := by decide +kernel
theorem dX7_nextToken_155 : decode cX7_nextToken 155 = .ok (.aload_n 0, 1) := by decide +kernel
theorem dX7_nextToken_156 : decode cX7_nextToken 156 = .ok (.getfield 212, 3) := by decide +kernel
theorem dX7_nextToken_159 : decode cX7_nextToken 159 = .ok (.iaload, 1) := by decide +kernel
theorem dX7_nextToken_160 : decode cX7_nextToken 160 = .ok (.i2l, 1) := by decide +kernel
theorem dX7_nextToken_161 : decode cX7_nextToken 161 = .ok (.ladd, 1) := by decide +kernel
theorem dX7_nextToken_162 : decode cX7_nextToken 162 = .ok (.ldc2_w 232, 3) := by decide +kernel
theorem dX7_nextToken_165 : decode cX7_nextToken 165 = .ok (.lsub, 1) := by decide +kernel
theorem dX7_nextToken_166 : decode cX7_nextToken 166 = .ok (.putfield 218, 3) := by decide +kernel
theorem dX7_nextToken_169 : decode cX7_nextToken 169 = .ok (.aload_n 0, 1) := by decide +kernel
theorem dX7_nextToken_170 : decode cX7_nextToken 170 = .ok (.dup, 1) := by decide +kernel
theorem dX7_nextToken_171 : decode cX7_nextToken 171 = .ok (.getfield 212, 3) := by decide +kernel
theorem dX7_nextToken_174 : decode cX7_nextToken 174 = .ok (.iconst 1, 1) := by decide +kernel
theorem dX7_nextToken_175 : decode cX7_nextToken 175 = .ok (.iadd, 1) := by decide +kernel
theorem dX7_nextToken_176 : decode cX7_nextToken 176 = .ok (.putfield 212, 3) := by decide +kernel
theorem dX7_nextToken_179 : decode cX7_nextToken 179 = .ok (.goto (-81), 3) := by decide +kernel
theorem dX7_nextToken_182 : decode cX7_nextToken 182 = .ok (.aload_n 0, 1) := by decide +kernel
theorem dX7_nextToken_183 : decode cX7_nextToken 183 = .ok (.getfield 31, 3) := by decide +kernel
theorem dX7_nextToken_186 : decode cX7_nextToken 186 = .ok (.aload_n 0, 1) := by decide +kernel
theorem dX7_nextToken_187 : decode cX7_nextToken 187 = .ok (.getfield 215, 3) := by decide +kernel
theorem dX7_nextToken_190 : decode cX7_nextToken 190 = .ok (.iaload, 1) := by decide +kernel
theorem dX7_nextToken_191 : decode cX7_nextToken 191 = .ok (.invokestatic 234, 3) := by decide +kernel
theorem dX7_nextToken_194 : decode cX7_nextToken 194 = .ok (.ifCond .eq 110, 3) := by decide +kernel
theorem dX7_nextToken_197 : decode cX7_nextToken 197 = .ok (.aload_n 0, 1) := by decide +kernel
theorem dX7_nextToken_198 : decode cX7_nextToken 198 = .ok (.getfield 212, 3) := by decide +kernel
theorem dX7_nextToken_201 : decode cX7_nextToken 201 = .ok (.aload_n 0, 1) := by decide +kernel
theorem dX7_nextToken_202 : decode cX7_nextToken 202 = .ok (.getfield 209, 3) := by decide +kernel
theorem dX7_nextToken_205 : decode cX7_nextToken 205 = .ok (.if_icmp .ge 76, 3) := by decide +kernel
theorem dX7_nextToken_208 : decode cX7_nextToken 208 = .ok (.aload_n 0, 1) := by decide +kernel
theorem dX7_nextToken_209 : decode cX7_nextToken 209 = .ok (.getfield 31, 3) := by decide +kernel
theorem dX7_nextToken_212 : decode cX7_nextToken 212 = .ok (.aload_n 0, 1) := by decide +kernel
theorem dX7_nextToken_213 : decode cX7_nextToken 213 = .ok (.getfield 212, 3) := by decide +kernel
theorem dX7_nextToken_216 : decode cX7_nextToken 216 = .ok (.iaload, 1) := by decide +kernel
theorem dX7_nextToken_217 : decode cX7_nextToken 217 = .ok (.invokestatic 234, 3) := by decide +kernel
theorem dX7_nextToken_220 : decode cX7_nextToken 220 = .ok (.ifCond .eq 61, 3) := by decide +kernel
theorem dX7_nextToken_223 : decode cX7_nextToken 223 = .ok (.aload_n 0, 1) := by decide +kernel
theorem dX7_nextToken_224 : decode cX7_nextToken 224 = .ok (.aload_n 0, 1) := by decide +kernel
theorem dX7_nextToken_225 : decode cX7_nextToken 225 = .ok (.getfield 218, 3) := by decide +kernel
theorem dX7_nextToken_228 : decode cX7_nextToken 228 = .ok (.ldc2_w 237, 3) := by decide +kernel
theorem dX7_nextToken_231 : decode cX7_nextToken 231 = .ok (.lcmp, 1) := by decide +kernel
theorem dX7_nextToken_232 : decode cX7_nextToken 232 = .ok (.ifCond .le 10, 3) := by decide +kernel
theorem dX7_nextToken_235 : decode cX7_nextToken 235 = .ok (.aload_n 0, 1) := by decide +kernel
theorem dX7_nextToken_236 : decode cX7_nextToken 236 = .ok (.getfield 218, 3) := by decide +kernel
theorem dX7_nextToken_239 : decode cX7_nextToken 239 = .ok (.goto 26, 3) := by decide +kernel
theorem dX7_nextToken_242 : decode cX7_nextToken 242 = .ok (.aload_n 0, 1) := by decide +kernel
theorem dX7_nextToken_243 : decode cX7_nextToken 243 = .ok (.getfield 218, 3) := by decide +kernel
theorem dX7_nextToken_246 : decode cX7_nextToken 246 = .ok (.ldc2_w 190, 3) := by decide +kernel
theorem dX7_nextToken_249 : decode cX7_nextToken 249 = .ok (.lmul, 1) := by decide +kernel
theorem dX7_nextToken_250 : decode cX7_nextToken 250 = .ok (.aload_n 0, 1) := by decide +kernel
theorem dX7_nextToken_251 : decode cX7_nextToken 251 = .ok (.getfield 31, 3) := by decide +kernel
theorem dX7_nextToken_254 : decode cX7_nextToken 254 = .ok (.aload_n 0, 1) := by decide +kernel
theorem dX7_nextToken_255 : decode cX7_nextToken 255 = .ok (.getfield 212, 3) := by decide +kernel
theorem dX7_nextToken_258 : decode cX7_nextToken 258 = .ok (.iaload, 1) := by decide +kernel
theorem dX7_nextToken_259 : decode cX7_nextToken 259 = .ok (.i2l, 1) := by decide +kernel
theorem dX7_nextToken_260 : decode cX7_nextToken 260 = .ok (.ladd, 1) := by decide +kernel
theorem dX7_nextToken_261 : decode cX7_nextToken 261 = .ok (.ldc2_w 239, 3) := by decide +kernel
theorem dX7_nextToken_264 : decode cX7_nextToken 264 = .ok (.lsub, 1) := by decide +kernel
theorem dX7_nextToken_265 : decode cX7_nextToken 265 = .ok (.putfield 218, 3) := by decide +kernel
theorem dX7_nextToken_268 : decode cX7_nextToken 268 = .ok (.aload_n 0, 1) := by decide +kernel
theorem dX7_nextToken_269 : decode cX7_nextToken 269 = .ok (.dup, 1) := by decide +kernel
theorem dX7_nextToken_270 : decode cX7_nextToken 270 = .ok (.getfield 212, 3) := by decide +kernel
theorem dX7_nextToken_273 : decode cX7_nextToken 273 = .ok (.iconst 1, 1) := by decide +kernel
theorem dX7_nextToken_274 : decode cX7_nextToken 274 = .ok (.iadd, 1) := by decide +kernel
theorem dX7_nextToken_275 : decode cX7_nextToken 275 = .ok (.putfield 212, 3) := by decide +kernel
theorem dX7_nextToken_278 : decode cX7_nextToken 278 = .ok (.goto (-81), 3) := by decide +kernel
theorem dX7_nextToken_281 : decode cX7_nextToken 281 = .ok (.aload_n 0, 1) := by decide +kernel
theorem dX7_nextToken_282 : decode cX7_nextToken 282 = .ok (.aload_n 0, 1) := by decide +kernel
theorem dX7_nextToken_283 : decode cX7_nextToken 283 = .ok (.getfield 218, 3) := by decide +kernel
theorem dX7_nextToken_286 : decode cX7_nextToken 286 = .ok (.ldc2_w 237, 3) := by decide +kernel
theorem dX7_nextToken_289 : decode cX7_nextToken 289 = .ok (.lcmp, 1) := by decide +kernel
theorem dX7_nextToken_290 : decode cX7_nextToken 290 = .ok (.ifCond .le 7, 3) := by decide +kernel
theorem dX7_nextToken_293 : decode cX7_nextToken 293 = .ok (.iconst 4, 1) := by decide +kernel
theorem dX7_nextToken_294 : decode cX7_nextToken 294 = .ok (.goto 4, 3) := by decide +kernel
theorem dX7_nextToken_297 : decode cX7_nextToken 297 = .ok (.iconst 2, 1) := by decide +kernel
theorem dX7_nextToken_298 : decode cX7_nextToken 298 = .ok (.putfield 222, 3) := by decide +kernel
theorem dX7_nextToken_301 : decode cX7_nextToken 301 = .ok (.goto 36, 3) := by decide +kernel
theorem dX7_nextToken_304 : decode cX7_nextToken 304 = .ok (.aload_n 0, 1) := by decide +kernel
theorem dX7_nextToken_305 : decode cX7_nextToken 305 = .ok (.aload_n 0, 1) := by decide +kernel
theorem dX7_nextToken_306 : decode cX7_nextToken 306 = .ok (.getfield 31, 3) := by decide +kernel
theorem dX7_nextToken_309 : decode cX7_nextToken 309 = .ok (.aload_n 0, 1) := by decide +kernel
theorem dX7_nextToken_310 : decode cX7_nextToken 310 = .ok (.getfield 215, 3) := by decide +kernel
theorem dX7_nextToken_313 : decode cX7_nextToken 313 = .ok (.iaload, 1) := by decide +kernel
theorem dX7_nextToken_314 : decode cX7_nextToken 314 = .ok (.bipush 59, 2) := by decide +kernel
theorem dX7_nextToken_316 : decode cX7_nextToken 316 = .ok (.if_icmp .ne 7, 3) := by decide +kernel
theorem dX7_nextToken_319 : decode cX7_nextToken 319 = .ok (.iconst 3, 1) := by decide +kernel
theorem dX7_nextToken_320 : decode cX7_nextToken 320 = .ok (.goto 4, 3) := by decide +kernel
theorem dX7_nextToken_323 : decode cX7_nextToken 323 = .ok (.iconst 4, 1) := by decide +kernel
theorem dX7_nextToken_324 : decode cX7_nextToken 324 = .ok (.putfield 222, 3) := by decide +kernel
theorem dX7_nextToken_327 : decode cX7_nextToken 327 = .ok (.aload_n 0, 1) := by decide +kernel
theorem dX7_nextToken_328 : decode cX7_nextToken 328 = .ok (.dup, 1) := by decide +kernel
theorem dX7_nextToken_329 : decode cX7_nextToken 329 = .ok (.getfield 212, 3) := by decide +kernel
theorem dX7_nextToken_332 : decode cX7_nextToken 332 = .ok (.iconst 1, 1) := by decide +kernel
theorem dX7_nextToken_333 : decode cX7_nextToken 333 = .ok (.iadd, 1) := by decide +kernel
theorem dX7_nextToken_334 : decode cX7_nextToken 334 = .ok (.putfield 212, 3) := by decide +kernel
theorem dX7_nextToken_337 : decode cX7_nextToken 337 = .ok (.return_, 1) := by decide +kernel
theorem dX7_wordOf_0 : decode cX7_wordOf 0 = .ok (.iconst (-1), 1) := by decide +kernel
theorem dX7_wordOf_1 : decode cX7_wordOf 1 = .ok (.istore_n 2, 1) := by decide +kernel
theorem dX7_wordOf_2 : decode cX7_wordOf 2 = .ok (.iconst 0, 1) := by decide +kernel
theorem dX7_wordOf_3 : decode cX7_wordOf 3 = .ok (.istore_n 3, 1) := by decide +kernel
theorem dX7_wordOf_4 : decode cX7_wordOf 4 = .ok (.iload_n 3, 1) := by decide +kernel
theorem dX7_wordOf_5 : decode cX7_wordOf 5 = .ok (.aload_n 1, 1) := by decide +kernel
theorem dX7_wordOf_6 : decode cX7_wordOf 6 = .ok (.arraylength, 1) := by decide +kernel
theorem dX7_wordOf_7 : decode cX7_wordOf 7 = .ok (.bipush 8, 2) := by decide +kernel
theorem dX7_wordOf_9 : decode cX7_wordOf 9 = .ok (.idiv, 1) := by decide +kernel
theorem dX7_wordOf_10 : decode cX7_wordOf 10 = .ok (.if_icmp .ge 94, 3) := by decide +kernel
theorem dX7_wordOf_13 : decode cX7_wordOf 13 = .ok (.aload_n 0, 1) := by decide +kernel
theorem dX7_wordOf_14 : decode cX7_wordOf 14 = .ok (.getfield 222, 3) := by decide +kernel
theorem dX7_wordOf_17 : decode cX7_wordOf 17 = .ok (.iconst 1, 1) := by decide +kernel
theorem dX7_wordOf_18 : decode cX7_wordOf 18 = .ok (.if_icmp .ne 86, 3) := by decide +kernel
theorem dX7_wordOf_21 : decode cX7_wordOf 21 = .ok (.lconst 0, 1) := by decide +kernel
theorem dX7_wordOf_22 : decode cX7_wordOf 22 = .ok (.lstore 4, 2) := by decide +kernel
theorem dX7_wordOf_24 : decode cX7_wordOf 24 = .ok (.iconst 0, 1) := by decide +kernel
theorem dX7_wordOf_25 : decode cX7_wordOf 25 = .ok (.istore 6, 2) := by decide +kernel
theorem dX7_wordOf_27 : decode cX7_wordOf 27 = .ok (.iload 6, 2) := by decide +kernel
theorem dX7_wordOf_29 : decode cX7_wordOf 29 = .ok (.bipush 8, 2) := by decide +kernel
theorem dX7_wordOf_31 : decode cX7_wordOf 31 = .ok (.if_icmp .ge 51, 3) := by decide +kernel
theorem dX7_wordOf_34 : decode cX7_wordOf 34 = .ok (.aload_n 1, 1) := by decide +kernel
theorem dX7_wordOf_35 : decode cX7_wordOf 35 = .ok (.bipush 8, 2) := by decide +kernel
theorem dX7_wordOf_37 : decode cX7_wordOf 37 = .ok (.iload_n 3, 1) := by decide +kernel
theorem dX7_wordOf_38 : decode cX7_wordOf 38 = .ok (.imul, 1) := by decide +kernel
theorem dX7_wordOf_39 : decode cX7_wordOf 39 = .ok (.iload 6, 2) := by decide +kernel
theorem dX7_wordOf_41 : decode cX7_wordOf 41 = .ok (.iadd, 1) := by decide +kernel
theorem dX7_wordOf_42 : decode cX7_wordOf 42 = .ok (.caload, 1) := by decide +kernel
theorem dX7_wordOf_43 : decode cX7_wordOf 43 = .ok (.bipush 32, 2) := by decide +kernel
theorem dX7_wordOf_45 : decode cX7_wordOf 45 = .ok (.if_icmp .ne 8, 3) := by decide +kernel
theorem dX7_wordOf_48 : decode cX7_wordOf 48 = .ok (.lload 4, 2) := by decide +kernel
theorem dX7_wordOf_50 : decode cX7_wordOf 50 = .ok (.goto 24, 3) := by decide +kernel
theorem dX7_wordOf_53 : decode cX7_wordOf 53 = .ok (.lload 4, 2) := by decide +kernel
theorem dX7_wordOf_55 : decode cX7_wordOf 55 = .ok (.ldc2_w 230, 3) := by decide +kernel
theorem dX7_wordOf_58 : decode cX7_wordOf 58 = .ok (.lmul, 1) := by decide +kernel
theorem dX7_wordOf_59 : decode cX7_wordOf 59 = .ok (.aload_n 1, 1) := by decide +kernel
theorem dX7_wordOf_60 : decode cX7_wordOf 60 = .ok (.bipush 8, 2) := by decide +kernel
theorem dX7_wordOf_62 : decode cX7_wordOf 62 = .ok (.iload_n 3, 1) := by decide +kernel
theorem dX7_wordOf_63 : decode cX7_wordOf 63 = .ok (.imul, 1) := by decide +kernel
theorem dX7_wordOf_64 : decode cX7_wordOf 64 = .ok (.iload 6, 2) := by decide +kernel
theorem dX7_wordOf_66 : decode cX7_wordOf 66 = .ok (.iadd, 1) := by decide +kernel
theorem dX7_wordOf_67 : decode cX7_wordOf 67 = .ok (.caload, 1) := by decide +kernel
theorem dX7_wordOf_68 : decode cX7_wordOf 68 = .ok (.i2l, 1) := by decide +kernel
theorem dX7_wordOf_69 : decode cX7_wordOf 69 = .ok (.ladd, 1) := by decide +kernel
theorem dX7_wordOf_70 : decode cX7_wordOf 70 = .ok (.ldc2_w 232, 3) := by decide +kernel
theorem dX7_wordOf_73 : decode cX7_wordOf 73 = .ok (.lsub, 1) := by decide +kernel
theorem dX7_wordOf_74 : decode cX7_wordOf 74 = .ok (.lstore 4, 2) := by decide +kernel
theorem dX7_wordOf_76 : decode cX7_wordOf 76 = .ok (.iinc 6 1, 3) := by decide +kernel
theorem dX7_wordOf_79 : decode cX7_wordOf 79 = .ok (.goto (-52), 3) := by decide +kernel
theorem dX7_wordOf_82 : decode cX7_wordOf 82 = .ok (.lload 4, 2) := by decide +kernel
theorem dX7_wordOf_84 : decode cX7_wordOf 84 = .ok (.aload_n 0, 1) := by decide +kernel
theorem dX7_wordOf_85 : decode cX7_wordOf 85 = .ok (.getfield 218, 3) := by decide +kernel
theorem dX7_wordOf_88 : decode cX7_wordOf 88 = .ok (.lcmp, 1) := by decide +kernel
theorem dX7_wordOf_89 : decode cX7_wordOf 89 = .ok (.ifCond .ne 7, 3) := by decide +kernel
theorem dX7_wordOf_92 : decode cX7_wordOf 92 = .ok (.iload_n 3, 1) := by decide +kernel
theorem dX7_wordOf_93 : decode cX7_wordOf 93 = .ok (.goto 4, 3) := by decide +kernel
theorem dX7_wordOf_96 : decode cX7_wordOf 96 = .ok (.iload_n 2, 1) := by decide +kernel
theorem dX7_wordOf_97 : decode cX7_wordOf 97 = .ok (.istore_n 2, 1) := by decide +kernel
theorem dX7_wordOf_98 : decode cX7_wordOf 98 = .ok (.iinc 3 1, 3) := by decide +kernel
theorem dX7_wordOf_101 : decode cX7_wordOf 101 = .ok (.goto (-97), 3) := by decide +kernel
theorem dX7_wordOf_104 : decode cX7_wordOf 104 = .ok (.iload_n 2, 1) := by decide +kernel
theorem dX7_wordOf_105 : decode cX7_wordOf 105 = .ok (.ireturn, 1) := by decide +kernel
theorem dX7_takesNumber_0 : decode cX7_takesNumber 0 = .ok (.aload_n 0, 1) := by decide +kernel
theorem dX7_takesNumber_1 : decode cX7_takesNumber 1 = .ok (.getfield 222, 3) := by decide +kernel
theorem dX7_takesNumber_4 : decode cX7_takesNumber 4 = .ok (.iconst 2, 1) := by decide +kernel
theorem dX7_takesNumber_5 : decode cX7_takesNumber 5 = .ok (.if_icmp .ne 24, 3) := by decide +kernel
theorem dX7_takesNumber_8 : decode cX7_takesNumber 8 = .ok (.aload_n 0, 1) := by decide +kernel
theorem dX7_takesNumber_9 : decode cX7_takesNumber 9 = .ok (.getfield 218, 3) := by decide +kernel
theorem dX7_takesNumber_12 : decode cX7_takesNumber 12 = .ok (.l2i, 1) := by decide +kernel
theorem dX7_takesNumber_13 : decode cX7_takesNumber 13 = .ok (.iload_n 1, 1) := by decide +kernel
theorem dX7_takesNumber_14 : decode cX7_takesNumber 14 = .ok (.iload_n 2, 1) := by decide +kernel
theorem dX7_takesNumber_15 : decode cX7_takesNumber 15 = .ok (.invokestatic 60, 3) := by decide +kernel
theorem dX7_takesNumber_18 : decode cX7_takesNumber 18 = .ok (.ifCond .eq 11, 3) := by decide +kernel
theorem dX7_takesNumber_21 : decode cX7_takesNumber 21 = .ok (.aload_n 0, 1) := by decide +kernel
theorem dX7_takesNumber_22 : decode cX7_takesNumber 22 = .ok (.getfield 218, 3) := by decide +kernel
theorem dX7_takesNumber_25 : decode cX7_takesNumber 25 = .ok (.l2i, 1) := by decide +kernel
theorem dX7_takesNumber_26 : decode cX7_takesNumber 26 = .ok (.goto 4, 3) := by decide +kernel
theorem dX7_takesNumber_29 : decode cX7_takesNumber 29 = .ok (.iconst (-1), 1) := by decide +kernel
theorem dX7_takesNumber_30 : decode cX7_takesNumber 30 = .ok (.istore_n 3, 1) := by decide +kernel
theorem dX7_takesNumber_31 : decode cX7_takesNumber 31 = .ok (.iload_n 3, 1) := by decide +kernel
theorem dX7_takesNumber_32 : decode cX7_takesNumber 32 = .ok (.ifCond .lt 7, 3) := by decide +kernel
theorem dX7_takesNumber_35 : decode cX7_takesNumber 35 = .ok (.aload_n 0, 1) := by decide +kernel
theorem dX7_takesNumber_36 : decode cX7_takesNumber 36 = .ok (.invokevirtual 241, 3) := by decide +kernel
theorem dX7_takesNumber_39 : decode cX7_takesNumber 39 = .ok (.iload_n 3, 1) := by decide +kernel
theorem dX7_takesNumber_40 : decode cX7_takesNumber 40 = .ok (.ireturn, 1) := by decide +kernel
theorem dX7_readsBird_0 : decode cX7_readsBird 0 = .ok (.aload_n 0, 1) := by decide +kernel
theorem dX7_readsBird_1 : decode cX7_readsBird 1 = .ok (.getfield 9, 3) := by decide +kernel
theorem dX7_readsBird_4 : decode cX7_readsBird 4 = .ok (.iconst 1, 1) := by decide +kernel
theorem dX7_readsBird_5 : decode cX7_readsBird 5 = .ok (.iaload, 1) := by decide +kernel
theorem dX7_readsBird_6 : decode cX7_readsBird 6 = .ok (.bipush 8, 2) := by decide +kernel
theorem dX7_readsBird_8 : decode cX7_readsBird 8 = .ok (.if_icmp .ne 5, 3) := by decide +kernel
theorem dX7_readsBird_11 : decode cX7_readsBird 11 = .ok (.iconst 0, 1) := by decide +kernel
theorem dX7_readsBird_12 : decode cX7_readsBird 12 = .ok (.ireturn, 1) := by decide +kernel
theorem dX7_readsBird_13 : decode cX7_readsBird 13 = .ok (.aload_n 0, 1) := by decide +kernel
theorem dX7_readsBird_14 : decode cX7_readsBird 14 = .ok (.getfield 9, 3) := by decide +kernel
theorem dX7_readsBird_17 : decode cX7_readsBird 17 = .ok (.iconst 1, 1) := by decide +kernel
theorem dX7_readsBird_18 : decode cX7_readsBird 18 = .ok (.iaload, 1) := by decide +kernel
theorem dX7_readsBird_19 : decode cX7_readsBird 19 = .ok (.istore_n 2, 1) := by decide +kernel
theorem dX7_readsBird_20 : decode cX7_readsBird 20 = .ok (.aload_n 0, 1) := by decide +kernel
theorem dX7_readsBird_21 : decode cX7_readsBird 21 = .ok (.iload_n 1, 1) := by decide +kernel
theorem dX7_readsBird_22 : decode cX7_readsBird 22 = .ok (.invokevirtual 117, 3) := by decide +kernel
theorem dX7_readsBird_25 : decode cX7_readsBird 25 = .ok (.aload_n 0, 1) := by decide +kernel
theorem dX7_readsBird_26 : decode cX7_readsBird 26 = .ok (.invokevirtual 241, 3) := by decide +kernel
theorem dX7_readsBird_29 : decode cX7_readsBird 29 = .ok (.aload_n 0, 1) := by decide +kernel
theorem dX7_readsBird_30 : decode cX7_readsBird 30 = .ok (.aload_n 0, 1) := by decide +kernel
theorem dX7_readsBird_31 : decode cX7_readsBird 31 = .ok (.getfield 38, 3) := by decide +kernel
theorem dX7_readsBird_34 : decode cX7_readsBird 34 = .ok (.invokevirtual 244, 3) := by decide +kernel
theorem dX7_readsBird_37 : decode cX7_readsBird 37 = .ok (.ifCond .ne 58, 3) := by decide +kernel
theorem dX7_readsBird_40 : decode cX7_readsBird 40 = .ok (.aload_n 0, 1) := by decide +kernel
theorem dX7_readsBird_41 : decode cX7_readsBird 41 = .ok (.invokevirtual 241, 3) := by decide +kernel
theorem dX7_readsBird_44 : decode cX7_readsBird 44 = .ok (.iconst 0, 1) := by decide +kernel
theorem dX7_readsBird_45 : decode cX7_readsBird 45 = .ok (.istore_n 3, 1) := by decide +kernel
theorem dX7_readsBird_46 : decode cX7_readsBird 46 = .ok (.iload_n 3, 1) := by decide +kernel
theorem dX7_readsBird_47 : decode cX7_readsBird 47 = .ok (.ifCond .eq 16, 3) := by decide +kernel
theorem dX7_readsBird_50 : decode cX7_readsBird 50 = .ok (.iload_n 3, 1) := by decide +kernel
theorem dX7_readsBird_51 : decode cX7_readsBird 51 = .ok (.iconst 4, 1) := by decide +kernel
theorem dX7_readsBird_52 : decode cX7_readsBird 52 = .ok (.if_icmp .ge 43, 3) := by decide +kernel
theorem dX7_readsBird_55 : decode cX7_readsBird 55 = .ok (.aload_n 0, 1) := by decide +kernel
theorem dX7_readsBird_56 : decode cX7_readsBird 56 = .ok (.getfield 222, 3) := by decide +kernel
theorem dX7_readsBird_59 : decode cX7_readsBird 59 = .ok (.iconst 2, 1) := by decide +kernel
theorem dX7_readsBird_60 : decode cX7_readsBird 60 = .ok (.if_icmp .ne 35, 3) := by decide +kernel
theorem dX7_readsBird_63 : decode cX7_readsBird 63 = .ok (.aload_n 0, 1) := by decide +kernel
theorem dX7_readsBird_64 : decode cX7_readsBird 64 = .ok (.iconst 0, 1) := by decide +kernel
theorem dX7_readsBird_65 : decode cX7_readsBird 65 = .ok (.bipush 99, 2) := by decide +kernel
theorem dX7_readsBird_67 : decode cX7_readsBird 67 = .ok (.invokevirtual 248, 3) := by decide +kernel
theorem dX7_readsBird_70 : decode cX7_readsBird 70 = .ok (.istore 4, 2) := by decide +kernel
theorem dX7_readsBird_72 : decode cX7_readsBird 72 = .ok (.iload 4, 2) := by decide +kernel
theorem dX7_readsBird_74 : decode cX7_readsBird 74 = .ok (.ifCond .ge 5, 3) := by decide +kernel
theorem dX7_readsBird_77 : decode cX7_readsBird 77 = .ok (.iconst 0, 1) := by decide +kernel
theorem dX7_readsBird_78 : decode cX7_readsBird 78 = .ok (.ireturn, 1) := by decide +kernel
theorem dX7_readsBird_79 : decode cX7_readsBird 79 = .ok (.aload_n 0, 1) := by decide +kernel
theorem dX7_readsBird_80 : decode cX7_readsBird 80 = .ok (.iload_n 2, 1) := by decide +kernel
theorem dX7_readsBird_81 : decode cX7_readsBird 81 = .ok (.iconst 3, 1) := by decide +kernel
theorem dX7_readsBird_82 : decode cX7_readsBird 82 = .ok (.iload_n 3, 1) := by decide +kernel
theorem dX7_readsBird_83 : decode cX7_readsBird 83 = .ok (.iadd, 1) := by decide +kernel
theorem dX7_readsBird_84 : decode cX7_readsBird 84 = .ok (.iload 4, 2) := by decide +kernel
theorem dX7_readsBird_86 : decode cX7_readsBird 86 = .ok (.invokevirtual 100, 3) := by decide +kernel
theorem dX7_readsBird_89 : decode cX7_readsBird 89 = .ok (.iinc 3 1, 3) := by decide +kernel
theorem dX7_readsBird_92 : decode cX7_readsBird 92 = .ok (.goto (-46), 3) := by decide +kernel
theorem dX7_readsBird_95 : decode cX7_readsBird 95 = .ok (.iconst 1, 1) := by decide +kernel
theorem dX7_readsBird_96 : decode cX7_readsBird 96 = .ok (.istore_n 3, 1) := by decide +kernel
theorem dX7_readsBird_97 : decode cX7_readsBird 97 = .ok (.iload_n 3, 1) := by decide +kernel
theorem dX7_readsBird_98 : decode cX7_readsBird 98 = .ok (.iconst 3, 1) := by decide +kernel
theorem dX7_readsBird_99 : decode cX7_readsBird 99 = .ok (.if_icmp .ge 63, 3) := by decide +kernel
theorem dX7_readsBird_102 : decode cX7_readsBird 102 = .ok (.aload_n 0, 1) := by decide +kernel
theorem dX7_readsBird_103 : decode cX7_readsBird 103 = .ok (.aload_n 0, 1) := by decide +kernel
theorem dX7_readsBird_104 : decode cX7_readsBird 104 = .ok (.getfield 38, 3) := by decide +kernel
theorem dX7_readsBird_107 : decode cX7_readsBird 107 = .ok (.invokevirtual 244, 3) := by decide +kernel
theorem dX7_readsBird_110 : decode cX7_readsBird 110 = .ok (.iload_n 3, 1) := by decide +kernel
theorem dX7_readsBird_111 : decode cX7_readsBird 111 = .ok (.if_icmp .ne 45, 3) := by decide +kernel
theorem dX7_readsBird_114 : decode cX7_readsBird 114 = .ok (.aload_n 0, 1) := by decide +kernel
theorem dX7_readsBird_115 : decode cX7_readsBird 115 = .ok (.invokevirtual 241, 3) := by decide +kernel
theorem dX7_readsBird_118 : decode cX7_readsBird 118 = .ok (.aload_n 0, 1) := by decide +kernel
theorem dX7_readsBird_119 : decode cX7_readsBird 119 = .ok (.iconst 0, 1) := by decide +kernel
theorem dX7_readsBird_120 : decode cX7_readsBird 120 = .ok (.iload_n 3, 1) := by decide +kernel
theorem dX7_readsBird_121 : decode cX7_readsBird 121 = .ok (.iconst 1, 1) := by decide +kernel
theorem dX7_readsBird_122 : decode cX7_readsBird 122 = .ok (.if_icmp .ne 8, 3) := by decide +kernel
theorem dX7_readsBird_125 : decode cX7_readsBird 125 = .ok (.bipush 99, 2) := by decide +kernel
theorem dX7_readsBird_127 : decode cX7_readsBird 127 = .ok (.goto 5, 3) := by decide +kernel
theorem dX7_readsBird_130 : decode cX7_readsBird 130 = .ok (.bipush 9, 2) := by decide +kernel
theorem dX7_readsBird_132 : decode cX7_readsBird 132 = .ok (.invokevirtual 248, 3) := by decide +kernel
theorem dX7_readsBird_135 : decode cX7_readsBird 135 = .ok (.istore 4, 2) := by decide +kernel
theorem dX7_readsBird_137 : decode cX7_readsBird 137 = .ok (.iload 4, 2) := by decide +kernel
theorem dX7_readsBird_139 : decode cX7_readsBird 139 = .ok (.ifCond .ge 5, 3) := by decide +kernel
theorem dX7_readsBird_142 : decode cX7_readsBird 142 = .ok (.iconst 0, 1) := by decide +kernel
theorem dX7_readsBird_143 : decode cX7_readsBird 143 = .ok (.ireturn, 1) := by decide +kernel
theorem dX7_readsBird_144 : decode cX7_readsBird 144 = .ok (.aload_n 0, 1) := by decide +kernel
theorem dX7_readsBird_145 : decode cX7_readsBird 145 = .ok (.iload_n 2, 1) := by decide +kernel
theorem dX7_readsBird_146 : decode cX7_readsBird 146 = .ok (.iconst 1, 1) := by decide +kernel
theorem dX7_readsBird_147 : decode cX7_readsBird 147 = .ok (.iload_n 3, 1) := by decide +kernel
theorem dX7_readsBird_148 : decode cX7_readsBird 148 = .ok (.iadd, 1) := by decide +kernel
theorem dX7_readsBird_149 : decode cX7_readsBird 149 = .ok (.iconst 1, 1) := by decide +kernel
theorem dX7_readsBird_150 : decode cX7_readsBird 150 = .ok (.isub, 1) := by decide +kernel
theorem dX7_readsBird_151 : decode cX7_readsBird 151 = .ok (.iload 4, 2) := by decide +kernel
theorem dX7_readsBird_153 : decode cX7_readsBird 153 = .ok (.invokevirtual 100, 3) := by decide +kernel
theorem dX7_readsBird_156 : decode cX7_readsBird 156 = .ok (.iinc 3 1, 3) := by decide +kernel
theorem dX7_readsBird_159 : decode cX7_readsBird 159 = .ok (.goto (-62), 3) := by decide +kernel
theorem dX7_readsBird_162 : decode cX7_readsBird 162 = .ok (.iconst 1, 1) := by decide +kernel
theorem dX7_readsBird_163 : decode cX7_readsBird 163 = .ok (.ireturn, 1) := by decide +kernel
theorem dX7_readsMotion_0 : decode cX7_readsMotion 0 = .ok (.aload_n 0, 1) := by decide +kernel
theorem dX7_readsMotion_1 : decode cX7_readsMotion 1 = .ok (.getfield 9, 3) := by decide +kernel
theorem dX7_readsMotion_4 : decode cX7_readsMotion 4 = .ok (.iconst 2, 1) := by decide +kernel
theorem dX7_readsMotion_5 : decode cX7_readsMotion 5 = .ok (.iaload, 1) := by decide +kernel
theorem dX7_readsMotion_6 : decode cX7_readsMotion 6 = .ok (.bipush 8, 2) := by decide +kernel
theorem dX7_readsMotion_8 : decode cX7_readsMotion 8 = .ok (.if_icmp .ne 5, 3) := by decide +kernel
theorem dX7_readsMotion_11 : decode cX7_readsMotion 11 = .ok (.iconst 0, 1) := by decide +kernel
theorem dX7_readsMotion_12 : decode cX7_readsMotion 12 = .ok (.ireturn, 1) := by decide +kernel
theorem dX7_readsMotion_13 : decode cX7_readsMotion 13 = .ok (.aload_n 0, 1) := by decide +kernel
theorem dX7_readsMotion_14 : decode cX7_readsMotion 14 = .ok (.invokevirtual 241, 3) := by decide +kernel
theorem dX7_readsMotion_17 : decode cX7_readsMotion 17 = .ok (.aload_n 0, 1) := by decide +kernel
theorem dX7_readsMotion_18 : decode cX7_readsMotion 18 = .ok (.iconst 0, 1) := by decide +kernel
theorem dX7_readsMotion_19 : decode cX7_readsMotion 19 = .ok (.iconst 3, 1) := by decide +kernel
theorem dX7_readsMotion_20 : decode cX7_readsMotion 20 = .ok (.invokevirtual 248, 3) := by decide +kernel
theorem dX7_readsMotion_23 : decode cX7_readsMotion 23 = .ok (.istore_n 1, 1) := by decide +kernel
theorem dX7_readsMotion_24 : decode cX7_readsMotion 24 = .ok (.iload_n 1, 1) := by decide +kernel
theorem dX7_readsMotion_25 : decode cX7_readsMotion 25 = .ok (.ifCond .ge 5, 3) := by decide +kernel
theorem dX7_readsMotion_28 : decode cX7_readsMotion 28 = .ok (.iconst 0, 1) := by decide +kernel
theorem dX7_readsMotion_29 : decode cX7_readsMotion 29 = .ok (.ireturn, 1) := by decide +kernel
theorem dX7_readsMotion_30 : decode cX7_readsMotion 30 = .ok (.aload_n 0, 1) := by decide +kernel
theorem dX7_readsMotion_31 : decode cX7_readsMotion 31 = .ok (.getfield 9, 3) := by decide +kernel
theorem dX7_readsMotion_34 : decode cX7_readsMotion 34 = .ok (.iconst 2, 1) := by decide +kernel
theorem dX7_readsMotion_35 : decode cX7_readsMotion 35 = .ok (.iaload, 1) := by decide +kernel
theorem dX7_readsMotion_36 : decode cX7_readsMotion 36 = .ok (.istore_n 2, 1) := by decide +kernel
theorem dX7_readsMotion_37 : decode cX7_readsMotion 37 = .ok (.aload_n 0, 1) := by decide +kernel
theorem dX7_readsMotion_38 : decode cX7_readsMotion 38 = .ok (.iload_n 1, 1) := by decide +kernel
theorem dX7_readsMotion_39 : decode cX7_readsMotion 39 = .ok (.invokevirtual 123, 3) := by decide +kernel
theorem dX7_readsMotion_42 : decode cX7_readsMotion 42 = .ok (.iconst 0, 1) := by decide +kernel
theorem dX7_readsMotion_43 : decode cX7_readsMotion 43 = .ok (.istore_n 3, 1) := by decide +kernel
theorem dX7_readsMotion_44 : decode cX7_readsMotion 44 = .ok (.iload_n 3, 1) := by decide +kernel
theorem dX7_readsMotion_45 : decode cX7_readsMotion 45 = .ok (.iconst 3, 1) := by decide +kernel
theorem dX7_readsMotion_46 : decode cX7_readsMotion 46 = .ok (.if_icmp .ge 56, 3) := by decide +kernel
theorem dX7_readsMotion_49 : decode cX7_readsMotion 49 = .ok (.aload_n 0, 1) := by decide +kernel
theorem dX7_readsMotion_50 : decode cX7_readsMotion 50 = .ok (.aload_n 0, 1) := by decide +kernel
theorem dX7_readsMotion_51 : decode cX7_readsMotion 51 = .ok (.getfield 44, 3) := by decide +kernel
theorem dX7_readsMotion_54 : decode cX7_readsMotion 54 = .ok (.invokevirtual 244, 3) := by decide +kernel
theorem dX7_readsMotion_57 : decode cX7_readsMotion 57 = .ok (.iload_n 3, 1) := by decide +kernel
theorem dX7_readsMotion_58 : decode cX7_readsMotion 58 = .ok (.if_icmp .ne 38, 3) := by decide +kernel
theorem dX7_readsMotion_61 : decode cX7_readsMotion 61 = .ok (.aload_n 0, 1) := by decide +kernel
theorem dX7_readsMotion_62 : decode cX7_readsMotion 62 = .ok (.invokevirtual 241, 3) := by decide +kernel
theorem dX7_readsMotion_65 : decode cX7_readsMotion 65 = .ok (.aload_n 0, 1) := by decide +kernel
theorem dX7_readsMotion_66 : decode cX7_readsMotion 66 = .ok (.iconst 0, 1) := by decide +kernel
theorem dX7_readsMotion_67 : decode cX7_readsMotion 67 = .ok (.aload_n 0, 1) := by decide +kernel
theorem dX7_readsMotion_68 : decode cX7_readsMotion 68 = .ok (.iconst 1, 1) := by decide +kernel
theorem dX7_readsMotion_69 : decode cX7_readsMotion 69 = .ok (.iload_n 3, 1) := by decide +kernel
theorem dX7_readsMotion_70 : decode cX7_readsMotion 70 = .ok (.iadd, 1) := by decide +kernel
theorem dX7_readsMotion_71 : decode cX7_readsMotion 71 = .ok (.invokevirtual 133, 3) := by decide +kernel
theorem dX7_readsMotion_74 : decode cX7_readsMotion 74 = .ok (.invokevirtual 248, 3) := by decide +kernel
theorem dX7_readsMotion_77 : decode cX7_readsMotion 77 = .ok (.istore 4, 2) := by decide +kernel
theorem dX7_readsMotion_79 : decode cX7_readsMotion 79 = .ok (.iload 4, 2) := by decide +kernel
theorem dX7_readsMotion_81 : decode cX7_readsMotion 81 = .ok (.ifCond .ge 5, 3) := by decide +kernel
theorem dX7_readsMotion_84 : decode cX7_readsMotion 84 = .ok (.iconst 0, 1) := by decide +kernel
theorem dX7_readsMotion_85 : decode cX7_readsMotion 85 = .ok (.ireturn, 1) := by decide +kernel
theorem dX7_readsMotion_86 : decode cX7_readsMotion 86 = .ok (.aload_n 0, 1) := by decide +kernel
theorem dX7_readsMotion_87 : decode cX7_readsMotion 87 = .ok (.iload_n 2, 1) := by decide +kernel
theorem dX7_readsMotion_88 : decode cX7_readsMotion 88 = .ok (.iconst 1, 1) := by decide +kernel
theorem dX7_readsMotion_89 : decode cX7_readsMotion 89 = .ok (.iload_n 3, 1) := by decide +kernel
theorem dX7_readsMotion_90 : decode cX7_readsMotion 90 = .ok (.iadd, 1) := by decide +kernel
theorem dX7_readsMotion_91 : decode cX7_readsMotion 91 = .ok (.iload 4, 2) := by decide +kernel
theorem dX7_readsMotion_93 : decode cX7_readsMotion 93 = .ok (.invokevirtual 107, 3) := by decide +kernel
theorem dX7_readsMotion_96 : decode cX7_readsMotion 96 = .ok (.iinc 3 1, 3) := by decide +kernel
theorem dX7_readsMotion_99 : decode cX7_readsMotion 99 = .ok (.goto (-55), 3) := by decide +kernel
theorem dX7_readsMotion_102 : decode cX7_readsMotion 102 = .ok (.iconst 1, 1) := by decide +kernel
theorem dX7_readsMotion_103 : decode cX7_readsMotion 103 = .ok (.ireturn, 1) := by decide +kernel
theorem dX7_readsItem_0 : decode cX7_readsItem 0 = .ok (.aload_n 0, 1) := by decide +kernel
theorem dX7_readsItem_1 : decode cX7_readsItem 1 = .ok (.aload_n 0, 1) := by decide +kernel
theorem dX7_readsItem_2 : decode cX7_readsItem 2 = .ok (.getfield 34, 3) := by decide +kernel
theorem dX7_readsItem_5 : decode cX7_readsItem 5 = .ok (.invokevirtual 244, 3) := by decide +kernel
theorem dX7_readsItem_8 : decode cX7_readsItem 8 = .ok (.istore_n 1, 1) := by decide +kernel
theorem dX7_readsItem_9 : decode cX7_readsItem 9 = .ok (.iload_n 1, 1) := by decide +kernel
theorem dX7_readsItem_10 : decode cX7_readsItem 10 = .ok (.ifCond .lt 9, 3) := by decide +kernel
theorem dX7_readsItem_13 : decode cX7_readsItem 13 = .ok (.aload_n 0, 1) := by decide +kernel
theorem dX7_readsItem_14 : decode cX7_readsItem 14 = .ok (.iload_n 1, 1) := by decide +kernel
theorem dX7_readsItem_15 : decode cX7_readsItem 15 = .ok (.invokevirtual 251, 3) := by decide +kernel
theorem dX7_readsItem_18 : decode cX7_readsItem 18 = .ok (.ireturn, 1) := by decide +kernel
theorem dX7_readsItem_19 : decode cX7_readsItem 19 = .ok (.aload_n 0, 1) := by decide +kernel
theorem dX7_readsItem_20 : decode cX7_readsItem 20 = .ok (.aload_n 0, 1) := by decide +kernel
theorem dX7_readsItem_21 : decode cX7_readsItem 21 = .ok (.getfield 41, 3) := by decide +kernel
theorem dX7_readsItem_24 : decode cX7_readsItem 24 = .ok (.invokevirtual 244, 3) := by decide +kernel
theorem dX7_readsItem_27 : decode cX7_readsItem 27 = .ok (.istore_n 2, 1) := by decide +kernel
theorem dX7_readsItem_28 : decode cX7_readsItem 28 = .ok (.iload_n 2, 1) := by decide +kernel
theorem dX7_readsItem_29 : decode cX7_readsItem 29 = .ok (.ifCond .ne 8, 3) := by decide +kernel
theorem dX7_readsItem_32 : decode cX7_readsItem 32 = .ok (.aload_n 0, 1) := by decide +kernel
theorem dX7_readsItem_33 : decode cX7_readsItem 33 = .ok (.invokevirtual 254, 3) := by decide +kernel
theorem dX7_readsItem_36 : decode cX7_readsItem 36 = .ok (.ireturn, 1) := by decide +kernel
theorem dX7_readsItem_37 : decode cX7_readsItem 37 = .ok (.iload_n 2, 1) := by decide +kernel
theorem dX7_readsItem_38 : decode cX7_readsItem 38 = .ok (.ifCond .ge 5, 3) := by decide +kernel
theorem dX7_readsItem_41 : decode cX7_readsItem 41 = .ok (.iconst 0, 1) := by decide +kernel
theorem dX7_readsItem_42 : decode cX7_readsItem 42 = .ok (.ireturn, 1) := by decide +kernel
theorem dX7_readsItem_43 : decode cX7_readsItem 43 = .ok (.aload_n 0, 1) := by decide +kernel
theorem dX7_readsItem_44 : decode cX7_readsItem 44 = .ok (.invokevirtual 241, 3) := by decide +kernel
theorem dX7_readsItem_47 : decode cX7_readsItem 47 = .ok (.aload_n 0, 1) := by decide +kernel
theorem dX7_readsItem_48 : decode cX7_readsItem 48 = .ok (.iconst 0, 1) := by decide +kernel
theorem dX7_readsItem_49 : decode cX7_readsItem 49 = .ok (.sipush 999, 3) := by decide +kernel
theorem dX7_readsItem_52 : decode cX7_readsItem 52 = .ok (.invokevirtual 248, 3) := by decide +kernel
theorem dX7_readsItem_55 : decode cX7_readsItem 55 = .ok (.istore_n 3, 1) := by decide +kernel
theorem dX7_readsItem_56 : decode cX7_readsItem 56 = .ok (.aload_n 0, 1) := by decide +kernel
theorem dX7_readsItem_57 : decode cX7_readsItem 57 = .ok (.getfield 9, 3) := by decide +kernel
theorem dX7_readsItem_60 : decode cX7_readsItem 60 = .ok (.iconst 0, 1) := by decide +kernel
theorem dX7_readsItem_61 : decode cX7_readsItem 61 = .ok (.iload_n 3, 1) := by decide +kernel
theorem dX7_readsItem_62 : decode cX7_readsItem 62 = .ok (.ifCond .ge 12, 3) := by decide +kernel
theorem dX7_readsItem_65 : decode cX7_readsItem 65 = .ok (.aload_n 0, 1) := by decide +kernel
theorem dX7_readsItem_66 : decode cX7_readsItem 66 = .ok (.getfield 9, 3) := by decide +kernel
theorem dX7_readsItem_69 : decode cX7_readsItem 69 = .ok (.iconst 0, 1) := by decide +kernel
theorem dX7_readsItem_70 : decode cX7_readsItem 70 = .ok (.iaload, 1) := by decide +kernel
theorem dX7_readsItem_71 : decode cX7_readsItem 71 = .ok (.goto 4, 3) := by decide +kernel
theorem dX7_readsItem_74 : decode cX7_readsItem 74 = .ok (.iload_n 3, 1) := by decide +kernel
theorem dX7_readsItem_75 : decode cX7_readsItem 75 = .ok (.iastore, 1) := by decide +kernel
theorem dX7_readsItem_76 : decode cX7_readsItem 76 = .ok (.iload_n 3, 1) := by decide +kernel
theorem dX7_readsItem_77 : decode cX7_readsItem 77 = .ok (.ifCond .lt 7, 3) := by decide +kernel
theorem dX7_readsItem_80 : decode cX7_readsItem 80 = .ok (.iconst 1, 1) := by decide +kernel
theorem dX7_readsItem_81 : decode cX7_readsItem 81 = .ok (.goto 4, 3) := by decide +kernel
theorem dX7_readsItem_84 : decode cX7_readsItem 84 = .ok (.iconst 0, 1) := by decide +kernel
theorem dX7_readsItem_85 : decode cX7_readsItem 85 = .ok (.ireturn, 1) := by decide +kernel
theorem dX7_text_0 : decode cX7_text 0 = .ok (.aload_n 0, 1) := by decide +kernel
theorem dX7_text_1 : decode cX7_text 1 = .ok (.invokevirtual 152, 3) := by decide +kernel
theorem dX7_text_4 : decode cX7_text 4 = .ok (.aload_n 0, 1) := by decide +kernel
theorem dX7_text_5 : decode cX7_text 5 = .ok (.iconst 0, 1) := by decide +kernel
theorem dX7_text_6 : decode cX7_text 6 = .ok (.putfield 212, 3) := by decide +kernel
theorem dX7_text_9 : decode cX7_text 9 = .ok (.aload_n 0, 1) := by decide +kernel
theorem dX7_text_10 : decode cX7_text 10 = .ok (.invokevirtual 241, 3) := by decide +kernel
theorem dX7_text_13 : decode cX7_text 13 = .ok (.iconst 1, 1) := by decide +kernel
theorem dX7_text_14 : decode cX7_text 14 = .ok (.istore_n 1, 1) := by decide +kernel
theorem dX7_text_15 : decode cX7_text 15 = .ok (.aload_n 0, 1) := by decide +kernel
theorem dX7_text_16 : decode cX7_text 16 = .ok (.invokevirtual 258, 3) := by decide +kernel
theorem dX7_text_19 : decode cX7_text 19 = .ok (.istore_n 2, 1) := by decide +kernel
theorem dX7_text_20 : decode cX7_text 20 = .ok (.iload_n 2, 1) := by decide +kernel
theorem dX7_text_21 : decode cX7_text 21 = .ok (.ifCond .eq 26, 3) := by decide +kernel
theorem dX7_text_24 : decode cX7_text 24 = .ok (.aload_n 0, 1) := by decide +kernel
theorem dX7_text_25 : decode cX7_text 25 = .ok (.getfield 222, 3) := by decide +kernel
theorem dX7_text_28 : decode cX7_text 28 = .ok (.iconst 3, 1) := by decide +kernel
theorem dX7_text_29 : decode cX7_text 29 = .ok (.if_icmp .ne 18, 3) := by decide +kernel
theorem dX7_text_32 : decode cX7_text 32 = .ok (.aload_n 0, 1) := by decide +kernel
theorem dX7_text_33 : decode cX7_text 33 = .ok (.invokevirtual 241, 3) := by decide +kernel
theorem dX7_text_36 : decode cX7_text 36 = .ok (.aload_n 0, 1) := by decide +kernel
theorem dX7_text_37 : decode cX7_text 37 = .ok (.invokevirtual 258, 3) := by decide +kernel
theorem dX7_text_40 : decode cX7_text 40 = .ok (.istore_n 2, 1) := by decide +kernel
theorem dX7_text_41 : decode cX7_text 41 = .ok (.iinc 1 1, 3) := by decide +kernel
theorem dX7_text_44 : decode cX7_text 44 = .ok (.goto (-24), 3) := by decide +kernel
theorem dX7_text_47 : decode cX7_text 47 = .ok (.iload_n 2, 1) := by decide +kernel
theorem dX7_text_48 : decode cX7_text 48 = .ok (.ifCond .eq 14, 3) := by decide +kernel
theorem dX7_text_51 : decode cX7_text 51 = .ok (.aload_n 0, 1) := by decide +kernel
theorem dX7_text_52 : decode cX7_text 52 = .ok (.getfield 222, 3) := by decide +kernel
theorem dX7_text_55 : decode cX7_text 55 = .ok (.ifCond .ne 7, 3) := by decide +kernel
theorem dX7_text_58 : decode cX7_text 58 = .ok (.iconst 1, 1) := by decide +kernel
theorem dX7_text_59 : decode cX7_text 59 = .ok (.goto 4, 3) := by decide +kernel
theorem dX7_text_62 : decode cX7_text 62 = .ok (.iconst 0, 1) := by decide +kernel
theorem dX7_text_63 : decode cX7_text 63 = .ok (.istore_n 2, 1) := by decide +kernel
theorem dX7_text_64 : decode cX7_text 64 = .ok (.aload_n 0, 1) := by decide +kernel
theorem dX7_text_65 : decode cX7_text 65 = .ok (.iconst 0, 1) := by decide +kernel
theorem dX7_text_66 : decode cX7_text 66 = .ok (.putfield 209, 3) := by decide +kernel
theorem dX7_text_69 : decode cX7_text 69 = .ok (.iload_n 2, 1) := by decide +kernel
theorem dX7_text_70 : decode cX7_text 70 = .ok (.ifCond .ne 14, 3) := by decide +kernel
theorem dX7_text_73 : decode cX7_text 73 = .ok (.aload_n 0, 1) := by decide +kernel
theorem dX7_text_74 : decode cX7_text 74 = .ok (.invokevirtual 155, 3) := by decide +kernel
theorem dX7_text_77 : decode cX7_text 77 = .ok (.iconst (-1), 1) := by decide +kernel
theorem dX7_text_78 : decode cX7_text 78 = .ok (.aload_n 0, 1) := by decide +kernel
theorem dX7_text_79 : decode cX7_text 79 = .ok (.getfield 215, 3) := by decide +kernel
theorem dX7_text_82 : decode cX7_text 82 = .ok (.isub, 1) := by decide +kernel
theorem dX7_text_83 : decode cX7_text 83 = .ok (.ireturn, 1) := by decide +kernel
theorem dX7_text_84 : decode cX7_text 84 = .ok (.iload_n 1, 1) := by decide +kernel
theorem dX7_text_85 : decode cX7_text 85 = .ok (.ireturn, 1) := by decide +kernel
theorem dX7_isSpot_0 : decode cX7_isSpot 0 = .ok (.iload_n 0, 1) := by decide +kernel
theorem dX7_isSpot_1 : decode cX7_isSpot 1 = .ok (.iconst 0, 1) := by decide +kernel
theorem dX7_isSpot_2 : decode cX7_isSpot 2 = .ok (.bipush 9, 2) := by decide +kernel
theorem dX7_isSpot_4 : decode cX7_isSpot 4 = .ok (.invokestatic 60, 3) := by decide +kernel
theorem dX7_isSpot_7 : decode cX7_isSpot 7 = .ok (.ireturn, 1) := by decide +kernel
theorem dX7_hold_0 : decode cX7_hold 0 = .ok (.iload_n 1, 1) := by decide +kernel
theorem dX7_hold_1 : decode cX7_hold 1 = .ok (.invokestatic 261, 3) := by decide +kernel
theorem dX7_hold_4 : decode cX7_hold 4 = .ok (.ifCond .eq 16, 3) := by decide +kernel
theorem dX7_hold_7 : decode cX7_hold 7 = .ok (.iload_n 2, 1) := by decide +kernel
theorem dX7_hold_8 : decode cX7_hold 8 = .ok (.iconst (-1), 1) := by decide +kernel
theorem dX7_hold_9 : decode cX7_hold 9 = .ok (.if_icmp .eq 17, 3) := by decide +kernel
theorem dX7_hold_12 : decode cX7_hold 12 = .ok (.aload_n 0, 1) := by decide +kernel
theorem dX7_hold_13 : decode cX7_hold 13 = .ok (.iload_n 2, 1) := by decide +kernel
theorem dX7_hold_14 : decode cX7_hold 14 = .ok (.invokevirtual 120, 3) := by decide +kernel
theorem dX7_hold_17 : decode cX7_hold 17 = .ok (.ifCond .ne 9, 3) := by decide +kernel
theorem dX7_hold_20 : decode cX7_hold 20 = .ok (.aload_n 0, 1) := by decide +kernel
theorem dX7_hold_21 : decode cX7_hold 21 = .ok (.iconst 0, 1) := by decide +kernel
theorem dX7_hold_22 : decode cX7_hold 22 = .ok (.invokevirtual 114, 3) := by decide +kernel
theorem dX7_hold_25 : decode cX7_hold 25 = .ok (.ireturn, 1) := by decide +kernel
theorem dX7_hold_26 : decode cX7_hold 26 = .ok (.aload_n 0, 1) := by decide +kernel
theorem dX7_hold_27 : decode cX7_hold 27 = .ok (.getfield 9, 3) := by decide +kernel
theorem dX7_hold_30 : decode cX7_hold 30 = .ok (.bipush 104, 2) := by decide +kernel
theorem dX7_hold_32 : decode cX7_hold 32 = .ok (.iload_n 1, 1) := by decide +kernel
theorem dX7_hold_33 : decode cX7_hold 33 = .ok (.iadd, 1) := by decide +kernel
theorem dX7_hold_34 : decode cX7_hold 34 = .ok (.iload_n 2, 1) := by decide +kernel
theorem dX7_hold_35 : decode cX7_hold 35 = .ok (.iastore, 1) := by decide +kernel
theorem dX7_hold_36 : decode cX7_hold 36 = .ok (.iconst 1, 1) := by decide +kernel
theorem dX7_hold_37 : decode cX7_hold 37 = .ok (.ireturn, 1) := by decide +kernel
theorem dX7_above_0 : decode cX7_above 0 = .ok (.iload_n 0, 1) := by decide +kernel
theorem dX7_above_1 : decode cX7_above 1 = .ok (.bipush 6, 2) := by decide +kernel
theorem dX7_above_3 : decode cX7_above 3 = .ok (.if_icmp .ne 7, 3) := by decide +kernel
theorem dX7_above_6 : decode cX7_above 6 = .ok (.iconst 5, 1) := by decide +kernel
theorem dX7_above_7 : decode cX7_above 7 = .ok (.goto 22, 3) := by decide +kernel
theorem dX7_above_10 : decode cX7_above 10 = .ok (.iload_n 0, 1) := by decide +kernel
theorem dX7_above_11 : decode cX7_above 11 = .ok (.iconst 4, 1) := by decide +kernel
theorem dX7_above_12 : decode cX7_above 12 = .ok (.if_icmp .ne 7, 3) := by decide +kernel
theorem dX7_above_15 : decode cX7_above 15 = .ok (.iconst 3, 1) := by decide +kernel
theorem dX7_above_16 : decode cX7_above 16 = .ok (.goto 13, 3) := by decide +kernel
theorem dX7_above_19 : decode cX7_above 19 = .ok (.iload_n 0, 1) := by decide +kernel
theorem dX7_above_20 : decode cX7_above 20 = .ok (.iconst 3, 1) := by decide +kernel
theorem dX7_above_21 : decode cX7_above 21 = .ok (.if_icmp .ne 7, 3) := by decide +kernel
theorem dX7_above_24 : decode cX7_above 24 = .ok (.iconst 2, 1) := by decide +kernel
theorem dX7_above_25 : decode cX7_above 25 = .ok (.goto 4, 3) := by decide +kernel
theorem dX7_above_28 : decode cX7_above 28 = .ok (.iconst 0, 1) := by decide +kernel
theorem dX7_above_29 : decode cX7_above 29 = .ok (.ireturn, 1) := by decide +kernel
theorem dX7_as_0 : decode cX7_as 0 = .ok (.iload_n 1, 1) := by decide +kernel
theorem dX7_as_1 : decode cX7_as 1 = .ok (.invokestatic 261, 3) := by decide +kernel
theorem dX7_as_4 : decode cX7_as 4 = .ok (.ifCond .eq 13, 3) := by decide +kernel
theorem dX7_as_7 : decode cX7_as 7 = .ok (.iload_n 2, 1) := by decide +kernel
theorem dX7_as_8 : decode cX7_as 8 = .ok (.iconst 0, 1) := by decide +kernel
theorem dX7_as_9 : decode cX7_as 9 = .ok (.bipush 6, 2) := by decide +kernel
theorem dX7_as_11 : decode cX7_as 11 = .ok (.invokestatic 60, 3) := by decide +kernel
theorem dX7_as_14 : decode cX7_as 14 = .ok (.ifCond .ne 9, 3) := by decide +kernel
theorem dX7_as_17 : decode cX7_as 17 = .ok (.aload_n 0, 1) := by decide +kernel
theorem dX7_as_18 : decode cX7_as 18 = .ok (.iconst 0, 1) := by decide +kernel
theorem dX7_as_19 : decode cX7_as 19 = .ok (.invokevirtual 114, 3) := by decide +kernel
theorem dX7_as_22 : decode cX7_as 22 = .ok (.ireturn, 1) := by decide +kernel
theorem dX7_as_23 : decode cX7_as 23 = .ok (.aload_n 0, 1) := by decide +kernel
theorem dX7_as_24 : decode cX7_as 24 = .ok (.getfield 9, 3) := by decide +kernel
theorem dX7_as_27 : decode cX7_as 27 = .ok (.bipush 104, 2) := by decide +kernel
theorem dX7_as_29 : decode cX7_as 29 = .ok (.iload_n 1, 1) := by decide +kernel
theorem dX7_as_30 : decode cX7_as 30 = .ok (.iadd, 1) := by decide +kernel
theorem dX7_as_31 : decode cX7_as 31 = .ok (.iaload, 1) := by decide +kernel
theorem dX7_as_32 : decode cX7_as 32 = .ok (.istore_n 3, 1) := by decide +kernel
theorem dX7_as_33 : decode cX7_as 33 = .ok (.iload_n 3, 1) := by decide +kernel
theorem dX7_as_34 : decode cX7_as 34 = .ok (.ifCond .ge 9, 3) := by decide +kernel
theorem dX7_as_37 : decode cX7_as 37 = .ok (.aload_n 0, 1) := by decide +kernel
theorem dX7_as_38 : decode cX7_as 38 = .ok (.iconst 5, 1) := by decide +kernel
theorem dX7_as_39 : decode cX7_as 39 = .ok (.invokevirtual 114, 3) := by decide +kernel
theorem dX7_as_42 : decode cX7_as 42 = .ok (.ireturn, 1) := by decide +kernel
theorem dX7_as_43 : decode cX7_as 43 = .ok (.aload_n 0, 1) := by decide +kernel
theorem dX7_as_44 : decode cX7_as 44 = .ok (.iload_n 3, 1) := by decide +kernel
theorem dX7_as_45 : decode cX7_as 45 = .ok (.iconst 0, 1) := by decide +kernel
theorem dX7_as_46 : decode cX7_as 46 = .ok (.invokevirtual 64, 3) := by decide +kernel
theorem dX7_as_49 : decode cX7_as 49 = .ok (.istore 4, 2) := by decide +kernel
theorem dX7_as_51 : decode cX7_as 51 = .ok (.iload 4, 2) := by decide +kernel
theorem dX7_as_53 : decode cX7_as 53 = .ok (.iload_n 2, 1) := by decide +kernel
theorem dX7_as_54 : decode cX7_as 54 = .ok (.if_icmp .eq 18, 3) := by decide +kernel
theorem dX7_as_57 : decode cX7_as 57 = .ok (.iload 4, 2) := by decide +kernel
theorem dX7_as_59 : decode cX7_as 59 = .ok (.ifCond .eq 13, 3) := by decide +kernel
theorem dX7_as_62 : decode cX7_as 62 = .ok (.iload 4, 2) := by decide +kernel
theorem dX7_as_64 : decode cX7_as 64 = .ok (.invokestatic 264, 3) := by decide +kernel
theorem dX7_as_67 : decode cX7_as 67 = .ok (.istore 4, 2) := by decide +kernel
theorem dX7_as_69 : decode cX7_as 69 = .ok (.goto (-18), 3) := by decide +kernel
theorem dX7_as_72 : decode cX7_as 72 = .ok (.iload 4, 2) := by decide +kernel
theorem dX7_as_74 : decode cX7_as 74 = .ok (.iload_n 2, 1) := by decide +kernel
theorem dX7_as_75 : decode cX7_as 75 = .ok (.if_icmp .ne 7, 3) := by decide +kernel
theorem dX7_as_78 : decode cX7_as 78 = .ok (.iload_n 3, 1) := by decide +kernel
theorem dX7_as_79 : decode cX7_as 79 = .ok (.goto 8, 3) := by decide +kernel
theorem dX7_as_82 : decode cX7_as 82 = .ok (.aload_n 0, 1) := by decide +kernel
theorem dX7_as_83 : decode cX7_as 83 = .ok (.iconst 2, 1) := by decide +kernel
theorem dX7_as_84 : decode cX7_as 84 = .ok (.invokevirtual 114, 3) := by decide +kernel
theorem dX7_as_87 : decode cX7_as 87 = .ok (.ireturn, 1) := by decide +kernel
theorem dX7_sheet_0 : decode cX7_sheet 0 = .ok (.iload_n 1, 1) := by decide +kernel
theorem dX7_sheet_1 : decode cX7_sheet 1 = .ok (.invokestatic 196, 3) := by decide +kernel
theorem dX7_sheet_4 : decode cX7_sheet 4 = .ok (.ifCond .eq 25, 3) := by decide +kernel
theorem dX7_sheet_7 : decode cX7_sheet 7 = .ok (.iload_n 2, 1) := by decide +kernel
theorem dX7_sheet_8 : decode cX7_sheet 8 = .ok (.ifCond .eq 27, 3) := by decide +kernel
theorem dX7_sheet_11 : decode cX7_sheet 11 = .ok (.iload_n 2, 1) := by decide +kernel
theorem dX7_sheet_12 : decode cX7_sheet 12 = .ok (.bipush 8, 2) := by decide +kernel
theorem dX7_sheet_14 : decode cX7_sheet 14 = .ok (.if_icmp .eq 21, 3) := by decide +kernel
theorem dX7_sheet_17 : decode cX7_sheet 17 = .ok (.iload_n 2, 1) := by decide +kernel
theorem dX7_sheet_18 : decode cX7_sheet 18 = .ok (.bipush 16, 2) := by decide +kernel
theorem dX7_sheet_20 : decode cX7_sheet 20 = .ok (.if_icmp .eq 15, 3) := by decide +kernel
theorem dX7_sheet_23 : decode cX7_sheet 23 = .ok (.iload_n 2, 1) := by decide +kernel
theorem dX7_sheet_24 : decode cX7_sheet 24 = .ok (.bipush 32, 2) := by decide +kernel
theorem dX7_sheet_26 : decode cX7_sheet 26 = .ok (.if_icmp .eq 9, 3) := by decide +kernel
theorem dX7_sheet_29 : decode cX7_sheet 29 = .ok (.aload_n 0, 1) := by decide +kernel
theorem dX7_sheet_30 : decode cX7_sheet 30 = .ok (.iconst 0, 1) := by decide +kernel
theorem dX7_sheet_31 : decode cX7_sheet 31 = .ok (.invokevirtual 114, 3) := by decide +kernel
theorem dX7_sheet_34 : decode cX7_sheet 34 = .ok (.ireturn, 1) := by decide +kernel
theorem dX7_sheet_35 : decode cX7_sheet 35 = .ok (.iload_n 3, 1) := by decide +kernel
theorem dX7_sheet_36 : decode cX7_sheet 36 = .ok (.ifCond .ge 10, 3) := by decide +kernel
theorem dX7_sheet_39 : decode cX7_sheet 39 = .ok (.aload_n 0, 1) := by decide +kernel
theorem dX7_sheet_40 : decode cX7_sheet 40 = .ok (.bipush 6, 2) := by decide +kernel
theorem dX7_sheet_42 : decode cX7_sheet 42 = .ok (.invokevirtual 114, 3) := by decide +kernel
theorem dX7_sheet_45 : decode cX7_sheet 45 = .ok (.ireturn, 1) := by decide +kernel
theorem dX7_sheet_46 : decode cX7_sheet 46 = .ok (.iload_n 3, 1) := by decide +kernel
theorem dX7_sheet_47 : decode cX7_sheet 47 = .ok (.bipush 40, 2) := by decide +kernel
theorem dX7_sheet_49 : decode cX7_sheet 49 = .ok (.if_icmp .le 9, 3) := by decide +kernel
theorem dX7_sheet_52 : decode cX7_sheet 52 = .ok (.aload_n 0, 1) := by decide +kernel
theorem dX7_sheet_53 : decode cX7_sheet 53 = .ok (.iconst 0, 1) := by decide +kernel
theorem dX7_sheet_54 : decode cX7_sheet 54 = .ok (.invokevirtual 114, 3) := by decide +kernel
theorem dX7_sheet_57 : decode cX7_sheet 57 = .ok (.ireturn, 1) := by decide +kernel
theorem dX7_sheet_58 : decode cX7_sheet 58 = .ok (.aload_n 0, 1) := by decide +kernel
theorem dX7_sheet_59 : decode cX7_sheet 59 = .ok (.getfield 47, 3) := by decide +kernel
theorem dX7_sheet_62 : decode cX7_sheet 62 = .ok (.iload_n 1, 1) := by decide +kernel
theorem dX7_sheet_63 : decode cX7_sheet 63 = .ok (.iload_n 2, 1) := by decide +kernel
theorem dX7_sheet_64 : decode cX7_sheet 64 = .ok (.iastore, 1) := by decide +kernel
theorem dX7_sheet_65 : decode cX7_sheet 65 = .ok (.aload_n 0, 1) := by decide +kernel
theorem dX7_sheet_66 : decode cX7_sheet 66 = .ok (.getfield 50, 3) := by decide +kernel
theorem dX7_sheet_69 : decode cX7_sheet 69 = .ok (.iload_n 1, 1) := by decide +kernel
theorem dX7_sheet_70 : decode cX7_sheet 70 = .ok (.iload_n 2, 1) := by decide +kernel
theorem dX7_sheet_71 : decode cX7_sheet 71 = .ok (.ifCond .ne 7, 3) := by decide +kernel
theorem dX7_sheet_74 : decode cX7_sheet 74 = .ok (.iconst 0, 1) := by decide +kernel
theorem dX7_sheet_75 : decode cX7_sheet 75 = .ok (.goto 4, 3) := by decide +kernel
theorem dX7_sheet_78 : decode cX7_sheet 78 = .ok (.iload_n 3, 1) := by decide +kernel
theorem dX7_sheet_79 : decode cX7_sheet 79 = .ok (.iastore, 1) := by decide +kernel
theorem dX7_sheet_80 : decode cX7_sheet 80 = .ok (.iconst 0, 1) := by decide +kernel
theorem dX7_sheet_81 : decode cX7_sheet 81 = .ok (.istore 4, 2) := by decide +kernel
theorem dX7_sheet_83 : decode cX7_sheet 83 = .ok (.iload 4, 2) := by decide +kernel
theorem dX7_sheet_85 : decode cX7_sheet 85 = .ok (.bipush 40, 2) := by decide +kernel
theorem dX7_sheet_87 : decode cX7_sheet 87 = .ok (.if_icmp .ge 22, 3) := by decide +kernel
theorem dX7_sheet_90 : decode cX7_sheet 90 = .ok (.aload_n 0, 1) := by decide +kernel
theorem dX7_sheet_91 : decode cX7_sheet 91 = .ok (.getfield 53, 3) := by decide +kernel
theorem dX7_sheet_94 : decode cX7_sheet 94 = .ok (.bipush 40, 2) := by decide +kernel
theorem dX7_sheet_96 : decode cX7_sheet 96 = .ok (.iload_n 1, 1) := by decide +kernel
theorem dX7_sheet_97 : decode cX7_sheet 97 = .ok (.imul, 1) := by decide +kernel
theorem dX7_sheet_98 : decode cX7_sheet 98 = .ok (.iload 4, 2) := by decide +kernel
theorem dX7_sheet_100 : decode cX7_sheet 100 = .ok (.iadd, 1) := by decide +kernel
theorem dX7_sheet_101 : decode cX7_sheet 101 = .ok (.iconst 0, 1) := by decide +kernel
theorem dX7_sheet_102 : decode cX7_sheet 102 = .ok (.iastore, 1) := by decide +kernel
theorem dX7_sheet_103 : decode cX7_sheet 103 = .ok (.iinc 4 1, 3) := by decide +kernel
theorem dX7_sheet_106 : decode cX7_sheet 106 = .ok (.goto (-23), 3) := by decide +kernel
theorem dX7_sheet_109 : decode cX7_sheet 109 = .ok (.aload_n 0, 1) := by decide +kernel
theorem dX7_sheet_110 : decode cX7_sheet 110 = .ok (.getfield 50, 3) := by decide +kernel
theorem dX7_sheet_113 : decode cX7_sheet 113 = .ok (.iload_n 1, 1) := by decide +kernel
theorem dX7_sheet_114 : decode cX7_sheet 114 = .ok (.iaload, 1) := by decide +kernel
theorem dX7_sheet_115 : decode cX7_sheet 115 = .ok (.ireturn, 1) := by decide +kernel
theorem dX7_write_0 : decode cX7_write 0 = .ok (.aload_n 0, 1) := by decide +kernel
theorem dX7_write_1 : decode cX7_write 1 = .ok (.iload_n 1, 1) := by decide +kernel
theorem dX7_write_2 : decode cX7_write 2 = .ok (.invokevirtual 199, 3) := by decide +kernel
theorem dX7_write_5 : decode cX7_write 5 = .ok (.istore 4, 2) := by decide +kernel
theorem dX7_write_7 : decode cX7_write 7 = .ok (.iload 4, 2) := by decide +kernel
theorem dX7_write_9 : decode cX7_write 9 = .ok (.ifCond .ge 22, 3) := by decide +kernel
theorem dX7_write_12 : decode cX7_write 12 = .ok (.iload_n 2, 1) := by decide +kernel
theorem dX7_write_13 : decode cX7_write 13 = .ok (.iconst 0, 1) := by decide +kernel
theorem dX7_write_14 : decode cX7_write 14 = .ok (.aload_n 0, 1) := by decide +kernel
theorem dX7_write_15 : decode cX7_write 15 = .ok (.getfield 50, 3) := by decide +kernel
theorem dX7_write_18 : decode cX7_write 18 = .ok (.iload_n 1, 1) := by decide +kernel
theorem dX7_write_19 : decode cX7_write 19 = .ok (.iaload, 1) := by decide +kernel
theorem dX7_write_20 : decode cX7_write 20 = .ok (.iconst 1, 1) := by decide +kernel
theorem dX7_write_21 : decode cX7_write 21 = .ok (.isub, 1) := by decide +kernel
theorem dX7_write_22 : decode cX7_write 22 = .ok (.invokestatic 60, 3) := by decide +kernel
theorem dX7_write_25 : decode cX7_write 25 = .ok (.ifCond .ne 6, 3) := by decide +kernel
theorem dX7_write_28 : decode cX7_write 28 = .ok (.iconst 0, 1) := by decide +kernel
theorem dX7_write_29 : decode cX7_write 29 = .ok (.istore 4, 2) := by decide +kernel
theorem dX7_write_31 : decode cX7_write 31 = .ok (.iload 4, 2) := by decide +kernel
theorem dX7_write_33 : decode cX7_write 33 = .ok (.ifCond .lt 10, 3) := by decide +kernel
theorem dX7_write_36 : decode cX7_write 36 = .ok (.aload_n 0, 1) := by decide +kernel
theorem dX7_write_37 : decode cX7_write 37 = .ok (.iload 4, 2) := by decide +kernel
theorem dX7_write_39 : decode cX7_write 39 = .ok (.invokevirtual 114, 3) := by decide +kernel
theorem dX7_write_42 : decode cX7_write 42 = .ok (.ireturn, 1) := by decide +kernel
theorem dX7_write_43 : decode cX7_write 43 = .ok (.aload_n 0, 1) := by decide +kernel
theorem dX7_write_44 : decode cX7_write 44 = .ok (.getfield 53, 3) := by decide +kernel
theorem dX7_write_47 : decode cX7_write 47 = .ok (.bipush 40, 2) := by decide +kernel
theorem dX7_write_49 : decode cX7_write 49 = .ok (.iload_n 1, 1) := by decide +kernel
theorem dX7_write_50 : decode cX7_write 50 = .ok (.imul, 1) := by decide +kernel
theorem dX7_write_51 : decode cX7_write 51 = .ok (.iload_n 2, 1) := by decide +kernel
theorem dX7_write_52 : decode cX7_write 52 = .ok (.iadd, 1) := by decide +kernel
theorem dX7_write_53 : decode cX7_write 53 = .ok (.aload_n 0, 1) := by decide +kernel
theorem dX7_write_54 : decode cX7_write 54 = .ok (.getfield 47, 3) := by decide +kernel
theorem dX7_write_57 : decode cX7_write 57 = .ok (.iload_n 1, 1) := by decide +kernel
theorem dX7_write_58 : decode cX7_write 58 = .ok (.iaload, 1) := by decide +kernel
theorem dX7_write_59 : decode cX7_write 59 = .ok (.bipush 8, 2) := by decide +kernel
theorem dX7_write_61 : decode cX7_write 61 = .ok (.if_icmp .ne 8, 3) := by decide +kernel
theorem dX7_write_64 : decode cX7_write 64 = .ok (.iload_n 3, 1) := by decide +kernel
theorem dX7_write_65 : decode cX7_write 65 = .ok (.i2b, 1) := by decide +kernel
theorem dX7_write_66 : decode cX7_write 66 = .ok (.goto 20, 3) := by decide +kernel
theorem dX7_write_69 : decode cX7_write 69 = .ok (.aload_n 0, 1) := by decide +kernel
theorem dX7_write_70 : decode cX7_write 70 = .ok (.getfield 47, 3) := by decide +kernel
theorem dX7_write_73 : decode cX7_write 73 = .ok (.iload_n 1, 1) := by decide +kernel
theorem dX7_write_74 : decode cX7_write 74 = .ok (.iaload, 1) := by decide +kernel
theorem dX7_write_75 : decode cX7_write 75 = .ok (.bipush 16, 2) := by decide +kernel
theorem dX7_write_77 : decode cX7_write 77 = .ok (.if_icmp .ne 8, 3) := by decide +kernel
theorem dX7_write_80 : decode cX7_write 80 = .ok (.iload_n 3, 1) := by decide +kernel
theorem dX7_write_81 : decode cX7_write 81 = .ok (.i2s, 1) := by decide +kernel
theorem dX7_write_82 : decode cX7_write 82 = .ok (.goto 4, 3) := by decide +kernel
theorem dX7_write_85 : decode cX7_write 85 = .ok (.iload_n 3, 1) := by decide +kernel
theorem dX7_write_86 : decode cX7_write 86 = .ok (.iastore, 1) := by decide +kernel
theorem dX7_write_87 : decode cX7_write 87 = .ok (.iconst 1, 1) := by decide +kernel
theorem dX7_write_88 : decode cX7_write 88 = .ok (.ireturn, 1) := by decide +kernel
theorem dX7_copy_0 : decode cX7_copy 0 = .ok (.iload_n 1, 1) := by decide +kernel
theorem dX7_copy_1 : decode cX7_copy 1 = .ok (.invokestatic 196, 3) := by decide +kernel
theorem dX7_copy_4 : decode cX7_copy 4 = .ok (.ifCond .eq 10, 3) := by decide +kernel
theorem dX7_copy_7 : decode cX7_copy 7 = .ok (.iload_n 3, 1) := by decide +kernel
theorem dX7_copy_8 : decode cX7_copy 8 = .ok (.invokestatic 196, 3) := by decide +kernel
theorem dX7_copy_11 : decode cX7_copy 11 = .ok (.ifCond .ne 9, 3) := by decide +kernel
theorem dX7_copy_14 : decode cX7_copy 14 = .ok (.aload_n 0, 1) := by decide +kernel
theorem dX7_copy_15 : decode cX7_copy 15 = .ok (.iconst 0, 1) := by decide +kernel
theorem dX7_copy_16 : decode cX7_copy 16 = .ok (.invokevirtual 114, 3) := by decide +kernel
theorem dX7_copy_19 : decode cX7_copy 19 = .ok (.ireturn, 1) := by decide +kernel
theorem dX7_copy_20 : decode cX7_copy 20 = .ok (.aload_n 0, 1) := by decide +kernel
theorem dX7_copy_21 : decode cX7_copy 21 = .ok (.getfield 47, 3) := by decide +kernel
theorem dX7_copy_24 : decode cX7_copy 24 = .ok (.iload_n 1, 1) := by decide +kernel
theorem dX7_copy_25 : decode cX7_copy 25 = .ok (.iaload, 1) := by decide +kernel
theorem dX7_copy_26 : decode cX7_copy 26 = .ok (.ifCond .eq 12, 3) := by decide +kernel
theorem dX7_copy_29 : decode cX7_copy 29 = .ok (.aload_n 0, 1) := by decide +kernel
theorem dX7_copy_30 : decode cX7_copy 30 = .ok (.getfield 47, 3) := by decide +kernel
theorem dX7_copy_33 : decode cX7_copy 33 = .ok (.iload_n 3, 1) := by decide +kernel
theorem dX7_copy_34 : decode cX7_copy 34 = .ok (.iaload, 1) := by decide +kernel
theorem dX7_copy_35 : decode cX7_copy 35 = .ok (.ifCond .ne 9, 3) := by decide +kernel
theorem dX7_copy_38 : decode cX7_copy 38 = .ok (.aload_n 0, 1) := by decide +kernel
theorem dX7_copy_39 : decode cX7_copy 39 = .ok (.iconst 5, 1) := by decide +kernel
theorem dX7_copy_40 : decode cX7_copy 40 = .ok (.invokevirtual 114, 3) := by decide +kernel
theorem dX7_copy_43 : decode cX7_copy 43 = .ok (.ireturn, 1) := by decide +kernel
theorem dX7_copy_44 : decode cX7_copy 44 = .ok (.aload_n 0, 1) := by decide +kernel
theorem dX7_copy_45 : decode cX7_copy 45 = .ok (.getfield 47, 3) := by decide +kernel
theorem dX7_copy_48 : decode cX7_copy 48 = .ok (.iload_n 1, 1) := by decide +kernel
theorem dX7_copy_49 : decode cX7_copy 49 = .ok (.iaload, 1) := by decide +kernel
theorem dX7_copy_50 : decode cX7_copy 50 = .ok (.aload_n 0, 1) := by decide +kernel
theorem dX7_copy_51 : decode cX7_copy 51 = .ok (.getfield 47, 3) := by decide +kernel
theorem dX7_copy_54 : decode cX7_copy 54 = .ok (.iload_n 3, 1) := by decide +kernel
theorem dX7_copy_55 : decode cX7_copy 55 = .ok (.iaload, 1) := by decide +kernel
theorem dX7_copy_56 : decode cX7_copy 56 = .ok (.if_icmp .eq 9, 3) := by decide +kernel
theorem dX7_copy_59 : decode cX7_copy 59 = .ok (.aload_n 0, 1) := by decide +kernel
theorem dX7_copy_60 : decode cX7_copy 60 = .ok (.iconst 2, 1) := by decide +kernel
theorem dX7_copy_61 : decode cX7_copy 61 = .ok (.invokevirtual 114, 3) := by decide +kernel
theorem dX7_copy_64 : decode cX7_copy 64 = .ok (.ireturn, 1) := by decide +kernel
theorem dX7_copy_65 : decode cX7_copy 65 = .ok (.iload 5, 2) := by decide +kernel
theorem dX7_copy_67 : decode cX7_copy 67 = .ok (.ifCond .lt 39, 3) := by decide +kernel
theorem dX7_copy_70 : decode cX7_copy 70 = .ok (.iload_n 2, 1) := by decide +kernel
theorem dX7_copy_71 : decode cX7_copy 71 = .ok (.ifCond .lt 35, 3) := by decide +kernel
theorem dX7_copy_74 : decode cX7_copy 74 = .ok (.iload 4, 2) := by decide +kernel
theorem dX7_copy_76 : decode cX7_copy 76 = .ok (.ifCond .lt 30, 3) := by decide +kernel
theorem dX7_copy_79 : decode cX7_copy 79 = .ok (.iload_n 2, 1) := by decide +kernel
theorem dX7_copy_80 : decode cX7_copy 80 = .ok (.aload_n 0, 1) := by decide +kernel
theorem dX7_copy_81 : decode cX7_copy 81 = .ok (.getfield 50, 3) := by decide +kernel
theorem dX7_copy_84 : decode cX7_copy 84 = .ok (.iload_n 1, 1) := by decide +kernel
theorem dX7_copy_85 : decode cX7_copy 85 = .ok (.iaload, 1) := by decide +kernel
theorem dX7_copy_86 : decode cX7_copy 86 = .ok (.iload 5, 2) := by decide +kernel
theorem dX7_copy_88 : decode cX7_copy 88 = .ok (.isub, 1) := by decide +kernel
theorem dX7_copy_89 : decode cX7_copy 89 = .ok (.if_icmp .gt 17, 3) := by decide +kernel
theorem dX7_copy_92 : decode cX7_copy 92 = .ok (.iload 4, 2) := by decide +kernel
theorem dX7_copy_94 : decode cX7_copy 94 = .ok (.aload_n 0, 1) := by decide +kernel
theorem dX7_copy_95 : decode cX7_copy 95 = .ok (.getfield 50, 3) := by decide +kernel
theorem dX7_copy_98 : decode cX7_copy 98 = .ok (.iload_n 3, 1) := by decide +kernel
theorem dX7_copy_99 : decode cX7_copy 99 = .ok (.iaload, 1) := by decide +kernel
theorem dX7_copy_100 : decode cX7_copy 100 = .ok (.iload 5, 2) := by decide +kernel
theorem dX7_copy_102 : decode cX7_copy 102 = .ok (.isub, 1) := by decide +kernel
theorem dX7_copy_103 : decode cX7_copy 103 = .ok (.if_icmp .le 9, 3) := by decide +kernel
theorem dX7_copy_106 : decode cX7_copy 106 = .ok (.aload_n 0, 1) := by decide +kernel
theorem dX7_copy_107 : decode cX7_copy 107 = .ok (.iconst 0, 1) := by decide +kernel
theorem dX7_copy_108 : decode cX7_copy 108 = .ok (.invokevirtual 114, 3) := by decide +kernel
theorem dX7_copy_111 : decode cX7_copy 111 = .ok (.ireturn, 1) := by decide +kernel
theorem dX7_copy_112 : decode cX7_copy 112 = .ok (.iconst 0, 1) := by decide +kernel
theorem dX7_copy_113 : decode cX7_copy 113 = .ok (.istore 6, 2) := by decide +kernel
theorem dX7_copy_115 : decode cX7_copy 115 = .ok (.iload 6, 2) := by decide +kernel
theorem dX7_copy_117 : decode cX7_copy 117 = .ok (.iload 5, 2) := by decide +kernel
theorem dX7_copy_119 : decode cX7_copy 119 = .ok (.if_icmp .ge 30, 3) := by decide +kernel
theorem dX7_copy_122 : decode cX7_copy 122 = .ok (.aload_n 0, 1) := by decide +kernel
theorem dX7_copy_123 : decode cX7_copy 123 = .ok (.getfield 56, 3) := by decide +kernel
theorem dX7_copy_126 : decode cX7_copy 126 = .ok (.iload 6, 2) := by decide +kernel
theorem dX7_copy_128 : decode cX7_copy 128 = .ok (.aload_n 0, 1) := by decide +kernel
theorem dX7_copy_129 : decode cX7_copy 129 = .ok (.getfield 53, 3) := by decide +kernel
theorem dX7_copy_132 : decode cX7_copy 132 = .ok (.bipush 40, 2) := by decide +kernel
theorem dX7_copy_134 : decode cX7_copy 134 = .ok (.iload_n 1, 1) := by decide +kernel
theorem dX7_copy_135 : decode cX7_copy 135 = .ok (.imul, 1) := by decide +kernel
theorem dX7_copy_136 : decode cX7_copy 136 = .ok (.iload_n 2, 1) := by decide +kernel
theorem dX7_copy_137 : decode cX7_copy 137 = .ok (.iadd, 1) := by decide +kernel
theorem dX7_copy_138 : decode cX7_copy 138 = .ok (.iload 6, 2) := by decide +kernel
theorem dX7_copy_140 : decode cX7_copy 140 = .ok (.iadd, 1) := by decide +kernel
theorem dX7_copy_141 : decode cX7_copy 141 = .ok (.iaload, 1) := by decide +kernel
theorem dX7_copy_142 : decode cX7_copy 142 = .ok (.iastore, 1) := by decide +kernel
theorem dX7_copy_143 : decode cX7_copy 143 = .ok (.iinc 6 1, 3) := by decide +kernel
theorem dX7_copy_146 : decode cX7_copy 146 = .ok (.goto (-31), 3) := by decide +kernel
theorem dX7_copy_149 : decode cX7_copy 149 = .ok (.iconst 0, 1) := by decide +kernel
theorem dX7_copy_150 : decode cX7_copy 150 = .ok (.istore 6, 2) := by decide +kernel
theorem dX7_copy_152 : decode cX7_copy 152 = .ok (.iload 6, 2) := by decide +kernel
theorem dX7_copy_154 : decode cX7_copy 154 = .ok (.iload 5, 2) := by decide +kernel
theorem dX7_copy_156 : decode cX7_copy 156 = .ok (.if_icmp .ge 31, 3) := by decide +kernel
theorem dX7_copy_159 : decode cX7_copy 159 = .ok (.aload_n 0, 1) := by decide +kernel
theorem dX7_copy_160 : decode cX7_copy 160 = .ok (.getfield 53, 3) := by decide +kernel
theorem dX7_copy_163 : decode cX7_copy 163 = .ok (.bipush 40, 2) := by decide +kernel
theorem dX7_copy_165 : decode cX7_copy 165 = .ok (.iload_n 3, 1) := by decide +kernel
theorem dX7_copy_166 : decode cX7_copy 166 = .ok (.imul, 1) := by decide +kernel
theorem dX7_copy_167 : decode cX7_copy 167 = .ok (.iload 4, 2) := by decide +kernel
theorem dX7_copy_169 : decode cX7_copy 169 = .ok (.iadd, 1) := by decide +kernel
theorem dX7_copy_170 : decode cX7_copy 170 = .ok (.iload 6, 2) := by decide +kernel
theorem dX7_copy_172 : decode cX7_copy 172 = .ok (.iadd, 1) := by decide +kernel
theorem dX7_copy_173 : decode cX7_copy 173 = .ok (.aload_n 0, 1) := by decide +kernel
theorem dX7_copy_174 : decode cX7_copy 174 = .ok (.getfield 56, 3) := by decide +kernel
theorem dX7_copy_177 : decode cX7_copy 177 = .ok (.iload 6, 2) := by decide +kernel
theorem dX7_copy_179 : decode cX7_copy 179 = .ok (.iaload, 1) := by decide +kernel
theorem dX7_copy_180 : decode cX7_copy 180 = .ok (.iastore, 1) := by decide +kernel
theorem dX7_copy_181 : decode cX7_copy 181 = .ok (.iinc 6 1, 3) := by decide +kernel
theorem dX7_copy_184 : decode cX7_copy 184 = .ok (.goto (-32), 3) := by decide +kernel
theorem dX7_copy_187 : decode cX7_copy 187 = .ok (.iload 5, 2) := by decide +kernel
theorem dX7_copy_189 : decode cX7_copy 189 = .ok (.ireturn, 1) := by decide +kernel
theorem dX7_load_0 : decode cX7_load 0 = .ok (.aload_n 0, 1) := by decide +kernel
theorem dX7_load_1 : decode cX7_load 1 = .ok (.iload_n 1, 1) := by decide +kernel
theorem dX7_load_2 : decode cX7_load 2 = .ok (.invokevirtual 199, 3) := by decide +kernel
theorem dX7_load_5 : decode cX7_load 5 = .ok (.istore_n 2, 1) := by decide +kernel
theorem dX7_load_6 : decode cX7_load 6 = .ok (.iload_n 2, 1) := by decide +kernel
theorem dX7_load_7 : decode cX7_load 7 = .ok (.ifCond .lt 9, 3) := by decide +kernel
theorem dX7_load_10 : decode cX7_load 10 = .ok (.aload_n 0, 1) := by decide +kernel
theorem dX7_load_11 : decode cX7_load 11 = .ok (.iload_n 2, 1) := by decide +kernel
theorem dX7_load_12 : decode cX7_load 12 = .ok (.invokevirtual 114, 3) := by decide +kernel
theorem dX7_load_15 : decode cX7_load 15 = .ok (.ireturn, 1) := by decide +kernel
theorem dX7_load_16 : decode cX7_load 16 = .ok (.iconst 0, 1) := by decide +kernel
theorem dX7_load_17 : decode cX7_load 17 = .ok (.istore_n 3, 1) := by decide +kernel
theorem dX7_load_18 : decode cX7_load 18 = .ok (.iload_n 3, 1) := by decide +kernel
theorem dX7_load_19 : decode cX7_load 19 = .ok (.aload_n 0, 1) := by decide +kernel
theorem dX7_load_20 : decode cX7_load 20 = .ok (.getfield 50, 3) := by decide +kernel
theorem dX7_load_23 : decode cX7_load 23 = .ok (.iload_n 1, 1) := by decide +kernel
theorem dX7_load_24 : decode cX7_load 24 = .ok (.iaload, 1) := by decide +kernel
theorem dX7_load_25 : decode cX7_load 25 = .ok (.if_icmp .ge 54, 3) := by decide +kernel
theorem dX7_load_28 : decode cX7_load 28 = .ok (.aload_n 0, 1) := by decide +kernel
theorem dX7_load_29 : decode cX7_load 29 = .ok (.iload_n 3, 1) := by decide +kernel
theorem dX7_load_30 : decode cX7_load 30 = .ok (.invokevirtual 120, 3) := by decide +kernel
theorem dX7_load_33 : decode cX7_load 33 = .ok (.ifCond .eq 46, 3) := by decide +kernel
theorem dX7_load_36 : decode cX7_load 36 = .ok (.aload_n 0, 1) := by decide +kernel
theorem dX7_load_37 : decode cX7_load 37 = .ok (.getfield 53, 3) := by decide +kernel
theorem dX7_load_40 : decode cX7_load 40 = .ok (.bipush 40, 2) := by decide +kernel
theorem dX7_load_42 : decode cX7_load 42 = .ok (.iload_n 1, 1) := by decide +kernel
theorem dX7_load_43 : decode cX7_load 43 = .ok (.imul, 1) := by decide +kernel
theorem dX7_load_44 : decode cX7_load 44 = .ok (.iload_n 3, 1) := by decide +kernel
theorem dX7_load_45 : decode cX7_load 45 = .ok (.iadd, 1) := by decide +kernel
theorem dX7_load_46 : decode cX7_load 46 = .ok (.iaload, 1) := by decide +kernel
theorem dX7_load_47 : decode cX7_load 47 = .ok (.iconst 0, 1) := by decide +kernel
theorem dX7_load_48 : decode cX7_load 48 = .ok (.bipush 99, 2) := by decide +kernel
theorem dX7_load_50 : decode cX7_load 50 = .ok (.invokestatic 60, 3) := by decide +kernel
theorem dX7_load_53 : decode cX7_load 53 = .ok (.ifCond .eq 26, 3) := by decide +kernel
theorem dX7_load_56 : decode cX7_load 56 = .ok (.aload_n 0, 1) := by decide +kernel
theorem dX7_load_57 : decode cX7_load 57 = .ok (.iload_n 3, 1) := by decide +kernel
theorem dX7_load_58 : decode cX7_load 58 = .ok (.iconst 3, 1) := by decide +kernel
theorem dX7_load_59 : decode cX7_load 59 = .ok (.aload_n 0, 1) := by decide +kernel
theorem dX7_load_60 : decode cX7_load 60 = .ok (.getfield 53, 3) := by decide +kernel
theorem dX7_load_63 : decode cX7_load 63 = .ok (.bipush 40, 2) := by decide +kernel
theorem dX7_load_65 : decode cX7_load 65 = .ok (.iload_n 1, 1) := by decide +kernel
theorem dX7_load_66 : decode cX7_load 66 = .ok (.imul, 1) := by decide +kernel
theorem dX7_load_67 : decode cX7_load 67 = .ok (.iload_n 3, 1) := by decide +kernel
theorem dX7_load_68 : decode cX7_load 68 = .ok (.iadd, 1) := by decide +kernel
theorem dX7_load_69 : decode cX7_load 69 = .ok (.iaload, 1) := by decide +kernel
theorem dX7_load_70 : decode cX7_load 70 = .ok (.invokevirtual 100, 3) := by decide +kernel
theorem dX7_load_73 : decode cX7_load 73 = .ok (.iinc 3 1, 3) := by decide +kernel
theorem dX7_load_76 : decode cX7_load 76 = .ok (.goto (-58), 3) := by decide +kernel
theorem dX7_load_79 : decode cX7_load 79 = .ok (.iload_n 3, 1) := by decide +kernel
theorem dX7_load_80 : decode cX7_load 80 = .ok (.ireturn, 1) := by decide +kernel
theorem dX7_judge_0 : decode cX7_judge 0 = .ok (.aload_n 0, 1) := by decide +kernel
theorem dX7_judge_1 : decode cX7_judge 1 = .ok (.iload_n 1, 1) := by decide +kernel
theorem dX7_judge_2 : decode cX7_judge 2 = .ok (.invokevirtual 199, 3) := by decide +kernel
theorem dX7_judge_5 : decode cX7_judge 5 = .ok (.istore_n 2, 1) := by decide +kernel
theorem dX7_judge_6 : decode cX7_judge 6 = .ok (.iload_n 2, 1) := by decide +kernel
theorem dX7_judge_7 : decode cX7_judge 7 = .ok (.ifCond .lt 9, 3) := by decide +kernel
theorem dX7_judge_10 : decode cX7_judge 10 = .ok (.aload_n 0, 1) := by decide +kernel
theorem dX7_judge_11 : decode cX7_judge 11 = .ok (.iload_n 2, 1) := by decide +kernel
theorem dX7_judge_12 : decode cX7_judge 12 = .ok (.invokevirtual 114, 3) := by decide +kernel
theorem dX7_judge_15 : decode cX7_judge 15 = .ok (.ireturn, 1) := by decide +kernel
theorem dX7_judge_16 : decode cX7_judge 16 = .ok (.iconst 1, 1) := by decide +kernel
theorem dX7_judge_17 : decode cX7_judge 17 = .ok (.istore_n 3, 1) := by decide +kernel
theorem dX7_judge_18 : decode cX7_judge 18 = .ok (.iconst 0, 1) := by decide +kernel
theorem dX7_judge_19 : decode cX7_judge 19 = .ok (.istore 4, 2) := by decide +kernel
theorem dX7_judge_21 : decode cX7_judge 21 = .ok (.iload 4, 2) := by decide +kernel
theorem dX7_judge_23 : decode cX7_judge 23 = .ok (.aload_n 0, 1) := by decide +kernel
theorem dX7_judge_24 : decode cX7_judge 24 = .ok (.getfield 50, 3) := by decide +kernel
theorem dX7_judge_27 : decode cX7_judge 27 = .ok (.iload_n 1, 1) := by decide +kernel
theorem dX7_judge_28 : decode cX7_judge 28 = .ok (.iaload, 1) := by decide +kernel
theorem dX7_judge_29 : decode cX7_judge 29 = .ok (.if_icmp .ge 38, 3) := by decide +kernel
theorem dX7_judge_32 : decode cX7_judge 32 = .ok (.iload_n 3, 1) := by decide +kernel
theorem dX7_judge_33 : decode cX7_judge 33 = .ok (.ifCond .eq 26, 3) := by decide +kernel
theorem dX7_judge_36 : decode cX7_judge 36 = .ok (.aload_n 0, 1) := by decide +kernel
theorem dX7_judge_37 : decode cX7_judge 37 = .ok (.aload_n 0, 1) := by decide +kernel
theorem dX7_judge_38 : decode cX7_judge 38 = .ok (.getfield 53, 3) := by decide +kernel
theorem dX7_judge_41 : decode cX7_judge 41 = .ok (.bipush 40, 2) := by decide +kernel
theorem dX7_judge_43 : decode cX7_judge 43 = .ok (.iload_n 1, 1) := by decide +kernel
theorem dX7_judge_44 : decode cX7_judge 44 = .ok (.imul, 1) := by decide +kernel
theorem dX7_judge_45 : decode cX7_judge 45 = .ok (.iload 4, 2) := by decide +kernel
theorem dX7_judge_47 : decode cX7_judge 47 = .ok (.iadd, 1) := by decide +kernel
theorem dX7_judge_48 : decode cX7_judge 48 = .ok (.iaload, 1) := by decide +kernel
theorem dX7_judge_49 : decode cX7_judge 49 = .ok (.invokevirtual 126, 3) := by decide +kernel
theorem dX7_judge_52 : decode cX7_judge 52 = .ok (.ifCond .eq 7, 3) := by decide +kernel
theorem dX7_judge_55 : decode cX7_judge 55 = .ok (.iconst 1, 1) := by decide +kernel
theorem dX7_judge_56 : decode cX7_judge 56 = .ok (.goto 4, 3) := by decide +kernel
theorem dX7_judge_59 : decode cX7_judge 59 = .ok (.iconst 0, 1) := by decide +kernel
theorem dX7_judge_60 : decode cX7_judge 60 = .ok (.istore_n 3, 1) := by decide +kernel
theorem dX7_judge_61 : decode cX7_judge 61 = .ok (.iinc 4 1, 3) := by decide +kernel
theorem dX7_judge_64 : decode cX7_judge 64 = .ok (.goto (-43), 3) := by decide +kernel
theorem dX7_judge_67 : decode cX7_judge 67 = .ok (.iload_n 3, 1) := by decide +kernel
theorem dX7_judge_68 : decode cX7_judge 68 = .ok (.ifCond .ne 9, 3) := by decide +kernel
theorem dX7_judge_71 : decode cX7_judge 71 = .ok (.aload_n 0, 1) := by decide +kernel
theorem dX7_judge_72 : decode cX7_judge 72 = .ok (.iconst 4, 1) := by decide +kernel
theorem dX7_judge_73 : decode cX7_judge 73 = .ok (.invokevirtual 114, 3) := by decide +kernel
theorem dX7_judge_76 : decode cX7_judge 76 = .ok (.ireturn, 1) := by decide +kernel
theorem dX7_judge_77 : decode cX7_judge 77 = .ok (.aload_n 0, 1) := by decide +kernel
theorem dX7_judge_78 : decode cX7_judge 78 = .ok (.invokevirtual 152, 3) := by decide +kernel
theorem dX7_judge_81 : decode cX7_judge 81 = .ok (.iconst 0, 1) := by decide +kernel
theorem dX7_judge_82 : decode cX7_judge 82 = .ok (.istore 4, 2) := by decide +kernel
theorem dX7_judge_84 : decode cX7_judge 84 = .ok (.iconst 0, 1) := by decide +kernel
theorem dX7_judge_85 : decode cX7_judge 85 = .ok (.istore 5, 2) := by decide +kernel
theorem dX7_judge_87 : decode cX7_judge 87 = .ok (.iload 5, 2) := by decide +kernel
theorem dX7_judge_89 : decode cX7_judge 89 = .ok (.aload_n 0, 1) := by decide +kernel
theorem dX7_judge_90 : decode cX7_judge 90 = .ok (.getfield 50, 3) := by decide +kernel
theorem dX7_judge_93 : decode cX7_judge 93 = .ok (.iload_n 1, 1) := by decide +kernel
theorem dX7_judge_94 : decode cX7_judge 94 = .ok (.iaload, 1) := by decide +kernel
theorem dX7_judge_95 : decode cX7_judge 95 = .ok (.if_icmp .ge 38, 3) := by decide +kernel
theorem dX7_judge_98 : decode cX7_judge 98 = .ok (.iload 4, 2) := by decide +kernel
theorem dX7_judge_100 : decode cX7_judge 100 = .ok (.aload_n 0, 1) := by decide +kernel
theorem dX7_judge_101 : decode cX7_judge 101 = .ok (.aload_n 0, 1) := by decide +kernel
theorem dX7_judge_102 : decode cX7_judge 102 = .ok (.getfield 53, 3) := by decide +kernel
theorem dX7_judge_105 : decode cX7_judge 105 = .ok (.bipush 40, 2) := by decide +kernel
theorem dX7_judge_107 : decode cX7_judge 107 = .ok (.iload_n 1, 1) := by decide +kernel
theorem dX7_judge_108 : decode cX7_judge 108 = .ok (.imul, 1) := by decide +kernel
theorem dX7_judge_109 : decode cX7_judge 109 = .ok (.iload 5, 2) := by decide +kernel
theorem dX7_judge_111 : decode cX7_judge 111 = .ok (.iadd, 1) := by decide +kernel
theorem dX7_judge_112 : decode cX7_judge 112 = .ok (.iaload, 1) := by decide +kernel
theorem dX7_judge_113 : decode cX7_judge 113 = .ok (.invokevirtual 136, 3) := by decide +kernel
theorem dX7_judge_116 : decode cX7_judge 116 = .ok (.ifCond .eq 7, 3) := by decide +kernel
theorem dX7_judge_119 : decode cX7_judge 119 = .ok (.iconst 1, 1) := by decide +kernel
theorem dX7_judge_120 : decode cX7_judge 120 = .ok (.goto 4, 3) := by decide +kernel
theorem dX7_judge_123 : decode cX7_judge 123 = .ok (.iconst 0, 1) := by decide +kernel
theorem dX7_judge_124 : decode cX7_judge 124 = .ok (.iadd, 1) := by decide +kernel
theorem dX7_judge_125 : decode cX7_judge 125 = .ok (.istore 4, 2) := by decide +kernel
theorem dX7_judge_127 : decode cX7_judge 127 = .ok (.iinc 5 1, 3) := by decide +kernel
theorem dX7_judge_130 : decode cX7_judge 130 = .ok (.goto (-43), 3) := by decide +kernel
theorem dX7_judge_133 : decode cX7_judge 133 = .ok (.aload_n 0, 1) := by decide +kernel
theorem dX7_judge_134 : decode cX7_judge 134 = .ok (.invokevirtual 155, 3) := by decide +kernel
theorem dX7_judge_137 : decode cX7_judge 137 = .ok (.iload 4, 2) := by decide +kernel
theorem dX7_judge_139 : decode cX7_judge 139 = .ok (.ireturn, 1) := by decide +kernel
theorem dX7_image_0 : decode cX7_image 0 = .ok (.iconst 0, 1) := by decide +kernel
theorem dX7_image_1 : decode cX7_image 1 = .ok (.istore_n 1, 1) := by decide +kernel
theorem dX7_image_2 : decode cX7_image 2 = .ok (.iload_n 1, 1) := by decide +kernel
theorem dX7_image_3 : decode cX7_image 3 = .ok (.bipush 114, 2) := by decide +kernel
theorem dX7_image_5 : decode cX7_image 5 = .ok (.if_icmp .ge 21, 3) := by decide +kernel
theorem dX7_image_8 : decode cX7_image 8 = .ok (.aload_n 0, 1) := by decide +kernel
theorem dX7_image_9 : decode cX7_image 9 = .ok (.getfield 13, 3) := by decide +kernel
theorem dX7_image_12 : decode cX7_image 12 = .ok (.iload_n 1, 1) := by decide +kernel
theorem dX7_image_13 : decode cX7_image 13 = .ok (.aload_n 0, 1) := by decide +kernel
theorem dX7_image_14 : decode cX7_image 14 = .ok (.getfield 9, 3) := by decide +kernel
theorem dX7_image_17 : decode cX7_image 17 = .ok (.iload_n 1, 1) := by decide +kernel
theorem dX7_image_18 : decode cX7_image 18 = .ok (.iaload, 1) := by decide +kernel
theorem dX7_image_19 : decode cX7_image 19 = .ok (.iastore, 1) := by decide +kernel
theorem dX7_image_20 : decode cX7_image 20 = .ok (.iinc 1 1, 3) := by decide +kernel
theorem dX7_image_23 : decode cX7_image 23 = .ok (.goto (-21), 3) := by decide +kernel
theorem dX7_image_26 : decode cX7_image 26 = .ok (.aload_n 0, 1) := by decide +kernel
theorem dX7_image_27 : decode cX7_image 27 = .ok (.iconst 1, 1) := by decide +kernel
theorem dX7_image_28 : decode cX7_image 28 = .ok (.putfield 267, 3) := by decide +kernel
theorem dX7_image_31 : decode cX7_image 31 = .ok (.iconst 1, 1) := by decide +kernel
theorem dX7_image_32 : decode cX7_image 32 = .ok (.ireturn, 1) := by decide +kernel
theorem dX7_undo_0 : decode cX7_undo 0 = .ok (.aload_n 0, 1) := by decide +kernel
theorem dX7_undo_1 : decode cX7_undo 1 = .ok (.getfield 267, 3) := by decide +kernel
theorem dX7_undo_4 : decode cX7_undo 4 = .ok (.ifCond .ne 9, 3) := by decide +kernel
theorem dX7_undo_7 : decode cX7_undo 7 = .ok (.aload_n 0, 1) := by decide +kernel
theorem dX7_undo_8 : decode cX7_undo 8 = .ok (.iconst 3, 1) := by decide +kernel
theorem dX7_undo_9 : decode cX7_undo 9 = .ok (.invokevirtual 114, 3) := by decide +kernel
theorem dX7_undo_12 : decode cX7_undo 12 = .ok (.ireturn, 1) := by decide +kernel
theorem dX7_undo_13 : decode cX7_undo 13 = .ok (.iconst 0, 1) := by decide +kernel
theorem dX7_undo_14 : decode cX7_undo 14 = .ok (.istore_n 1, 1) := by decide +kernel
theorem dX7_undo_15 : decode cX7_undo 15 = .ok (.iload_n 1, 1) := by decide +kernel
theorem dX7_undo_16 : decode cX7_undo 16 = .ok (.bipush 114, 2) := by decide +kernel
theorem dX7_undo_18 : decode cX7_undo 18 = .ok (.if_icmp .ge 21, 3) := by decide +kernel
theorem dX7_undo_21 : decode cX7_undo 21 = .ok (.aload_n 0, 1) := by decide +kernel
theorem dX7_undo_22 : decode cX7_undo 22 = .ok (.getfield 9, 3) := by decide +kernel
theorem dX7_undo_25 : decode cX7_undo 25 = .ok (.iload_n 1, 1) := by decide +kernel
theorem dX7_undo_26 : decode cX7_undo 26 = .ok (.aload_n 0, 1) := by decide +kernel
theorem dX7_undo_27 : decode cX7_undo 27 = .ok (.getfield 13, 3) := by decide +kernel
theorem dX7_undo_30 : decode cX7_undo 30 = .ok (.iload_n 1, 1) := by decide +kernel
theorem dX7_undo_31 : decode cX7_undo 31 = .ok (.iaload, 1) := by decide +kernel
theorem dX7_undo_32 : decode cX7_undo 32 = .ok (.iastore, 1) := by decide +kernel
theorem dX7_undo_33 : decode cX7_undo 33 = .ok (.iinc 1 1, 3) := by decide +kernel
theorem dX7_undo_36 : decode cX7_undo 36 = .ok (.goto (-21), 3) := by decide +kernel
theorem dX7_undo_39 : decode cX7_undo 39 = .ok (.aload_n 0, 1) := by decide +kernel
theorem dX7_undo_40 : decode cX7_undo 40 = .ok (.getfield 9, 3) := by decide +kernel
theorem dX7_undo_43 : decode cX7_undo 43 = .ok (.iconst 0, 1) := by decide +kernel
theorem dX7_undo_44 : decode cX7_undo 44 = .ok (.iaload, 1) := by decide +kernel
theorem dX7_undo_45 : decode cX7_undo 45 = .ok (.ireturn, 1) := by decide +kernel
theorem dX7_tear_0 : decode cX7_tear 0 = .ok (.aload_n 0, 1) := by decide +kernel
theorem dX7_tear_1 : decode cX7_tear 1 = .ok (.getfield 267, 3) := by decide +kernel
theorem dX7_tear_4 : decode cX7_tear 4 = .ok (.ifCond .eq 7, 3) := by decide +kernel
theorem dX7_tear_7 : decode cX7_tear 7 = .ok (.iconst 1, 1) := by decide +kernel
theorem dX7_tear_8 : decode cX7_tear 8 = .ok (.goto 4, 3) := by decide +kernel
theorem dX7_tear_11 : decode cX7_tear 11 = .ok (.iconst 0, 1) := by decide +kernel
theorem dX7_tear_12 : decode cX7_tear 12 = .ok (.istore_n 1, 1) := by decide +kernel
theorem dX7_tear_13 : decode cX7_tear 13 = .ok (.aload_n 0, 1) := by decide +kernel
theorem dX7_tear_14 : decode cX7_tear 14 = .ok (.iconst 0, 1) := by decide +kernel
theorem dX7_tear_15 : decode cX7_tear 15 = .ok (.putfield 267, 3) := by decide +kernel
theorem dX7_tear_18 : decode cX7_tear 18 = .ok (.iload_n 1, 1) := by decide +kernel
theorem dX7_tear_19 : decode cX7_tear 19 = .ok (.ireturn, 1) := by decide +kernel
theorem dX7_count_0 : decode cX7_count 0 = .ok (.iconst 0, 1) := by decide +kernel
theorem dX7_count_1 : decode cX7_count 1 = .ok (.istore_n 2, 1) := by decide +kernel
theorem dX7_count_2 : decode cX7_count 2 = .ok (.iload_n 1, 1) := by decide +kernel
theorem dX7_count_3 : decode cX7_count 3 = .ok (.tableswitch 127 0 7 #[45, 52, 59, 66, 74, 79, 84, 91], 45) := by decide +kernel
theorem dX7_count_48 : decode cX7_count 48 = .ok (.aload_n 0, 1) := by decide +kernel
theorem dX7_count_49 : decode cX7_count 49 = .ok (.getfield 9, 3) := by decide +kernel
theorem dX7_count_52 : decode cX7_count 52 = .ok (.iconst 0, 1) := by decide +kernel
theorem dX7_count_53 : decode cX7_count 53 = .ok (.iaload, 1) := by decide +kernel
theorem dX7_count_54 : decode cX7_count 54 = .ok (.ireturn, 1) := by decide +kernel
theorem dX7_count_55 : decode cX7_count 55 = .ok (.aload_n 0, 1) := by decide +kernel
theorem dX7_count_56 : decode cX7_count 56 = .ok (.getfield 9, 3) := by decide +kernel
theorem dX7_count_59 : decode cX7_count 59 = .ok (.iconst 1, 1) := by decide +kernel
theorem dX7_count_60 : decode cX7_count 60 = .ok (.iaload, 1) := by decide +kernel
theorem dX7_count_61 : decode cX7_count 61 = .ok (.ireturn, 1) := by decide +kernel
theorem dX7_count_62 : decode cX7_count 62 = .ok (.aload_n 0, 1) := by decide +kernel
theorem dX7_count_63 : decode cX7_count 63 = .ok (.getfield 9, 3) := by decide +kernel
theorem dX7_count_66 : decode cX7_count 66 = .ok (.iconst 2, 1) := by decide +kernel
theorem dX7_count_67 : decode cX7_count 67 = .ok (.iaload, 1) := by decide +kernel
theorem dX7_count_68 : decode cX7_count 68 = .ok (.ireturn, 1) := by decide +kernel
theorem dX7_count_69 : decode cX7_count 69 = .ok (.aload_n 0, 1) := by decide +kernel
theorem dX7_count_70 : decode cX7_count 70 = .ok (.invokevirtual 146, 3) := by decide +kernel
theorem dX7_count_73 : decode cX7_count 73 = .ok (.invokestatic 158, 3) := by decide +kernel
theorem dX7_count_76 : decode cX7_count 76 = .ok (.ireturn, 1) := by decide +kernel
theorem dX7_count_77 : decode cX7_count 77 = .ok (.aload_n 0, 1) := by decide +kernel
theorem dX7_count_78 : decode cX7_count 78 = .ok (.invokevirtual 143, 3) := by decide +kernel
theorem dX7_count_81 : decode cX7_count 81 = .ok (.ireturn, 1) := by decide +kernel
theorem dX7_count_82 : decode cX7_count 82 = .ok (.aload_n 0, 1) := by decide +kernel
theorem dX7_count_83 : decode cX7_count 83 = .ok (.getfield 209, 3) := by decide +kernel
theorem dX7_count_86 : decode cX7_count 86 = .ok (.ireturn, 1) := by decide +kernel
theorem dX7_count_87 : decode cX7_count 87 = .ok (.aload_n 0, 1) := by decide +kernel
theorem dX7_count_88 : decode cX7_count 88 = .ok (.getfield 9, 3) := by decide +kernel
theorem dX7_count_91 : decode cX7_count 91 = .ok (.iconst 3, 1) := by decide +kernel
theorem dX7_count_92 : decode cX7_count 92 = .ok (.iaload, 1) := by decide +kernel
theorem dX7_count_93 : decode cX7_count 93 = .ok (.ireturn, 1) := by decide +kernel
theorem dX7_count_94 : decode cX7_count 94 = .ok (.iconst 0, 1) := by decide +kernel
theorem dX7_count_95 : decode cX7_count 95 = .ok (.istore_n 3, 1) := by decide +kernel
theorem dX7_count_96 : decode cX7_count 96 = .ok (.iload_n 3, 1) := by decide +kernel
theorem dX7_count_97 : decode cX7_count 97 = .ok (.bipush 10, 2) := by decide +kernel
theorem dX7_count_99 : decode cX7_count 99 = .ok (.if_icmp .ge 29, 3) := by decide +kernel
theorem dX7_count_102 : decode cX7_count 102 = .ok (.iload_n 2, 1) := by decide +kernel
theorem dX7_count_103 : decode cX7_count 103 = .ok (.aload_n 0, 1) := by decide +kernel
theorem dX7_count_104 : decode cX7_count 104 = .ok (.getfield 9, 3) := by decide +kernel
theorem dX7_count_107 : decode cX7_count 107 = .ok (.bipush 104, 2) := by decide +kernel
theorem dX7_count_109 : decode cX7_count 109 = .ok (.iload_n 3, 1) := by decide +kernel
theorem dX7_count_110 : decode cX7_count 110 = .ok (.iadd, 1) := by decide +kernel
theorem dX7_count_111 : decode cX7_count 111 = .ok (.iaload, 1) := by decide +kernel
theorem dX7_count_112 : decode cX7_count 112 = .ok (.ifCond .lt 7, 3) := by decide +kernel
theorem dX7_count_115 : decode cX7_count 115 = .ok (.iconst 1, 1) := by decide +kernel
theorem dX7_count_116 : decode cX7_count 116 = .ok (.goto 4, 3) := by decide +kernel
theorem dX7_count_119 : decode cX7_count 119 = .ok (.iconst 0, 1) := by decide +kernel
theorem dX7_count_120 : decode cX7_count 120 = .ok (.iadd, 1) := by decide +kernel
theorem dX7_count_121 : decode cX7_count 121 = .ok (.istore_n 2, 1) := by decide +kernel
theorem dX7_count_122 : decode cX7_count 122 = .ok (.iinc 3 1, 3) := by decide +kernel
theorem dX7_count_125 : decode cX7_count 125 = .ok (.goto (-29), 3) := by decide +kernel
theorem dX7_count_128 : decode cX7_count 128 = .ok (.iload_n 2, 1) := by decide +kernel
theorem dX7_count_129 : decode cX7_count 129 = .ok (.ireturn, 1) := by decide +kernel
theorem dX7_count_130 : decode cX7_count 130 = .ok (.aload_n 0, 1) := by decide +kernel
theorem dX7_count_131 : decode cX7_count 131 = .ok (.iconst 0, 1) := by decide +kernel
theorem dX7_count_132 : decode cX7_count 132 = .ok (.invokevirtual 114, 3) := by decide +kernel
theorem dX7_count_135 : decode cX7_count 135 = .ok (.ireturn, 1) := by decide +kernel
theorem dX7_status_0 : decode cX7_status 0 = .ok (.iload_n 1, 1) := by decide +kernel
theorem dX7_status_1 : decode cX7_status 1 = .ok (.iconst (-1), 1) := by decide +kernel
theorem dX7_status_2 : decode cX7_status 2 = .ok (.bipush 6, 2) := by decide +kernel
theorem dX7_status_4 : decode cX7_status 4 = .ok (.invokestatic 60, 3) := by decide +kernel
theorem dX7_status_7 : decode cX7_status 7 = .ok (.ifCond .ne 9, 3) := by decide +kernel
theorem dX7_status_10 : decode cX7_status 10 = .ok (.aload_n 0, 1) := by decide +kernel
theorem dX7_status_11 : decode cX7_status 11 = .ok (.iconst 0, 1) := by decide +kernel
theorem dX7_status_12 : decode cX7_status 12 = .ok (.invokevirtual 114, 3) := by decide +kernel
theorem dX7_status_15 : decode cX7_status 15 = .ok (.ireturn, 1) := by decide +kernel
theorem dX7_status_16 : decode cX7_status 16 = .ok (.iconst 0, 1) := by decide +kernel
theorem dX7_status_17 : decode cX7_status 17 = .ok (.istore_n 2, 1) := by decide +kernel
theorem dX7_status_18 : decode cX7_status 18 = .ok (.iconst 0, 1) := by decide +kernel
theorem dX7_status_19 : decode cX7_status 19 = .ok (.istore_n 3, 1) := by decide +kernel
theorem dX7_status_20 : decode cX7_status 20 = .ok (.iload_n 3, 1) := by decide +kernel
theorem dX7_status_21 : decode cX7_status 21 = .ok (.bipush 7, 2) := by decide +kernel
theorem dX7_status_23 : decode cX7_status 23 = .ok (.if_icmp .ge 32, 3) := by decide +kernel
theorem dX7_status_26 : decode cX7_status 26 = .ok (.iload_n 2, 1) := by decide +kernel
theorem dX7_status_27 : decode cX7_status 27 = .ok (.iload_n 1, 1) := by decide +kernel
theorem dX7_status_28 : decode cX7_status 28 = .ok (.iconst (-1), 1) := by decide +kernel
theorem dX7_status_29 : decode cX7_status 29 = .ok (.if_icmp .eq 8, 3) := by decide +kernel
theorem dX7_status_32 : decode cX7_status 32 = .ok (.iload_n 1, 1) := by decide +kernel
theorem dX7_status_33 : decode cX7_status 33 = .ok (.iload_n 3, 1) := by decide +kernel
theorem dX7_status_34 : decode cX7_status 34 = .ok (.if_icmp .ne 12, 3) := by decide +kernel
theorem dX7_status_37 : decode cX7_status 37 = .ok (.aload_n 0, 1) := by decide +kernel
theorem dX7_status_38 : decode cX7_status 38 = .ok (.getfield 19, 3) := by decide +kernel
theorem dX7_status_41 : decode cX7_status 41 = .ok (.iload_n 3, 1) := by decide +kernel
theorem dX7_status_42 : decode cX7_status 42 = .ok (.iaload, 1) := by decide +kernel
theorem dX7_status_43 : decode cX7_status 43 = .ok (.goto 4, 3) := by decide +kernel
theorem dX7_status_46 : decode cX7_status 46 = .ok (.iconst 0, 1) := by decide +kernel
theorem dX7_status_47 : decode cX7_status 47 = .ok (.iadd, 1) := by decide +kernel
theorem dX7_status_48 : decode cX7_status 48 = .ok (.istore_n 2, 1) := by decide +kernel
theorem dX7_status_49 : decode cX7_status 49 = .ok (.iinc 3 1, 3) := by decide +kernel
theorem dX7_status_52 : decode cX7_status 52 = .ok (.goto (-32), 3) := by decide +kernel
theorem dX7_status_55 : decode cX7_status 55 = .ok (.iload_n 2, 1) := by decide +kernel
theorem dX7_status_56 : decode cX7_status 56 = .ok (.ireturn, 1) := by decide +kernel
end
section
theorem dJ6_bitCount_0f7a4_0 : decode cJ6_bitCount_0f7a4 0 = .ok (.iload_n 0, 1) := by decide +kernel
theorem dJ6_bitCount_0f7a4_1 : decode cJ6_bitCount_0f7a4 1 = .ok (.iload_n 0, 1) := by decide +kernel
theorem dJ6_bitCount_0f7a4_2 : decode cJ6_bitCount_0f7a4 2 = .ok (.iconst 1, 1) := by decide +kernel
theorem dJ6_bitCount_0f7a4_3 : decode cJ6_bitCount_0f7a4 3 = .ok (.iushr, 1) := by decide +kernel
theorem dJ6_bitCount_0f7a4_4 : decode cJ6_bitCount_0f7a4 4 = .ok (.ldc_w 265, 3) := by decide +kernel
theorem dJ6_bitCount_0f7a4_7 : decode cJ6_bitCount_0f7a4 7 = .ok (.iand, 1) := by decide +kernel
theorem dJ6_bitCount_0f7a4_8 : decode cJ6_bitCount_0f7a4 8 = .ok (.isub, 1) := by decide +kernel
theorem dJ6_bitCount_0f7a4_9 : decode cJ6_bitCount_0f7a4 9 = .ok (.istore_n 0, 1) := by decide +kernel
theorem dJ6_bitCount_0f7a4_10 : decode cJ6_bitCount_0f7a4 10 = .ok (.iload_n 0, 1) := by decide +kernel
theorem dJ6_bitCount_0f7a4_11 : decode cJ6_bitCount_0f7a4 11 = .ok (.ldc_w 266, 3) := by decide +kernel
theorem dJ6_bitCount_0f7a4_14 : decode cJ6_bitCount_0f7a4 14 = .ok (.iand, 1) := by decide +kernel
theorem dJ6_bitCount_0f7a4_15 : decode cJ6_bitCount_0f7a4 15 = .ok (.iload_n 0, 1) := by decide +kernel
theorem dJ6_bitCount_0f7a4_16 : decode cJ6_bitCount_0f7a4 16 = .ok (.iconst 2, 1) := by decide +kernel
theorem dJ6_bitCount_0f7a4_17 : decode cJ6_bitCount_0f7a4 17 = .ok (.iushr, 1) := by decide +kernel
theorem dJ6_bitCount_0f7a4_18 : decode cJ6_bitCount_0f7a4 18 = .ok (.ldc_w 266, 3) := by decide +kernel
theorem dJ6_bitCount_0f7a4_21 : decode cJ6_bitCount_0f7a4 21 = .ok (.iand, 1) := by decide +kernel
theorem dJ6_bitCount_0f7a4_22 : decode cJ6_bitCount_0f7a4 22 = .ok (.iadd, 1) := by decide +kernel
theorem dJ6_bitCount_0f7a4_23 : decode cJ6_bitCount_0f7a4 23 = .ok (.istore_n 0, 1) := by decide +kernel
theorem dJ6_bitCount_0f7a4_24 : decode cJ6_bitCount_0f7a4 24 = .ok (.iload_n 0, 1) := by decide +kernel
theorem dJ6_bitCount_0f7a4_25 : decode cJ6_bitCount_0f7a4 25 = .ok (.iload_n 0, 1) := by decide +kernel
theorem dJ6_bitCount_0f7a4_26 : decode cJ6_bitCount_0f7a4 26 = .ok (.iconst 4, 1) := by decide +kernel
theorem dJ6_bitCount_0f7a4_27 : decode cJ6_bitCount_0f7a4 27 = .ok (.iushr, 1) := by decide +kernel
theorem dJ6_bitCount_0f7a4_28 : decode cJ6_bitCount_0f7a4 28 = .ok (.iadd, 1) := by decide +kernel
theorem dJ6_bitCount_0f7a4_29 : decode cJ6_bitCount_0f7a4 29 = .ok (.ldc_w 267, 3) := by decide +kernel
theorem dJ6_bitCount_0f7a4_32 : decode cJ6_bitCount_0f7a4 32 = .ok (.iand, 1) := by decide +kernel
theorem dJ6_bitCount_0f7a4_33 : decode cJ6_bitCount_0f7a4 33 = .ok (.istore_n 0, 1) := by decide +kernel
theorem dJ6_bitCount_0f7a4_34 : decode cJ6_bitCount_0f7a4 34 = .ok (.iload_n 0, 1) := by decide +kernel
theorem dJ6_bitCount_0f7a4_35 : decode cJ6_bitCount_0f7a4 35 = .ok (.iload_n 0, 1) := by decide +kernel
theorem dJ6_bitCount_0f7a4_36 : decode cJ6_bitCount_0f7a4 36 = .ok (.bipush 8, 2) := by decide +kernel
theorem dJ6_bitCount_0f7a4_38 : decode cJ6_bitCount_0f7a4 38 = .ok (.iushr, 1) := by decide +kernel
theorem dJ6_bitCount_0f7a4_39 : decode cJ6_bitCount_0f7a4 39 = .ok (.iadd, 1) := by decide +kernel
theorem dJ6_bitCount_0f7a4_40 : decode cJ6_bitCount_0f7a4 40 = .ok (.istore_n 0, 1) := by decide +kernel
theorem dJ6_bitCount_0f7a4_41 : decode cJ6_bitCount_0f7a4 41 = .ok (.iload_n 0, 1) := by decide +kernel
theorem dJ6_bitCount_0f7a4_42 : decode cJ6_bitCount_0f7a4 42 = .ok (.iload_n 0, 1) := by decide +kernel
theorem dJ6_bitCount_0f7a4_43 : decode cJ6_bitCount_0f7a4 43 = .ok (.bipush 16, 2) := by decide +kernel
theorem dJ6_bitCount_0f7a4_45 : decode cJ6_bitCount_0f7a4 45 = .ok (.iushr, 1) := by decide +kernel
theorem dJ6_bitCount_0f7a4_46 : decode cJ6_bitCount_0f7a4 46 = .ok (.iadd, 1) := by decide +kernel
theorem dJ6_bitCount_0f7a4_47 : decode cJ6_bitCount_0f7a4 47 = .ok (.istore_n 0, 1) := by decide +kernel
theorem dJ6_bitCount_0f7a4_48 : decode cJ6_bitCount_0f7a4 48 = .ok (.iload_n 0, 1) := by decide +kernel
theorem dJ6_bitCount_0f7a4_49 : decode cJ6_bitCount_0f7a4 49 = .ok (.bipush 63, 2) := by decide +kernel
theorem dJ6_bitCount_0f7a4_51 : decode cJ6_bitCount_0f7a4 51 = .ok (.iand, 1) := by decide +kernel
theorem dJ6_bitCount_0f7a4_52 : decode cJ6_bitCount_0f7a4 52 = .ok (.ireturn, 1) := by decide +kernel
theorem dJ9_max_7cf53_0 : decode cJ9_max_7cf53 0 = .ok (.iload_n 0, 1) := by decide +kernel
theorem dJ9_max_7cf53_1 : decode cJ9_max_7cf53 1 = .ok (.iload_n 1, 1) := by decide +kernel
theorem dJ9_max_7cf53_2 : decode cJ9_max_7cf53 2 = .ok (.if_icmp .lt 7, 3) := by decide +kernel
theorem dJ9_max_7cf53_5 : decode cJ9_max_7cf53 5 = .ok (.iload_n 0, 1) := by decide +kernel
theorem dJ9_max_7cf53_6 : decode cJ9_max_7cf53 6 = .ok (.goto 4, 3) := by decide +kernel
theorem dJ9_max_7cf53_9 : decode cJ9_max_7cf53 9 = .ok (.iload_n 1, 1) := by decide +kernel
theorem dJ9_max_7cf53_10 : decode cJ9_max_7cf53 10 = .ok (.ireturn, 1) := by decide +kernel
theorem dJ9_min_7cf53_0 : decode cJ9_min_7cf53 0 = .ok (.iload_n 0, 1) := by decide +kernel
theorem dJ9_min_7cf53_1 : decode cJ9_min_7cf53 1 = .ok (.iload_n 1, 1) := by decide +kernel
theorem dJ9_min_7cf53_2 : decode cJ9_min_7cf53 2 = .ok (.if_icmp .gt 7, 3) := by decide +kernel
theorem dJ9_min_7cf53_5 : decode cJ9_min_7cf53 5 = .ok (.iload_n 0, 1) := by decide +kernel
theorem dJ9_min_7cf53_6 : decode cJ9_min_7cf53 6 = .ok (.goto 4, 3) := by decide +kernel
theorem dJ9_min_7cf53_9 : decode cJ9_min_7cf53 9 = .ok (.iload_n 1, 1) := by decide +kernel
theorem dJ9_min_7cf53_10 : decode cJ9_min_7cf53 10 = .ok (.ireturn, 1) := by decide +kernel
theorem dJ0_length_8abf5_0 : decode cJ0_length_8abf5 0 = .ok (.aload_n 0, 1) := by decide +kernel
theorem dJ0_length_8abf5_1 : decode cJ0_length_8abf5 1 = .ok (.getfield 9, 3) := by decide +kernel
theorem dJ0_length_8abf5_4 : decode cJ0_length_8abf5 4 = .ok (.arraylength, 1) := by decide +kernel
theorem dJ0_length_8abf5_5 : decode cJ0_length_8abf5 5 = .ok (.aload_n 0, 1) := by decide +kernel
theorem dJ0_length_8abf5_6 : decode cJ0_length_8abf5 6 = .ok (.invokevirtual 335, 3) := by decide +kernel
theorem dJ0_length_8abf5_9 : decode cJ0_length_8abf5 9 = .ok (.ishr, 1) := by decide +kernel
theorem dJ0_length_8abf5_10 : decode cJ0_length_8abf5 10 = .ok (.ireturn, 1) := by decide +kernel
theorem dJ0_charAt_5068e_0 : decode cJ0_charAt_5068e 0 = .ok (.aload_n 0, 1) := by decide +kernel
theorem dJ0_charAt_5068e_1 : decode cJ0_charAt_5068e 1 = .ok (.invokevirtual 492, 3) := by decide +kernel
theorem dJ0_charAt_5068e_4 : decode cJ0_charAt_5068e 4 = .ok (.ifCond .eq 12, 3) := by decide +kernel
theorem dJ0_charAt_5068e_7 : decode cJ0_charAt_5068e 7 = .ok (.aload_n 0, 1) := by decide +kernel
theorem dJ0_charAt_5068e_8 : decode cJ0_charAt_5068e 8 = .ok (.getfield 9, 3) := by decide +kernel
theorem dJ0_charAt_5068e_11 : decode cJ0_charAt_5068e 11 = .ok (.iload_n 1, 1) := by decide +kernel
theorem dJ0_charAt_5068e_12 : decode cJ0_charAt_5068e 12 = .ok (.invokestatic 495, 3) := by decide +kernel
theorem dJ0_charAt_5068e_15 : decode cJ0_charAt_5068e 15 = .ok (.ireturn, 1) := by decide +kernel
theorem dJ0_charAt_5068e_16 : decode cJ0_charAt_5068e 16 = .ok (.aload_n 0, 1) := by decide +kernel
theorem dJ0_charAt_5068e_17 : decode cJ0_charAt_5068e 17 = .ok (.getfield 9, 3) := by decide +kernel
theorem dJ0_charAt_5068e_20 : decode cJ0_charAt_5068e 20 = .ok (.iload_n 1, 1) := by decide +kernel
theorem dJ0_charAt_5068e_21 : decode cJ0_charAt_5068e 21 = .ok (.invokestatic 498, 3) := by decide +kernel
theorem dJ0_charAt_5068e_24 : decode cJ0_charAt_5068e 24 = .ok (.ireturn, 1) := by decide +kernel
theorem dJ0_coder_7d493_0 : decode cJ0_coder_7d493 0 = .ok (.getstatic 38, 3) := by decide +kernel
theorem dJ0_coder_7d493_3 : decode cJ0_coder_7d493 3 = .ok (.ifCond .eq 10, 3) := by decide +kernel
theorem dJ0_coder_7d493_6 : decode cJ0_coder_7d493 6 = .ok (.aload_n 0, 1) := by decide +kernel
theorem dJ0_coder_7d493_7 : decode cJ0_coder_7d493 7 = .ok (.getfield 15, 3) := by decide +kernel
theorem dJ0_coder_7d493_10 : decode cJ0_coder_7d493 10 = .ok (.goto 4, 3) := by decide +kernel
theorem dJ0_coder_7d493_13 : decode cJ0_coder_7d493 13 = .ok (.iconst 1, 1) := by decide +kernel
theorem dJ0_coder_7d493_14 : decode cJ0_coder_7d493 14 = .ok (.ireturn, 1) := by decide +kernel
theorem dJ0_isLatin1_aae02_0 : decode cJ0_isLatin1_aae02 0 = .ok (.getstatic 38, 3) := by decide +kernel
theorem dJ0_isLatin1_aae02_3 : decode cJ0_isLatin1_aae02 3 = .ok (.ifCond .eq 14, 3) := by decide +kernel
theorem dJ0_isLatin1_aae02_6 : decode cJ0_isLatin1_aae02 6 = .ok (.aload_n 0, 1) := by decide +kernel
theorem dJ0_isLatin1_aae02_7 : decode cJ0_isLatin1_aae02 7 = .ok (.getfield 15, 3) := by decide +kernel
theorem dJ0_isLatin1_aae02_10 : decode cJ0_isLatin1_aae02 10 = .ok (.ifCond .ne 7, 3) := by decide +kernel
theorem dJ0_isLatin1_aae02_13 : decode cJ0_isLatin1_aae02 13 = .ok (.iconst 1, 1) := by decide +kernel
theorem dJ0_isLatin1_aae02_14 : decode cJ0_isLatin1_aae02 14 = .ok (.goto 4, 3) := by decide +kernel
theorem dJ0_isLatin1_aae02_17 : decode cJ0_isLatin1_aae02 17 = .ok (.iconst 0, 1) := by decide +kernel
theorem dJ0_isLatin1_aae02_18 : decode cJ0_isLatin1_aae02 18 = .ok (.ireturn, 1) := by decide +kernel
theorem dJ0_checkIndex_df160_0 : decode cJ0_checkIndex_df160 0 = .ok (.iload_n 0, 1) := by decide +kernel
theorem dJ0_checkIndex_df160_1 : decode cJ0_checkIndex_df160 1 = .ok (.iload_n 1, 1) := by decide +kernel
theorem dJ0_checkIndex_df160_2 : decode cJ0_checkIndex_df160 2 = .ok (.getstatic 1053, 3) := by decide +kernel
theorem dJ0_checkIndex_df160_5 : decode cJ0_checkIndex_df160 5 = .ok (.invokestatic 1059, 3) := by decide +kernel
theorem dJ0_checkIndex_df160_8 : decode cJ0_checkIndex_df160 8 = .ok (.pop, 1) := by decide +kernel
theorem dJ0_checkIndex_df160_9 : decode cJ0_checkIndex_df160 9 = .ok (.return_, 1) := by decide +kernel
theorem dJ1_charAt_3b067_0 : decode cJ1_charAt_3b067 0 = .ok (.iload_n 1, 1) := by decide +kernel
theorem dJ1_charAt_3b067_1 : decode cJ1_charAt_3b067 1 = .ok (.aload_n 0, 1) := by decide +kernel
theorem dJ1_charAt_3b067_2 : decode cJ1_charAt_3b067 2 = .ok (.arraylength, 1) := by decide +kernel
theorem dJ1_charAt_3b067_3 : decode cJ1_charAt_3b067 3 = .ok (.invokestatic 9, 3) := by decide +kernel
theorem dJ1_charAt_3b067_6 : decode cJ1_charAt_3b067 6 = .ok (.aload_n 0, 1) := by decide +kernel
theorem dJ1_charAt_3b067_7 : decode cJ1_charAt_3b067 7 = .ok (.iload_n 1, 1) := by decide +kernel
theorem dJ1_charAt_3b067_8 : decode cJ1_charAt_3b067 8 = .ok (.baload, 1) := by decide +kernel
theorem dJ1_charAt_3b067_9 : decode cJ1_charAt_3b067 9 = .ok (.sipush 255, 3) := by decide +kernel
theorem dJ1_charAt_3b067_12 : decode cJ1_charAt_3b067 12 = .ok (.iand, 1) := by decide +kernel
theorem dJ1_charAt_3b067_13 : decode cJ1_charAt_3b067 13 = .ok (.i2c, 1) := by decide +kernel
theorem dJ1_charAt_3b067_14 : decode cJ1_charAt_3b067 14 = .ok (.ireturn, 1) := by decide +kernel
theorem dJ2_getChar_3b067_0 : decode cJ2_getChar_3b067 0 = .ok (.getstatic 44, 3) := by decide +kernel
theorem dJ2_getChar_3b067_3 : decode cJ2_getChar_3b067 3 = .ok (.ifCond .ne 25, 3) := by decide +kernel
theorem dJ2_getChar_3b067_6 : decode cJ2_getChar_3b067 6 = .ok (.iload_n 1, 1) := by decide +kernel
theorem dJ2_getChar_3b067_7 : decode cJ2_getChar_3b067 7 = .ok (.ifCond .lt 11, 3) := by decide +kernel
theorem dJ2_getChar_3b067_10 : decode cJ2_getChar_3b067 10 = .ok (.iload_n 1, 1) := by decide +kernel
theorem dJ2_getChar_3b067_11 : decode cJ2_getChar_3b067 11 = .ok (.aload_n 0, 1) := by decide +kernel
theorem dJ2_getChar_3b067_12 : decode cJ2_getChar_3b067 12 = .ok (.invokestatic 48, 3) := by decide +kernel
theorem dJ2_getChar_3b067_15 : decode cJ2_getChar_3b067 15 = .ok (.if_icmp .lt 13, 3) := by decide +kernel
theorem dJ2_getChar_3b067_18 : decode cJ2_getChar_3b067 18 = .ok (.new 52, 3) := by decide +kernel
theorem dJ2_getChar_3b067_21 : decode cJ2_getChar_3b067 21 = .ok (.dup, 1) := by decide +kernel
theorem dJ2_getChar_3b067_22 : decode cJ2_getChar_3b067 22 = .ok (.ldc 54, 2) := by decide +kernel
theorem dJ2_getChar_3b067_24 : decode cJ2_getChar_3b067 24 = .ok (.invokespecial 56, 3) := by decide +kernel
theorem dJ2_getChar_3b067_27 : decode cJ2_getChar_3b067 27 = .ok (.athrow, 1) := by decide +kernel
theorem dJ2_getChar_3b067_28 : decode cJ2_getChar_3b067 28 = .ok (.iload_n 1, 1) := by decide +kernel
theorem dJ2_getChar_3b067_29 : decode cJ2_getChar_3b067 29 = .ok (.iconst 1, 1) := by decide +kernel
theorem dJ2_getChar_3b067_30 : decode cJ2_getChar_3b067 30 = .ok (.ishl, 1) := by decide +kernel
theorem dJ2_getChar_3b067_31 : decode cJ2_getChar_3b067 31 = .ok (.istore_n 1, 1) := by decide +kernel
theorem dJ2_getChar_3b067_32 : decode cJ2_getChar_3b067 32 = .ok (.aload_n 0, 1) := by decide +kernel
theorem dJ2_getChar_3b067_33 : decode cJ2_getChar_3b067 33 = .ok (.iload_n 1, 1) := by decide +kernel
theorem dJ2_getChar_3b067_34 : decode cJ2_getChar_3b067 34 = .ok (.iinc 1 1, 3) := by decide +kernel
theorem dJ2_getChar_3b067_37 : decode cJ2_getChar_3b067 37 = .ok (.baload, 1) := by decide +kernel
theorem dJ2_getChar_3b067_38 : decode cJ2_getChar_3b067 38 = .ok (.sipush 255, 3) := by decide +kernel
theorem dJ2_getChar_3b067_41 : decode cJ2_getChar_3b067 41 = .ok (.iand, 1) := by decide +kernel
theorem dJ2_getChar_3b067_42 : decode cJ2_getChar_3b067 42 = .ok (.getstatic 59, 3) := by decide +kernel
theorem dJ2_getChar_3b067_45 : decode cJ2_getChar_3b067 45 = .ok (.ishl, 1) := by decide +kernel
theorem dJ2_getChar_3b067_46 : decode cJ2_getChar_3b067 46 = .ok (.aload_n 0, 1) := by decide +kernel
theorem dJ2_getChar_3b067_47 : decode cJ2_getChar_3b067 47 = .ok (.iload_n 1, 1) := by decide +kernel
theorem dJ2_getChar_3b067_48 : decode cJ2_getChar_3b067 48 = .ok (.baload, 1) := by decide +kernel
theorem dJ2_getChar_3b067_49 : decode cJ2_getChar_3b067 49 = .ok (.sipush 255, 3) := by decide +kernel
theorem dJ2_getChar_3b067_52 : decode cJ2_getChar_3b067 52 = .ok (.iand, 1) := by decide +kernel
theorem dJ2_getChar_3b067_53 : decode cJ2_getChar_3b067 53 = .ok (.getstatic 63, 3) := by decide +kernel
theorem dJ2_getChar_3b067_56 : decode cJ2_getChar_3b067 56 = .ok (.ishl, 1) := by decide +kernel
theorem dJ2_getChar_3b067_57 : decode cJ2_getChar_3b067 57 = .ok (.ior, 1) := by decide +kernel
theorem dJ2_getChar_3b067_58 : decode cJ2_getChar_3b067 58 = .ok (.i2c, 1) := by decide +kernel
theorem dJ2_getChar_3b067_59 : decode cJ2_getChar_3b067 59 = .ok (.ireturn, 1) := by decide +kernel
theorem dJ2_length_9d52b_0 : decode cJ2_length_9d52b 0 = .ok (.aload_n 0, 1) := by decide +kernel
theorem dJ2_length_9d52b_1 : decode cJ2_length_9d52b 1 = .ok (.arraylength, 1) := by decide +kernel
theorem dJ2_length_9d52b_2 : decode cJ2_length_9d52b 2 = .ok (.iconst 1, 1) := by decide +kernel
theorem dJ2_length_9d52b_3 : decode cJ2_length_9d52b 3 = .ok (.ishr, 1) := by decide +kernel
theorem dJ2_length_9d52b_4 : decode cJ2_length_9d52b 4 = .ok (.ireturn, 1) := by decide +kernel
theorem dJ2_charAt_3b067_0 : decode cJ2_charAt_3b067 0 = .ok (.iload_n 1, 1) := by decide +kernel
theorem dJ2_charAt_3b067_1 : decode cJ2_charAt_3b067 1 = .ok (.aload_n 0, 1) := by decide +kernel
theorem dJ2_charAt_3b067_2 : decode cJ2_charAt_3b067 2 = .ok (.invokestatic 67, 3) := by decide +kernel
theorem dJ2_charAt_3b067_5 : decode cJ2_charAt_3b067 5 = .ok (.aload_n 0, 1) := by decide +kernel
theorem dJ2_charAt_3b067_6 : decode cJ2_charAt_3b067 6 = .ok (.iload_n 1, 1) := by decide +kernel
theorem dJ2_charAt_3b067_7 : decode cJ2_charAt_3b067 7 = .ok (.invokestatic 71, 3) := by decide +kernel
theorem dJ2_charAt_3b067_10 : decode cJ2_charAt_3b067 10 = .ok (.ireturn, 1) := by decide +kernel
theorem dJ2_checkIndex_2214a_0 : decode cJ2_checkIndex_2214a 0 = .ok (.iload_n 0, 1) := by decide +kernel
theorem dJ2_checkIndex_2214a_1 : decode cJ2_checkIndex_2214a 1 = .ok (.aload_n 1, 1) := by decide +kernel
theorem dJ2_checkIndex_2214a_2 : decode cJ2_checkIndex_2214a 2 = .ok (.invokestatic 48, 3) := by decide +kernel
theorem dJ2_checkIndex_2214a_5 : decode cJ2_checkIndex_2214a 5 = .ok (.invokestatic 414, 3) := by decide +kernel
theorem dJ2_checkIndex_2214a_8 : decode cJ2_checkIndex_2214a 8 = .ok (.return_, 1) := by decide +kernel
theorem dJ7_fill_53178_0 : decode cJ7_fill_53178 0 = .ok (.iconst 0, 1) := by decide +kernel
theorem dJ7_fill_53178_1 : decode cJ7_fill_53178 1 = .ok (.istore_n 2, 1) := by decide +kernel
theorem dJ7_fill_53178_2 : decode cJ7_fill_53178 2 = .ok (.aload_n 0, 1) := by decide +kernel
theorem dJ7_fill_53178_3 : decode cJ7_fill_53178 3 = .ok (.arraylength, 1) := by decide +kernel
theorem dJ7_fill_53178_4 : decode cJ7_fill_53178 4 = .ok (.istore_n 3, 1) := by decide +kernel
theorem dJ7_fill_53178_5 : decode cJ7_fill_53178 5 = .ok (.iload_n 2, 1) := by decide +kernel
theorem dJ7_fill_53178_6 : decode cJ7_fill_53178 6 = .ok (.iload_n 3, 1) := by decide +kernel
theorem dJ7_fill_53178_7 : decode cJ7_fill_53178 7 = .ok (.if_icmp .ge 13, 3) := by decide +kernel
theorem dJ7_fill_53178_10 : decode cJ7_fill_53178 10 = .ok (.aload_n 0, 1) := by decide +kernel
theorem dJ7_fill_53178_11 : decode cJ7_fill_53178 11 = .ok (.iload_n 2, 1) := by decide +kernel
theorem dJ7_fill_53178_12 : decode cJ7_fill_53178 12 = .ok (.iload_n 1, 1) := by decide +kernel
theorem dJ7_fill_53178_13 : decode cJ7_fill_53178 13 = .ok (.iastore, 1) := by decide +kernel
theorem dJ7_fill_53178_14 : decode cJ7_fill_53178 14 = .ok (.iinc 2 1, 3) := by decide +kernel
theorem dJ7_fill_53178_17 : decode cJ7_fill_53178 17 = .ok (.goto (-12), 3) := by decide +kernel
theorem dJ7_fill_53178_20 : decode cJ7_fill_53178 20 = .ok (.return_, 1) := by decide +kernel
theorem dJ3_checkIndex_8e157_0 : decode cJ3_checkIndex_8e157 0 = .ok (.iload_n 0, 1) := by decide +kernel
theorem dJ3_checkIndex_8e157_1 : decode cJ3_checkIndex_8e157 1 = .ok (.ifCond .lt 8, 3) := by decide +kernel
theorem dJ3_checkIndex_8e157_4 : decode cJ3_checkIndex_8e157 4 = .ok (.iload_n 0, 1) := by decide +kernel
theorem dJ3_checkIndex_8e157_5 : decode cJ3_checkIndex_8e157 5 = .ok (.iload_n 1, 1) := by decide +kernel
theorem dJ3_checkIndex_8e157_6 : decode cJ3_checkIndex_8e157 6 = .ok (.if_icmp .lt 10, 3) := by decide +kernel
theorem dJ3_checkIndex_8e157_9 : decode cJ3_checkIndex_8e157 9 = .ok (.aload_n 2, 1) := by decide +kernel
theorem dJ3_checkIndex_8e157_10 : decode cJ3_checkIndex_8e157 10 = .ok (.iload_n 0, 1) := by decide +kernel
theorem dJ3_checkIndex_8e157_11 : decode cJ3_checkIndex_8e157 11 = .ok (.iload_n 1, 1) := by decide +kernel
theorem dJ3_checkIndex_8e157_12 : decode cJ3_checkIndex_8e157 12 = .ok (.invokestatic 95, 3) := by decide +kernel
theorem dJ3_checkIndex_8e157_15 : decode cJ3_checkIndex_8e157 15 = .ok (.athrow, 1) := by decide +kernel
theorem dJ3_checkIndex_8e157_16 : decode cJ3_checkIndex_8e157 16 = .ok (.iload_n 0, 1) := by decide +kernel
theorem dJ3_checkIndex_8e157_17 : decode cJ3_checkIndex_8e157 17 = .ok (.ireturn, 1) := by decide +kernel
end
section
theorem dL_law_0 : decode cL_law 0 = .ok (.new 7, 3) := by decide +kernel
theorem dL_law_3 : decode cL_law 3 = .ok (.dup, 1) := by decide +kernel
theorem dL_law_4 : decode cL_law 4 = .ok (.invokespecial 9, 3) := by decide +kernel
theorem dL_law_7 : decode cL_law 7 = .ok (.astore_n 1, 1) := by decide +kernel
theorem dL_law_8 : decode cL_law 8 = .ok (.new 10, 3) := by decide +kernel
theorem dL_law_11 : decode cL_law 11 = .ok (.dup, 1) := by decide +kernel
theorem dL_law_12 : decode cL_law 12 = .ok (.invokespecial 12, 3) := by decide +kernel
theorem dL_law_15 : decode cL_law 15 = .ok (.astore_n 2, 1) := by decide +kernel
theorem dL_law_16 : decode cL_law 16 = .ok (.iconst 0, 1) := by decide +kernel
theorem dL_law_17 : decode cL_law 17 = .ok (.istore_n 3, 1) := by decide +kernel
theorem dL_law_18 : decode cL_law 18 = .ok (.iload_n 3, 1) := by decide +kernel
theorem dL_law_19 : decode cL_law 19 = .ok (.aload_n 0, 1) := by decide +kernel
theorem dL_law_20 : decode cL_law 20 = .ok (.arraylength, 1) := by decide +kernel
theorem dL_law_21 : decode cL_law 21 = .ok (.bipush 6, 2) := by decide +kernel
theorem dL_law_23 : decode cL_law 23 = .ok (.isub, 1) := by decide +kernel
theorem dL_law_24 : decode cL_law 24 = .ok (.if_icmp .gt 1480, 3) := by decide +kernel
theorem dL_law_27 : decode cL_law 27 = .ok (.aload_n 0, 1) := by decide +kernel
theorem dL_law_28 : decode cL_law 28 = .ok (.iload_n 3, 1) := by decide +kernel
theorem dL_law_29 : decode cL_law 29 = .ok (.iaload, 1) := by decide +kernel
theorem dL_law_30 : decode cL_law 30 = .ok (.bipush 63, 2) := by decide +kernel
theorem dL_law_32 : decode cL_law 32 = .ok (.iand, 1) := by decide +kernel
theorem dL_law_33 : decode cL_law 33 = .ok (.tableswitch 1465 0 46 #[203, 226, 259, 302, 325, 358, 401, 434, 467, 490, 513, 536, 559, 572, 595, 618, 641, 664, 687, 720, 743, 766, 789, 812, 835, 868, 891, 914, 958, 981, 1014, 1037, 1060, 1093, 1106, 1119, 1152, 1185, 1228, 1271, 1334, 1357, 1380, 1393, 1406, 1419, 1442], 203) := by decide +kernel
theorem dL_law_236 : decode cL_law 236 = .ok (.aload_n 1, 1) := by decide +kernel
theorem dL_law_237 : decode cL_law 237 = .ok (.aload_n 0, 1) := by decide +kernel
theorem dL_law_238 : decode cL_law 238 = .ok (.iload_n 3, 1) := by decide +kernel
theorem dL_law_239 : decode cL_law 239 = .ok (.iconst 1, 1) := by decide +kernel
theorem dL_law_240 : decode cL_law 240 = .ok (.iadd, 1) := by decide +kernel
theorem dL_law_241 : decode cL_law 241 = .ok (.iaload, 1) := by decide +kernel
theorem dL_law_242 : decode cL_law 242 = .ok (.invokevirtual 13, 3) := by decide +kernel
theorem dL_law_245 : decode cL_law 245 = .ok (.aload_n 2, 1) := by decide +kernel
theorem dL_law_246 : decode cL_law 246 = .ok (.aload_n 0, 1) := by decide +kernel
theorem dL_law_247 : decode cL_law 247 = .ok (.iload_n 3, 1) := by decide +kernel
theorem dL_law_248 : decode cL_law 248 = .ok (.iconst 1, 1) := by decide +kernel
theorem dL_law_249 : decode cL_law 249 = .ok (.iadd, 1) := by decide +kernel
theorem dL_law_250 : decode cL_law 250 = .ok (.iaload, 1) := by decide +kernel
theorem dL_law_251 : decode cL_law 251 = .ok (.invokevirtual 17, 3) := by decide +kernel
theorem dL_law_254 : decode cL_law 254 = .ok (.if_icmp .eq 1244, 3) := by decide +kernel
theorem dL_law_257 : decode cL_law 257 = .ok (.iconst 0, 1) := by decide +kernel
theorem dL_law_258 : decode cL_law 258 = .ok (.ireturn, 1) := by decide +kernel
theorem dL_law_259 : decode cL_law 259 = .ok (.aload_n 1, 1) := by decide +kernel
theorem dL_law_260 : decode cL_law 260 = .ok (.aload_n 0, 1) := by decide +kernel
theorem dL_law_261 : decode cL_law 261 = .ok (.iload_n 3, 1) := by decide +kernel
theorem dL_law_262 : decode cL_law 262 = .ok (.iconst 1, 1) := by decide +kernel
theorem dL_law_263 : decode cL_law 263 = .ok (.iadd, 1) := by decide +kernel
theorem dL_law_264 : decode cL_law 264 = .ok (.iaload, 1) := by decide +kernel
theorem dL_law_265 : decode cL_law 265 = .ok (.aload_n 0, 1) := by decide +kernel
theorem dL_law_266 : decode cL_law 266 = .ok (.iload_n 3, 1) := by decide +kernel
theorem dL_law_267 : decode cL_law 267 = .ok (.iconst 2, 1) := by decide +kernel
theorem dL_law_268 : decode cL_law 268 = .ok (.iadd, 1) := by decide +kernel
theorem dL_law_269 : decode cL_law 269 = .ok (.iaload, 1) := by decide +kernel
theorem dL_law_270 : decode cL_law 270 = .ok (.invokevirtual 18, 3) := by decide +kernel
theorem dL_law_273 : decode cL_law 273 = .ok (.aload_n 2, 1) := by decide +kernel
theorem dL_law_274 : decode cL_law 274 = .ok (.aload_n 0, 1) := by decide +kernel
theorem dL_law_275 : decode cL_law 275 = .ok (.iload_n 3, 1) := by decide +kernel
theorem dL_law_276 : decode cL_law 276 = .ok (.iconst 1, 1) := by decide +kernel
theorem dL_law_277 : decode cL_law 277 = .ok (.iadd, 1) := by decide +kernel
theorem dL_law_278 : decode cL_law 278 = .ok (.iaload, 1) := by decide +kernel
theorem dL_law_279 : decode cL_law 279 = .ok (.aload_n 0, 1) := by decide +kernel
theorem dL_law_280 : decode cL_law 280 = .ok (.iload_n 3, 1) := by decide +kernel
theorem dL_law_281 : decode cL_law 281 = .ok (.iconst 2, 1) := by decide +kernel
theorem dL_law_282 : decode cL_law 282 = .ok (.iadd, 1) := by decide +kernel
theorem dL_law_283 : decode cL_law 283 = .ok (.iaload, 1) := by decide +kernel
theorem dL_law_284 : decode cL_law 284 = .ok (.invokevirtual 22, 3) := by decide +kernel
theorem dL_law_287 : decode cL_law 287 = .ok (.if_icmp .eq 1211, 3) := by decide +kernel
theorem dL_law_290 : decode cL_law 290 = .ok (.iconst 0, 1) := by decide +kernel
theorem dL_law_291 : decode cL_law 291 = .ok (.ireturn, 1) := by decide +kernel
theorem dL_law_292 : decode cL_law 292 = .ok (.aload_n 1, 1) := by decide +kernel
theorem dL_law_293 : decode cL_law 293 = .ok (.aload_n 0, 1) := by decide +kernel
theorem dL_law_294 : decode cL_law 294 = .ok (.iload_n 3, 1) := by decide +kernel
theorem dL_law_295 : decode cL_law 295 = .ok (.iconst 1, 1) := by decide +kernel
theorem dL_law_296 : decode cL_law 296 = .ok (.iadd, 1) := by decide +kernel
theorem dL_law_297 : decode cL_law 297 = .ok (.iaload, 1) := by decide +kernel
theorem dL_law_298 : decode cL_law 298 = .ok (.aload_n 0, 1) := by decide +kernel
theorem dL_law_299 : decode cL_law 299 = .ok (.iload_n 3, 1) := by decide +kernel
theorem dL_law_300 : decode cL_law 300 = .ok (.iconst 2, 1) := by decide +kernel
theorem dL_law_301 : decode cL_law 301 = .ok (.iadd, 1) := by decide +kernel
theorem dL_law_302 : decode cL_law 302 = .ok (.iaload, 1) := by decide +kernel
theorem dL_law_303 : decode cL_law 303 = .ok (.aload_n 0, 1) := by decide +kernel
theorem dL_law_304 : decode cL_law 304 = .ok (.iload_n 3, 1) := by decide +kernel
theorem dL_law_305 : decode cL_law 305 = .ok (.iconst 3, 1) := by decide +kernel
theorem dL_law_306 : decode cL_law 306 = .ok (.iadd, 1) := by decide +kernel
theorem dL_law_307 : decode cL_law 307 = .ok (.iaload, 1) := by decide +kernel
theorem dL_law_308 : decode cL_law 308 = .ok (.invokevirtual 23, 3) := by decide +kernel
theorem dL_law_311 : decode cL_law 311 = .ok (.aload_n 2, 1) := by decide +kernel
theorem dL_law_312 : decode cL_law 312 = .ok (.aload_n 0, 1) := by decide +kernel
theorem dL_law_313 : decode cL_law 313 = .ok (.iload_n 3, 1) := by decide +kernel
theorem dL_law_314 : decode cL_law 314 = .ok (.iconst 1, 1) := by decide +kernel
theorem dL_law_315 : decode cL_law 315 = .ok (.iadd, 1) := by decide +kernel
theorem dL_law_316 : decode cL_law 316 = .ok (.iaload, 1) := by decide +kernel
theorem dL_law_317 : decode cL_law 317 = .ok (.aload_n 0, 1) := by decide +kernel
theorem dL_law_318 : decode cL_law 318 = .ok (.iload_n 3, 1) := by decide +kernel
theorem dL_law_319 : decode cL_law 319 = .ok (.iconst 2, 1) := by decide +kernel
theorem dL_law_320 : decode cL_law 320 = .ok (.iadd, 1) := by decide +kernel
theorem dL_law_321 : decode cL_law 321 = .ok (.iaload, 1) := by decide +kernel
theorem dL_law_322 : decode cL_law 322 = .ok (.aload_n 0, 1) := by decide +kernel
theorem dL_law_323 : decode cL_law 323 = .ok (.iload_n 3, 1) := by decide +kernel
theorem dL_law_324 : decode cL_law 324 = .ok (.iconst 3, 1) := by decide +kernel
theorem dL_law_325 : decode cL_law 325 = .ok (.iadd, 1) := by decide +kernel
theorem dL_law_326 : decode cL_law 326 = .ok (.iaload, 1) := by decide +kernel
theorem dL_law_327 : decode cL_law 327 = .ok (.invokevirtual 27, 3) := by decide +kernel
theorem dL_law_330 : decode cL_law 330 = .ok (.if_icmp .eq 1168, 3) := by decide +kernel
theorem dL_law_333 : decode cL_law 333 = .ok (.iconst 0, 1) := by decide +kernel
theorem dL_law_334 : decode cL_law 334 = .ok (.ireturn, 1) := by decide +kernel
theorem dL_law_335 : decode cL_law 335 = .ok (.aload_n 1, 1) := by decide +kernel
theorem dL_law_336 : decode cL_law 336 = .ok (.aload_n 0, 1) := by decide +kernel
theorem dL_law_337 : decode cL_law 337 = .ok (.iload_n 3, 1) := by decide +kernel
theorem dL_law_338 : decode cL_law 338 = .ok (.iconst 1, 1) := by decide +kernel
theorem dL_law_339 : decode cL_law 339 = .ok (.iadd, 1) := by decide +kernel
theorem dL_law_340 : decode cL_law 340 = .ok (.iaload, 1) := by decide +kernel
theorem dL_law_341 : decode cL_law 341 = .ok (.invokevirtual 28, 3) := by decide +kernel
theorem dL_law_344 : decode cL_law 344 = .ok (.aload_n 2, 1) := by decide +kernel
theorem dL_law_345 : decode cL_law 345 = .ok (.aload_n 0, 1) := by decide +kernel
theorem dL_law_346 : decode cL_law 346 = .ok (.iload_n 3, 1) := by decide +kernel
theorem dL_law_347 : decode cL_law 347 = .ok (.iconst 1, 1) := by decide +kernel
theorem dL_law_348 : decode cL_law 348 = .ok (.iadd, 1) := by decide +kernel
theorem dL_law_349 : decode cL_law 349 = .ok (.iaload, 1) := by decide +kernel
theorem dL_law_350 : decode cL_law 350 = .ok (.invokevirtual 31, 3) := by decide +kernel
theorem dL_law_353 : decode cL_law 353 = .ok (.if_icmp .eq 1145, 3) := by decide +kernel
theorem dL_law_356 : decode cL_law 356 = .ok (.iconst 0, 1) := by decide +kernel
theorem dL_law_357 : decode cL_law 357 = .ok (.ireturn, 1) := by decide +kernel
theorem dL_law_358 : decode cL_law 358 = .ok (.aload_n 1, 1) := by decide +kernel
theorem dL_law_359 : decode cL_law 359 = .ok (.aload_n 0, 1) := by decide +kernel
theorem dL_law_360 : decode cL_law 360 = .ok (.iload_n 3, 1) := by decide +kernel
theorem dL_law_361 : decode cL_law 361 = .ok (.iconst 1, 1) := by decide +kernel
theorem dL_law_362 : decode cL_law 362 = .ok (.iadd, 1) := by decide +kernel
theorem dL_law_363 : decode cL_law 363 = .ok (.iaload, 1) := by decide +kernel
theorem dL_law_364 : decode cL_law 364 = .ok (.aload_n 0, 1) := by decide +kernel
theorem dL_law_365 : decode cL_law 365 = .ok (.iload_n 3, 1) := by decide +kernel
theorem dL_law_366 : decode cL_law 366 = .ok (.iconst 2, 1) := by decide +kernel
theorem dL_law_367 : decode cL_law 367 = .ok (.iadd, 1) := by decide +kernel
theorem dL_law_368 : decode cL_law 368 = .ok (.iaload, 1) := by decide +kernel
theorem dL_law_369 : decode cL_law 369 = .ok (.invokevirtual 32, 3) := by decide +kernel
theorem dL_law_372 : decode cL_law 372 = .ok (.aload_n 2, 1) := by decide +kernel
theorem dL_law_373 : decode cL_law 373 = .ok (.aload_n 0, 1) := by decide +kernel
theorem dL_law_374 : decode cL_law 374 = .ok (.iload_n 3, 1) := by decide +kernel
theorem dL_law_375 : decode cL_law 375 = .ok (.iconst 1, 1) := by decide +kernel
theorem dL_law_376 : decode cL_law 376 = .ok (.iadd, 1) := by decide +kernel
theorem dL_law_377 : decode cL_law 377 = .ok (.iaload, 1) := by decide +kernel
theorem dL_law_378 : decode cL_law 378 = .ok (.aload_n 0, 1) := by decide +kernel
theorem dL_law_379 : decode cL_law 379 = .ok (.iload_n 3, 1) := by decide +kernel
theorem dL_law_380 : decode cL_law 380 = .ok (.iconst 2, 1) := by decide +kernel
theorem dL_law_381 : decode cL_law 381 = .ok (.iadd, 1) := by decide +kernel
theorem dL_law_382 : decode cL_law 382 = .ok (.iaload, 1) := by decide +kernel
theorem dL_law_383 : decode cL_law 383 = .ok (.invokevirtual 35, 3) := by decide +kernel
theorem dL_law_386 : decode cL_law 386 = .ok (.if_icmp .eq 1112, 3) := by decide +kernel
theorem dL_law_389 : decode cL_law 389 = .ok (.iconst 0, 1) := by decide +kernel
theorem dL_law_390 : decode cL_law 390 = .ok (.ireturn, 1) := by decide +kernel
theorem dL_law_391 : decode cL_law 391 = .ok (.aload_n 1, 1) := by decide +kernel
theorem dL_law_392 : decode cL_law 392 = .ok (.aload_n 0, 1) := by decide +kernel
theorem dL_law_393 : decode cL_law 393 = .ok (.iload_n 3, 1) := by decide +kernel
theorem dL_law_394 : decode cL_law 394 = .ok (.iconst 1, 1) := by decide +kernel
theorem dL_law_395 : decode cL_law 395 = .ok (.iadd, 1) := by decide +kernel
theorem dL_law_396 : decode cL_law 396 = .ok (.iaload, 1) := by decide +kernel
theorem dL_law_397 : decode cL_law 397 = .ok (.aload_n 0, 1) := by decide +kernel
theorem dL_law_398 : decode cL_law 398 = .ok (.iload_n 3, 1) := by decide +kernel
theorem dL_law_399 : decode cL_law 399 = .ok (.iconst 2, 1) := by decide +kernel
theorem dL_law_400 : decode cL_law 400 = .ok (.iadd, 1) := by decide +kernel
theorem dL_law_401 : decode cL_law 401 = .ok (.iaload, 1) := by decide +kernel
theorem dL_law_402 : decode cL_law 402 = .ok (.aload_n 0, 1) := by decide +kernel
theorem dL_law_403 : decode cL_law 403 = .ok (.iload_n 3, 1) := by decide +kernel
theorem dL_law_404 : decode cL_law 404 = .ok (.iconst 3, 1) := by decide +kernel
theorem dL_law_405 : decode cL_law 405 = .ok (.iadd, 1) := by decide +kernel
theorem dL_law_406 : decode cL_law 406 = .ok (.iaload, 1) := by decide +kernel
theorem dL_law_407 : decode cL_law 407 = .ok (.invokevirtual 36, 3) := by decide +kernel
theorem dL_law_410 : decode cL_law 410 = .ok (.aload_n 2, 1) := by decide +kernel
theorem dL_law_411 : decode cL_law 411 = .ok (.aload_n 0, 1) := by decide +kernel
theorem dL_law_412 : decode cL_law 412 = .ok (.iload_n 3, 1) := by decide +kernel
theorem dL_law_413 : decode cL_law 413 = .ok (.iconst 1, 1) := by decide +kernel
theorem dL_law_414 : decode cL_law 414 = .ok (.iadd, 1) := by decide +kernel
theorem dL_law_415 : decode cL_law 415 = .ok (.iaload, 1) := by decide +kernel
theorem dL_law_416 : decode cL_law 416 = .ok (.aload_n 0, 1) := by decide +kernel
theorem dL_law_417 : decode cL_law 417 = .ok (.iload_n 3, 1) := by decide +kernel
theorem dL_law_418 : decode cL_law 418 = .ok (.iconst 2, 1) := by decide +kernel
theorem dL_law_419 : decode cL_law 419 = .ok (.iadd, 1) := by decide +kernel
theorem dL_law_420 : decode cL_law 420 = .ok (.iaload, 1) := by decide +kernel
theorem dL_law_421 : decode cL_law 421 = .ok (.aload_n 0, 1) := by decide +kernel
theorem dL_law_422 : decode cL_law 422 = .ok (.iload_n 3, 1) := by decide +kernel
theorem dL_law_423 : decode cL_law 423 = .ok (.iconst 3, 1) := by decide +kernel
theorem dL_law_424 : decode cL_law 424 = .ok (.iadd, 1) := by decide +kernel
theorem dL_law_425 : decode cL_law 425 = .ok (.iaload, 1) := by decide +kernel
theorem dL_law_426 : decode cL_law 426 = .ok (.invokevirtual 39, 3) := by decide +kernel
theorem dL_law_429 : decode cL_law 429 = .ok (.if_icmp .eq 1069, 3) := by decide +kernel
theorem dL_law_432 : decode cL_law 432 = .ok (.iconst 0, 1) := by decide +kernel
theorem dL_law_433 : decode cL_law 433 = .ok (.ireturn, 1) := by decide +kernel
theorem dL_law_434 : decode cL_law 434 = .ok (.aload_n 1, 1) := by decide +kernel
theorem dL_law_435 : decode cL_law 435 = .ok (.aload_n 0, 1) := by decide +kernel
theorem dL_law_436 : decode cL_law 436 = .ok (.iload_n 3, 1) := by decide +kernel
theorem dL_law_437 : decode cL_law 437 = .ok (.iconst 1, 1) := by decide +kernel
theorem dL_law_438 : decode cL_law 438 = .ok (.iadd, 1) := by decide +kernel
theorem dL_law_439 : decode cL_law 439 = .ok (.iaload, 1) := by decide +kernel
theorem dL_law_440 : decode cL_law 440 = .ok (.aload_n 0, 1) := by decide +kernel
theorem dL_law_441 : decode cL_law 441 = .ok (.iload_n 3, 1) := by decide +kernel
theorem dL_law_442 : decode cL_law 442 = .ok (.iconst 2, 1) := by decide +kernel
theorem dL_law_443 : decode cL_law 443 = .ok (.iadd, 1) := by decide +kernel
theorem dL_law_444 : decode cL_law 444 = .ok (.iaload, 1) := by decide +kernel
theorem dL_law_445 : decode cL_law 445 = .ok (.invokevirtual 40, 3) := by decide +kernel
theorem dL_law_448 : decode cL_law 448 = .ok (.aload_n 2, 1) := by decide +kernel
theorem dL_law_449 : decode cL_law 449 = .ok (.aload_n 0, 1) := by decide +kernel
theorem dL_law_450 : decode cL_law 450 = .ok (.iload_n 3, 1) := by decide +kernel
theorem dL_law_451 : decode cL_law 451 = .ok (.iconst 1, 1) := by decide +kernel
theorem dL_law_452 : decode cL_law 452 = .ok (.iadd, 1) := by decide +kernel
theorem dL_law_453 : decode cL_law 453 = .ok (.iaload, 1) := by decide +kernel
theorem dL_law_454 : decode cL_law 454 = .ok (.aload_n 0, 1) := by decide +kernel
theorem dL_law_455 : decode cL_law 455 = .ok (.iload_n 3, 1) := by decide +kernel
theorem dL_law_456 : decode cL_law 456 = .ok (.iconst 2, 1) := by decide +kernel
theorem dL_law_457 : decode cL_law 457 = .ok (.iadd, 1) := by decide +kernel
theorem dL_law_458 : decode cL_law 458 = .ok (.iaload, 1) := by decide +kernel
theorem dL_law_459 : decode cL_law 459 = .ok (.invokevirtual 43, 3) := by decide +kernel
theorem dL_law_462 : decode cL_law 462 = .ok (.if_icmp .eq 1036, 3) := by decide +kernel
theorem dL_law_465 : decode cL_law 465 = .ok (.iconst 0, 1) := by decide +kernel
theorem dL_law_466 : decode cL_law 466 = .ok (.ireturn, 1) := by decide +kernel
theorem dL_law_467 : decode cL_law 467 = .ok (.aload_n 1, 1) := by decide +kernel
theorem dL_law_468 : decode cL_law 468 = .ok (.aload_n 0, 1) := by decide +kernel
theorem dL_law_469 : decode cL_law 469 = .ok (.iload_n 3, 1) := by decide +kernel
theorem dL_law_470 : decode cL_law 470 = .ok (.iconst 1, 1) := by decide +kernel
theorem dL_law_471 : decode cL_law 471 = .ok (.iadd, 1) := by decide +kernel
theorem dL_law_472 : decode cL_law 472 = .ok (.iaload, 1) := by decide +kernel
theorem dL_law_473 : decode cL_law 473 = .ok (.aload_n 0, 1) := by decide +kernel
theorem dL_law_474 : decode cL_law 474 = .ok (.iload_n 3, 1) := by decide +kernel
theorem dL_law_475 : decode cL_law 475 = .ok (.iconst 2, 1) := by decide +kernel
theorem dL_law_476 : decode cL_law 476 = .ok (.iadd, 1) := by decide +kernel
theorem dL_law_477 : decode cL_law 477 = .ok (.iaload, 1) := by decide +kernel
theorem dL_law_478 : decode cL_law 478 = .ok (.invokevirtual 44, 3) := by decide +kernel
theorem dL_law_481 : decode cL_law 481 = .ok (.aload_n 2, 1) := by decide +kernel
theorem dL_law_482 : decode cL_law 482 = .ok (.aload_n 0, 1) := by decide +kernel
theorem dL_law_483 : decode cL_law 483 = .ok (.iload_n 3, 1) := by decide +kernel
theorem dL_law_484 : decode cL_law 484 = .ok (.iconst 1, 1) := by decide +kernel
theorem dL_law_485 : decode cL_law 485 = .ok (.iadd, 1) := by decide +kernel
theorem dL_law_486 : decode cL_law 486 = .ok (.iaload, 1) := by decide +kernel
theorem dL_law_487 : decode cL_law 487 = .ok (.aload_n 0, 1) := by decide +kernel
theorem dL_law_488 : decode cL_law 488 = .ok (.iload_n 3, 1) := by decide +kernel
theorem dL_law_489 : decode cL_law 489 = .ok (.iconst 2, 1) := by decide +kernel
theorem dL_law_490 : decode cL_law 490 = .ok (.iadd, 1) := by decide +kernel
theorem dL_law_491 : decode cL_law 491 = .ok (.iaload, 1) := by decide +kernel
theorem dL_law_492 : decode cL_law 492 = .ok (.invokevirtual 47, 3) := by decide +kernel
theorem dL_law_495 : decode cL_law 495 = .ok (.if_icmp .eq 1003, 3) := by decide +kernel
theorem dL_law_498 : decode cL_law 498 = .ok (.iconst 0, 1) := by decide +kernel
theorem dL_law_499 : decode cL_law 499 = .ok (.ireturn, 1) := by decide +kernel
theorem dL_law_500 : decode cL_law 500 = .ok (.aload_n 1, 1) := by decide +kernel
theorem dL_law_501 : decode cL_law 501 = .ok (.aload_n 0, 1) := by decide +kernel
theorem dL_law_502 : decode cL_law 502 = .ok (.iload_n 3, 1) := by decide +kernel
theorem dL_law_503 : decode cL_law 503 = .ok (.iconst 1, 1) := by decide +kernel
theorem dL_law_504 : decode cL_law 504 = .ok (.iadd, 1) := by decide +kernel
theorem dL_law_505 : decode cL_law 505 = .ok (.iaload, 1) := by decide +kernel
theorem dL_law_506 : decode cL_law 506 = .ok (.invokevirtual 48, 3) := by decide +kernel
theorem dL_law_509 : decode cL_law 509 = .ok (.aload_n 2, 1) := by decide +kernel
theorem dL_law_510 : decode cL_law 510 = .ok (.aload_n 0, 1) := by decide +kernel
theorem dL_law_511 : decode cL_law 511 = .ok (.iload_n 3, 1) := by decide +kernel
theorem dL_law_512 : decode cL_law 512 = .ok (.iconst 1, 1) := by decide +kernel
theorem dL_law_513 : decode cL_law 513 = .ok (.iadd, 1) := by decide +kernel
theorem dL_law_514 : decode cL_law 514 = .ok (.iaload, 1) := by decide +kernel
theorem dL_law_515 : decode cL_law 515 = .ok (.invokevirtual 51, 3) := by decide +kernel
theorem dL_law_518 : decode cL_law 518 = .ok (.if_icmp .eq 980, 3) := by decide +kernel
theorem dL_law_521 : decode cL_law 521 = .ok (.iconst 0, 1) := by decide +kernel
theorem dL_law_522 : decode cL_law 522 = .ok (.ireturn, 1) := by decide +kernel
theorem dL_law_523 : decode cL_law 523 = .ok (.aload_n 1, 1) := by decide +kernel
theorem dL_law_524 : decode cL_law 524 = .ok (.aload_n 0, 1) := by decide +kernel
theorem dL_law_525 : decode cL_law 525 = .ok (.iload_n 3, 1) := by decide +kernel
theorem dL_law_526 : decode cL_law 526 = .ok (.iconst 1, 1) := by decide +kernel
theorem dL_law_527 : decode cL_law 527 = .ok (.iadd, 1) := by decide +kernel
theorem dL_law_528 : decode cL_law 528 = .ok (.iaload, 1) := by decide +kernel
theorem dL_law_529 : decode cL_law 529 = .ok (.invokevirtual 52, 3) := by decide +kernel
theorem dL_law_532 : decode cL_law 532 = .ok (.aload_n 2, 1) := by decide +kernel
theorem dL_law_533 : decode cL_law 533 = .ok (.aload_n 0, 1) := by decide +kernel
theorem dL_law_534 : decode cL_law 534 = .ok (.iload_n 3, 1) := by decide +kernel
theorem dL_law_535 : decode cL_law 535 = .ok (.iconst 1, 1) := by decide +kernel
theorem dL_law_536 : decode cL_law 536 = .ok (.iadd, 1) := by decide +kernel
theorem dL_law_537 : decode cL_law 537 = .ok (.iaload, 1) := by decide +kernel
theorem dL_law_538 : decode cL_law 538 = .ok (.invokevirtual 55, 3) := by decide +kernel
theorem dL_law_541 : decode cL_law 541 = .ok (.if_icmp .eq 957, 3) := by decide +kernel
theorem dL_law_544 : decode cL_law 544 = .ok (.iconst 0, 1) := by decide +kernel
theorem dL_law_545 : decode cL_law 545 = .ok (.ireturn, 1) := by decide +kernel
theorem dL_law_546 : decode cL_law 546 = .ok (.aload_n 1, 1) := by decide +kernel
theorem dL_law_547 : decode cL_law 547 = .ok (.aload_n 0, 1) := by decide +kernel
theorem dL_law_548 : decode cL_law 548 = .ok (.iload_n 3, 1) := by decide +kernel
theorem dL_law_549 : decode cL_law 549 = .ok (.iconst 1, 1) := by decide +kernel
theorem dL_law_550 : decode cL_law 550 = .ok (.iadd, 1) := by decide +kernel
theorem dL_law_551 : decode cL_law 551 = .ok (.iaload, 1) := by decide +kernel
theorem dL_law_552 : decode cL_law 552 = .ok (.invokevirtual 56, 3) := by decide +kernel
theorem dL_law_555 : decode cL_law 555 = .ok (.aload_n 2, 1) := by decide +kernel
theorem dL_law_556 : decode cL_law 556 = .ok (.aload_n 0, 1) := by decide +kernel
theorem dL_law_557 : decode cL_law 557 = .ok (.iload_n 3, 1) := by decide +kernel
theorem dL_law_558 : decode cL_law 558 = .ok (.iconst 1, 1) := by decide +kernel
theorem dL_law_559 : decode cL_law 559 = .ok (.iadd, 1) := by decide +kernel
theorem dL_law_560 : decode cL_law 560 = .ok (.iaload, 1) := by decide +kernel
theorem dL_law_561 : decode cL_law 561 = .ok (.invokevirtual 59, 3) := by decide +kernel
theorem dL_law_564 : decode cL_law 564 = .ok (.if_icmp .eq 934, 3) := by decide +kernel
theorem dL_law_567 : decode cL_law 567 = .ok (.iconst 0, 1) := by decide +kernel
theorem dL_law_568 : decode cL_law 568 = .ok (.ireturn, 1) := by decide +kernel
theorem dL_law_569 : decode cL_law 569 = .ok (.aload_n 1, 1) := by decide +kernel
theorem dL_law_570 : decode cL_law 570 = .ok (.aload_n 0, 1) := by decide +kernel
theorem dL_law_571 : decode cL_law 571 = .ok (.iload_n 3, 1) := by decide +kernel
theorem dL_law_572 : decode cL_law 572 = .ok (.iconst 1, 1) := by decide +kernel
theorem dL_law_573 : decode cL_law 573 = .ok (.iadd, 1) := by decide +kernel
theorem dL_law_574 : decode cL_law 574 = .ok (.iaload, 1) := by decide +kernel
theorem dL_law_575 : decode cL_law 575 = .ok (.invokevirtual 60, 3) := by decide +kernel
theorem dL_law_578 : decode cL_law 578 = .ok (.aload_n 2, 1) := by decide +kernel
theorem dL_law_579 : decode cL_law 579 = .ok (.aload_n 0, 1) := by decide +kernel
theorem dL_law_580 : decode cL_law 580 = .ok (.iload_n 3, 1) := by decide +kernel
theorem dL_law_581 : decode cL_law 581 = .ok (.iconst 1, 1) := by decide +kernel
theorem dL_law_582 : decode cL_law 582 = .ok (.iadd, 1) := by decide +kernel
theorem dL_law_583 : decode cL_law 583 = .ok (.iaload, 1) := by decide +kernel
theorem dL_law_584 : decode cL_law 584 = .ok (.invokevirtual 63, 3) := by decide +kernel
theorem dL_law_587 : decode cL_law 587 = .ok (.if_icmp .eq 911, 3) := by decide +kernel
theorem dL_law_590 : decode cL_law 590 = .ok (.iconst 0, 1) := by decide +kernel
theorem dL_law_591 : decode cL_law 591 = .ok (.ireturn, 1) := by decide +kernel
theorem dL_law_592 : decode cL_law 592 = .ok (.aload_n 1, 1) := by decide +kernel
theorem dL_law_593 : decode cL_law 593 = .ok (.invokevirtual 64, 3) := by decide +kernel
theorem dL_law_596 : decode cL_law 596 = .ok (.aload_n 2, 1) := by decide +kernel
theorem dL_law_597 : decode cL_law 597 = .ok (.invokevirtual 68, 3) := by decide +kernel
theorem dL_law_600 : decode cL_law 600 = .ok (.if_icmp .eq 898, 3) := by decide +kernel
theorem dL_law_603 : decode cL_law 603 = .ok (.iconst 0, 1) := by decide +kernel
theorem dL_law_604 : decode cL_law 604 = .ok (.ireturn, 1) := by decide +kernel
theorem dL_law_605 : decode cL_law 605 = .ok (.aload_n 1, 1) := by decide +kernel
theorem dL_law_606 : decode cL_law 606 = .ok (.aload_n 0, 1) := by decide +kernel
theorem dL_law_607 : decode cL_law 607 = .ok (.iload_n 3, 1) := by decide +kernel
theorem dL_law_608 : decode cL_law 608 = .ok (.iconst 1, 1) := by decide +kernel
theorem dL_law_609 : decode cL_law 609 = .ok (.iadd, 1) := by decide +kernel
theorem dL_law_610 : decode cL_law 610 = .ok (.iaload, 1) := by decide +kernel
theorem dL_law_611 : decode cL_law 611 = .ok (.invokevirtual 69, 3) := by decide +kernel
theorem dL_law_614 : decode cL_law 614 = .ok (.aload_n 2, 1) := by decide +kernel
theorem dL_law_615 : decode cL_law 615 = .ok (.aload_n 0, 1) := by decide +kernel
theorem dL_law_616 : decode cL_law 616 = .ok (.iload_n 3, 1) := by decide +kernel
theorem dL_law_617 : decode cL_law 617 = .ok (.iconst 1, 1) := by decide +kernel
theorem dL_law_618 : decode cL_law 618 = .ok (.iadd, 1) := by decide +kernel
theorem dL_law_619 : decode cL_law 619 = .ok (.iaload, 1) := by decide +kernel
theorem dL_law_620 : decode cL_law 620 = .ok (.invokevirtual 72, 3) := by decide +kernel
theorem dL_law_623 : decode cL_law 623 = .ok (.if_icmp .eq 875, 3) := by decide +kernel
theorem dL_law_626 : decode cL_law 626 = .ok (.iconst 0, 1) := by decide +kernel
theorem dL_law_627 : decode cL_law 627 = .ok (.ireturn, 1) := by decide +kernel
theorem dL_law_628 : decode cL_law 628 = .ok (.aload_n 1, 1) := by decide +kernel
theorem dL_law_629 : decode cL_law 629 = .ok (.aload_n 0, 1) := by decide +kernel
theorem dL_law_630 : decode cL_law 630 = .ok (.iload_n 3, 1) := by decide +kernel
theorem dL_law_631 : decode cL_law 631 = .ok (.iconst 1, 1) := by decide +kernel
theorem dL_law_632 : decode cL_law 632 = .ok (.iadd, 1) := by decide +kernel
theorem dL_law_633 : decode cL_law 633 = .ok (.iaload, 1) := by decide +kernel
theorem dL_law_634 : decode cL_law 634 = .ok (.invokevirtual 73, 3) := by decide +kernel
theorem dL_law_637 : decode cL_law 637 = .ok (.aload_n 2, 1) := by decide +kernel
theorem dL_law_638 : decode cL_law 638 = .ok (.aload_n 0, 1) := by decide +kernel
theorem dL_law_639 : decode cL_law 639 = .ok (.iload_n 3, 1) := by decide +kernel
theorem dL_law_640 : decode cL_law 640 = .ok (.iconst 1, 1) := by decide +kernel
theorem dL_law_641 : decode cL_law 641 = .ok (.iadd, 1) := by decide +kernel
theorem dL_law_642 : decode cL_law 642 = .ok (.iaload, 1) := by decide +kernel
theorem dL_law_643 : decode cL_law 643 = .ok (.invokevirtual 76, 3) := by decide +kernel
theorem dL_law_646 : decode cL_law 646 = .ok (.if_icmp .eq 852, 3) := by decide +kernel
theorem dL_law_649 : decode cL_law 649 = .ok (.iconst 0, 1) := by decide +kernel
theorem dL_law_650 : decode cL_law 650 = .ok (.ireturn, 1) := by decide +kernel
theorem dL_law_651 : decode cL_law 651 = .ok (.aload_n 1, 1) := by decide +kernel
theorem dL_law_652 : decode cL_law 652 = .ok (.aload_n 0, 1) := by decide +kernel
theorem dL_law_653 : decode cL_law 653 = .ok (.iload_n 3, 1) := by decide +kernel
theorem dL_law_654 : decode cL_law 654 = .ok (.iconst 1, 1) := by decide +kernel
theorem dL_law_655 : decode cL_law 655 = .ok (.iadd, 1) := by decide +kernel
theorem dL_law_656 : decode cL_law 656 = .ok (.iaload, 1) := by decide +kernel
theorem dL_law_657 : decode cL_law 657 = .ok (.invokevirtual 77, 3) := by decide +kernel
theorem dL_law_660 : decode cL_law 660 = .ok (.aload_n 2, 1) := by decide +kernel
theorem dL_law_661 : decode cL_law 661 = .ok (.aload_n 0, 1) := by decide +kernel
theorem dL_law_662 : decode cL_law 662 = .ok (.iload_n 3, 1) := by decide +kernel
theorem dL_law_663 : decode cL_law 663 = .ok (.iconst 1, 1) := by decide +kernel
theorem dL_law_664 : decode cL_law 664 = .ok (.iadd, 1) := by decide +kernel
theorem dL_law_665 : decode cL_law 665 = .ok (.iaload, 1) := by decide +kernel
theorem dL_law_666 : decode cL_law 666 = .ok (.invokevirtual 80, 3) := by decide +kernel
theorem dL_law_669 : decode cL_law 669 = .ok (.if_icmp .eq 829, 3) := by decide +kernel
theorem dL_law_672 : decode cL_law 672 = .ok (.iconst 0, 1) := by decide +kernel
theorem dL_law_673 : decode cL_law 673 = .ok (.ireturn, 1) := by decide +kernel
theorem dL_law_674 : decode cL_law 674 = .ok (.aload_n 1, 1) := by decide +kernel
theorem dL_law_675 : decode cL_law 675 = .ok (.aload_n 0, 1) := by decide +kernel
theorem dL_law_676 : decode cL_law 676 = .ok (.iload_n 3, 1) := by decide +kernel
theorem dL_law_677 : decode cL_law 677 = .ok (.iconst 1, 1) := by decide +kernel
theorem dL_law_678 : decode cL_law 678 = .ok (.iadd, 1) := by decide +kernel
theorem dL_law_679 : decode cL_law 679 = .ok (.iaload, 1) := by decide +kernel
theorem dL_law_680 : decode cL_law 680 = .ok (.invokevirtual 81, 3) := by decide +kernel
theorem dL_law_683 : decode cL_law 683 = .ok (.aload_n 2, 1) := by decide +kernel
theorem dL_law_684 : decode cL_law 684 = .ok (.aload_n 0, 1) := by decide +kernel
theorem dL_law_685 : decode cL_law 685 = .ok (.iload_n 3, 1) := by decide +kernel
theorem dL_law_686 : decode cL_law 686 = .ok (.iconst 1, 1) := by decide +kernel
theorem dL_law_687 : decode cL_law 687 = .ok (.iadd, 1) := by decide +kernel
theorem dL_law_688 : decode cL_law 688 = .ok (.iaload, 1) := by decide +kernel
theorem dL_law_689 : decode cL_law 689 = .ok (.invokevirtual 84, 3) := by decide +kernel
theorem dL_law_692 : decode cL_law 692 = .ok (.if_icmp .eq 806, 3) := by decide +kernel
theorem dL_law_695 : decode cL_law 695 = .ok (.iconst 0, 1) := by decide +kernel
theorem dL_law_696 : decode cL_law 696 = .ok (.ireturn, 1) := by decide +kernel
theorem dL_law_697 : decode cL_law 697 = .ok (.aload_n 1, 1) := by decide +kernel
theorem dL_law_698 : decode cL_law 698 = .ok (.aload_n 0, 1) := by decide +kernel
theorem dL_law_699 : decode cL_law 699 = .ok (.iload_n 3, 1) := by decide +kernel
theorem dL_law_700 : decode cL_law 700 = .ok (.iconst 1, 1) := by decide +kernel
theorem dL_law_701 : decode cL_law 701 = .ok (.iadd, 1) := by decide +kernel
theorem dL_law_702 : decode cL_law 702 = .ok (.iaload, 1) := by decide +kernel
theorem dL_law_703 : decode cL_law 703 = .ok (.invokevirtual 85, 3) := by decide +kernel
theorem dL_law_706 : decode cL_law 706 = .ok (.aload_n 2, 1) := by decide +kernel
theorem dL_law_707 : decode cL_law 707 = .ok (.aload_n 0, 1) := by decide +kernel
theorem dL_law_708 : decode cL_law 708 = .ok (.iload_n 3, 1) := by decide +kernel
theorem dL_law_709 : decode cL_law 709 = .ok (.iconst 1, 1) := by decide +kernel
theorem dL_law_710 : decode cL_law 710 = .ok (.iadd, 1) := by decide +kernel
theorem dL_law_711 : decode cL_law 711 = .ok (.iaload, 1) := by decide +kernel
theorem dL_law_712 : decode cL_law 712 = .ok (.invokevirtual 88, 3) := by decide +kernel
theorem dL_law_715 : decode cL_law 715 = .ok (.if_icmp .eq 783, 3) := by decide +kernel
theorem dL_law_718 : decode cL_law 718 = .ok (.iconst 0, 1) := by decide +kernel
theorem dL_law_719 : decode cL_law 719 = .ok (.ireturn, 1) := by decide +kernel
theorem dL_law_720 : decode cL_law 720 = .ok (.aload_n 1, 1) := by decide +kernel
theorem dL_law_721 : decode cL_law 721 = .ok (.aload_n 0, 1) := by decide +kernel
theorem dL_law_722 : decode cL_law 722 = .ok (.iload_n 3, 1) := by decide +kernel
theorem dL_law_723 : decode cL_law 723 = .ok (.iconst 1, 1) := by decide +kernel
theorem dL_law_724 : decode cL_law 724 = .ok (.iadd, 1) := by decide +kernel
theorem dL_law_725 : decode cL_law 725 = .ok (.iaload, 1) := by decide +kernel
theorem dL_law_726 : decode cL_law 726 = .ok (.aload_n 0, 1) := by decide +kernel
theorem dL_law_727 : decode cL_law 727 = .ok (.iload_n 3, 1) := by decide +kernel
theorem dL_law_728 : decode cL_law 728 = .ok (.iconst 2, 1) := by decide +kernel
theorem dL_law_729 : decode cL_law 729 = .ok (.iadd, 1) := by decide +kernel
theorem dL_law_730 : decode cL_law 730 = .ok (.iaload, 1) := by decide +kernel
theorem dL_law_731 : decode cL_law 731 = .ok (.invokevirtual 89, 3) := by decide +kernel
theorem dL_law_734 : decode cL_law 734 = .ok (.aload_n 2, 1) := by decide +kernel
theorem dL_law_735 : decode cL_law 735 = .ok (.aload_n 0, 1) := by decide +kernel
theorem dL_law_736 : decode cL_law 736 = .ok (.iload_n 3, 1) := by decide +kernel
theorem dL_law_737 : decode cL_law 737 = .ok (.iconst 1, 1) := by decide +kernel
theorem dL_law_738 : decode cL_law 738 = .ok (.iadd, 1) := by decide +kernel
theorem dL_law_739 : decode cL_law 739 = .ok (.iaload, 1) := by decide +kernel
theorem dL_law_740 : decode cL_law 740 = .ok (.aload_n 0, 1) := by decide +kernel
theorem dL_law_741 : decode cL_law 741 = .ok (.iload_n 3, 1) := by decide +kernel
theorem dL_law_742 : decode cL_law 742 = .ok (.iconst 2, 1) := by decide +kernel
theorem dL_law_743 : decode cL_law 743 = .ok (.iadd, 1) := by decide +kernel
theorem dL_law_744 : decode cL_law 744 = .ok (.iaload, 1) := by decide +kernel
theorem dL_law_745 : decode cL_law 745 = .ok (.invokevirtual 92, 3) := by decide +kernel
theorem dL_law_748 : decode cL_law 748 = .ok (.if_icmp .eq 750, 3) := by decide +kernel
theorem dL_law_751 : decode cL_law 751 = .ok (.iconst 0, 1) := by decide +kernel
theorem dL_law_752 : decode cL_law 752 = .ok (.ireturn, 1) := by decide +kernel
theorem dL_law_753 : decode cL_law 753 = .ok (.aload_n 1, 1) := by decide +kernel
theorem dL_law_754 : decode cL_law 754 = .ok (.aload_n 0, 1) := by decide +kernel
theorem dL_law_755 : decode cL_law 755 = .ok (.iload_n 3, 1) := by decide +kernel
theorem dL_law_756 : decode cL_law 756 = .ok (.iconst 1, 1) := by decide +kernel
theorem dL_law_757 : decode cL_law 757 = .ok (.iadd, 1) := by decide +kernel
theorem dL_law_758 : decode cL_law 758 = .ok (.iaload, 1) := by decide +kernel
theorem dL_law_759 : decode cL_law 759 = .ok (.invokevirtual 93, 3) := by decide +kernel
theorem dL_law_762 : decode cL_law 762 = .ok (.aload_n 2, 1) := by decide +kernel
theorem dL_law_763 : decode cL_law 763 = .ok (.aload_n 0, 1) := by decide +kernel
theorem dL_law_764 : decode cL_law 764 = .ok (.iload_n 3, 1) := by decide +kernel
theorem dL_law_765 : decode cL_law 765 = .ok (.iconst 1, 1) := by decide +kernel
theorem dL_law_766 : decode cL_law 766 = .ok (.iadd, 1) := by decide +kernel
theorem dL_law_767 : decode cL_law 767 = .ok (.iaload, 1) := by decide +kernel
theorem dL_law_768 : decode cL_law 768 = .ok (.invokevirtual 96, 3) := by decide +kernel
theorem dL_law_771 : decode cL_law 771 = .ok (.if_icmp .eq 727, 3) := by decide +kernel
theorem dL_law_774 : decode cL_law 774 = .ok (.iconst 0, 1) := by decide +kernel
theorem dL_law_775 : decode cL_law 775 = .ok (.ireturn, 1) := by decide +kernel
theorem dL_law_776 : decode cL_law 776 = .ok (.aload_n 1, 1) := by decide +kernel
theorem dL_law_777 : decode cL_law 777 = .ok (.aload_n 0, 1) := by decide +kernel
theorem dL_law_778 : decode cL_law 778 = .ok (.iload_n 3, 1) := by decide +kernel
theorem dL_law_779 : decode cL_law 779 = .ok (.iconst 1, 1) := by decide +kernel
theorem dL_law_780 : decode cL_law 780 = .ok (.iadd, 1) := by decide +kernel
theorem dL_law_781 : decode cL_law 781 = .ok (.iaload, 1) := by decide +kernel
theorem dL_law_782 : decode cL_law 782 = .ok (.invokevirtual 97, 3) := by decide +kernel
theorem dL_law_785 : decode cL_law 785 = .ok (.aload_n 2, 1) := by decide +kernel
theorem dL_law_786 : decode cL_law 786 = .ok (.aload_n 0, 1) := by decide +kernel
theorem dL_law_787 : decode cL_law 787 = .ok (.iload_n 3, 1) := by decide +kernel
theorem dL_law_788 : decode cL_law 788 = .ok (.iconst 1, 1) := by decide +kernel
theorem dL_law_789 : decode cL_law 789 = .ok (.iadd, 1) := by decide +kernel
theorem dL_law_790 : decode cL_law 790 = .ok (.iaload, 1) := by decide +kernel
theorem dL_law_791 : decode cL_law 791 = .ok (.invokevirtual 100, 3) := by decide +kernel
theorem dL_law_794 : decode cL_law 794 = .ok (.if_icmp .eq 704, 3) := by decide +kernel
theorem dL_law_797 : decode cL_law 797 = .ok (.iconst 0, 1) := by decide +kernel
theorem dL_law_798 : decode cL_law 798 = .ok (.ireturn, 1) := by decide +kernel
theorem dL_law_799 : decode cL_law 799 = .ok (.aload_n 1, 1) := by decide +kernel
theorem dL_law_800 : decode cL_law 800 = .ok (.aload_n 0, 1) := by decide +kernel
theorem dL_law_801 : decode cL_law 801 = .ok (.iload_n 3, 1) := by decide +kernel
theorem dL_law_802 : decode cL_law 802 = .ok (.iconst 1, 1) := by decide +kernel
theorem dL_law_803 : decode cL_law 803 = .ok (.iadd, 1) := by decide +kernel
theorem dL_law_804 : decode cL_law 804 = .ok (.iaload, 1) := by decide +kernel
theorem dL_law_805 : decode cL_law 805 = .ok (.invokevirtual 101, 3) := by decide +kernel
theorem dL_law_808 : decode cL_law 808 = .ok (.aload_n 2, 1) := by decide +kernel
theorem dL_law_809 : decode cL_law 809 = .ok (.aload_n 0, 1) := by decide +kernel
theorem dL_law_810 : decode cL_law 810 = .ok (.iload_n 3, 1) := by decide +kernel
theorem dL_law_811 : decode cL_law 811 = .ok (.iconst 1, 1) := by decide +kernel
theorem dL_law_812 : decode cL_law 812 = .ok (.iadd, 1) := by decide +kernel
theorem dL_law_813 : decode cL_law 813 = .ok (.iaload, 1) := by decide +kernel
theorem dL_law_814 : decode cL_law 814 = .ok (.invokevirtual 104, 3) := by decide +kernel
theorem dL_law_817 : decode cL_law 817 = .ok (.if_icmp .eq 681, 3) := by decide +kernel
theorem dL_law_820 : decode cL_law 820 = .ok (.iconst 0, 1) := by decide +kernel
theorem dL_law_821 : decode cL_law 821 = .ok (.ireturn, 1) := by decide +kernel
theorem dL_law_822 : decode cL_law 822 = .ok (.aload_n 1, 1) := by decide +kernel
theorem dL_law_823 : decode cL_law 823 = .ok (.aload_n 0, 1) := by decide +kernel
theorem dL_law_824 : decode cL_law 824 = .ok (.iload_n 3, 1) := by decide +kernel
theorem dL_law_825 : decode cL_law 825 = .ok (.iconst 1, 1) := by decide +kernel
theorem dL_law_826 : decode cL_law 826 = .ok (.iadd, 1) := by decide +kernel
theorem dL_law_827 : decode cL_law 827 = .ok (.iaload, 1) := by decide +kernel
theorem dL_law_828 : decode cL_law 828 = .ok (.invokevirtual 105, 3) := by decide +kernel
theorem dL_law_831 : decode cL_law 831 = .ok (.aload_n 2, 1) := by decide +kernel
theorem dL_law_832 : decode cL_law 832 = .ok (.aload_n 0, 1) := by decide +kernel
theorem dL_law_833 : decode cL_law 833 = .ok (.iload_n 3, 1) := by decide +kernel
theorem dL_law_834 : decode cL_law 834 = .ok (.iconst 1, 1) := by decide +kernel
theorem dL_law_835 : decode cL_law 835 = .ok (.iadd, 1) := by decide +kernel
theorem dL_law_836 : decode cL_law 836 = .ok (.iaload, 1) := by decide +kernel
theorem dL_law_837 : decode cL_law 837 = .ok (.invokevirtual 108, 3) := by decide +kernel
theorem dL_law_840 : decode cL_law 840 = .ok (.if_icmp .eq 658, 3) := by decide +kernel
theorem dL_law_843 : decode cL_law 843 = .ok (.iconst 0, 1) := by decide +kernel
theorem dL_law_844 : decode cL_law 844 = .ok (.ireturn, 1) := by decide +kernel
theorem dL_law_845 : decode cL_law 845 = .ok (.aload_n 1, 1) := by decide +kernel
theorem dL_law_846 : decode cL_law 846 = .ok (.aload_n 0, 1) := by decide +kernel
theorem dL_law_847 : decode cL_law 847 = .ok (.iload_n 3, 1) := by decide +kernel
theorem dL_law_848 : decode cL_law 848 = .ok (.iconst 1, 1) := by decide +kernel
theorem dL_law_849 : decode cL_law 849 = .ok (.iadd, 1) := by decide +kernel
theorem dL_law_850 : decode cL_law 850 = .ok (.iaload, 1) := by decide +kernel
theorem dL_law_851 : decode cL_law 851 = .ok (.invokevirtual 109, 3) := by decide +kernel
theorem dL_law_854 : decode cL_law 854 = .ok (.aload_n 2, 1) := by decide +kernel
theorem dL_law_855 : decode cL_law 855 = .ok (.aload_n 0, 1) := by decide +kernel
theorem dL_law_856 : decode cL_law 856 = .ok (.iload_n 3, 1) := by decide +kernel
theorem dL_law_857 : decode cL_law 857 = .ok (.iconst 1, 1) := by decide +kernel
theorem dL_law_858 : decode cL_law 858 = .ok (.iadd, 1) := by decide +kernel
theorem dL_law_859 : decode cL_law 859 = .ok (.iaload, 1) := by decide +kernel
theorem dL_law_860 : decode cL_law 860 = .ok (.invokevirtual 112, 3) := by decide +kernel
theorem dL_law_863 : decode cL_law 863 = .ok (.if_icmp .eq 635, 3) := by decide +kernel
theorem dL_law_866 : decode cL_law 866 = .ok (.iconst 0, 1) := by decide +kernel
theorem dL_law_867 : decode cL_law 867 = .ok (.ireturn, 1) := by decide +kernel
theorem dL_law_868 : decode cL_law 868 = .ok (.aload_n 1, 1) := by decide +kernel
theorem dL_law_869 : decode cL_law 869 = .ok (.aload_n 0, 1) := by decide +kernel
theorem dL_law_870 : decode cL_law 870 = .ok (.iload_n 3, 1) := by decide +kernel
theorem dL_law_871 : decode cL_law 871 = .ok (.iconst 1, 1) := by decide +kernel
theorem dL_law_872 : decode cL_law 872 = .ok (.iadd, 1) := by decide +kernel
theorem dL_law_873 : decode cL_law 873 = .ok (.iaload, 1) := by decide +kernel
theorem dL_law_874 : decode cL_law 874 = .ok (.aload_n 0, 1) := by decide +kernel
theorem dL_law_875 : decode cL_law 875 = .ok (.iload_n 3, 1) := by decide +kernel
theorem dL_law_876 : decode cL_law 876 = .ok (.iconst 2, 1) := by decide +kernel
theorem dL_law_877 : decode cL_law 877 = .ok (.iadd, 1) := by decide +kernel
theorem dL_law_878 : decode cL_law 878 = .ok (.iaload, 1) := by decide +kernel
theorem dL_law_879 : decode cL_law 879 = .ok (.invokevirtual 113, 3) := by decide +kernel
theorem dL_law_882 : decode cL_law 882 = .ok (.aload_n 2, 1) := by decide +kernel
theorem dL_law_883 : decode cL_law 883 = .ok (.aload_n 0, 1) := by decide +kernel
theorem dL_law_884 : decode cL_law 884 = .ok (.iload_n 3, 1) := by decide +kernel
theorem dL_law_885 : decode cL_law 885 = .ok (.iconst 1, 1) := by decide +kernel
theorem dL_law_886 : decode cL_law 886 = .ok (.iadd, 1) := by decide +kernel
theorem dL_law_887 : decode cL_law 887 = .ok (.iaload, 1) := by decide +kernel
theorem dL_law_888 : decode cL_law 888 = .ok (.aload_n 0, 1) := by decide +kernel
theorem dL_law_889 : decode cL_law 889 = .ok (.iload_n 3, 1) := by decide +kernel
theorem dL_law_890 : decode cL_law 890 = .ok (.iconst 2, 1) := by decide +kernel
theorem dL_law_891 : decode cL_law 891 = .ok (.iadd, 1) := by decide +kernel
theorem dL_law_892 : decode cL_law 892 = .ok (.iaload, 1) := by decide +kernel
theorem dL_law_893 : decode cL_law 893 = .ok (.invokevirtual 116, 3) := by decide +kernel
theorem dL_law_896 : decode cL_law 896 = .ok (.if_icmp .eq 602, 3) := by decide +kernel
theorem dL_law_899 : decode cL_law 899 = .ok (.iconst 0, 1) := by decide +kernel
theorem dL_law_900 : decode cL_law 900 = .ok (.ireturn, 1) := by decide +kernel
theorem dL_law_901 : decode cL_law 901 = .ok (.aload_n 1, 1) := by decide +kernel
theorem dL_law_902 : decode cL_law 902 = .ok (.aload_n 0, 1) := by decide +kernel
theorem dL_law_903 : decode cL_law 903 = .ok (.iload_n 3, 1) := by decide +kernel
theorem dL_law_904 : decode cL_law 904 = .ok (.iconst 1, 1) := by decide +kernel
theorem dL_law_905 : decode cL_law 905 = .ok (.iadd, 1) := by decide +kernel
theorem dL_law_906 : decode cL_law 906 = .ok (.iaload, 1) := by decide +kernel
theorem dL_law_907 : decode cL_law 907 = .ok (.invokevirtual 117, 3) := by decide +kernel
theorem dL_law_910 : decode cL_law 910 = .ok (.aload_n 2, 1) := by decide +kernel
theorem dL_law_911 : decode cL_law 911 = .ok (.aload_n 0, 1) := by decide +kernel
theorem dL_law_912 : decode cL_law 912 = .ok (.iload_n 3, 1) := by decide +kernel
theorem dL_law_913 : decode cL_law 913 = .ok (.iconst 1, 1) := by decide +kernel
theorem dL_law_914 : decode cL_law 914 = .ok (.iadd, 1) := by decide +kernel
theorem dL_law_915 : decode cL_law 915 = .ok (.iaload, 1) := by decide +kernel
theorem dL_law_916 : decode cL_law 916 = .ok (.invokevirtual 120, 3) := by decide +kernel
theorem dL_law_919 : decode cL_law 919 = .ok (.if_icmp .eq 579, 3) := by decide +kernel
theorem dL_law_922 : decode cL_law 922 = .ok (.iconst 0, 1) := by decide +kernel
theorem dL_law_923 : decode cL_law 923 = .ok (.ireturn, 1) := by decide +kernel
theorem dL_law_924 : decode cL_law 924 = .ok (.aload_n 1, 1) := by decide +kernel
theorem dL_law_925 : decode cL_law 925 = .ok (.aload_n 0, 1) := by decide +kernel
theorem dL_law_926 : decode cL_law 926 = .ok (.iload_n 3, 1) := by decide +kernel
theorem dL_law_927 : decode cL_law 927 = .ok (.iconst 1, 1) := by decide +kernel
theorem dL_law_928 : decode cL_law 928 = .ok (.iadd, 1) := by decide +kernel
theorem dL_law_929 : decode cL_law 929 = .ok (.iaload, 1) := by decide +kernel
theorem dL_law_930 : decode cL_law 930 = .ok (.invokevirtual 121, 3) := by decide +kernel
theorem dL_law_933 : decode cL_law 933 = .ok (.aload_n 2, 1) := by decide +kernel
theorem dL_law_934 : decode cL_law 934 = .ok (.aload_n 0, 1) := by decide +kernel
theorem dL_law_935 : decode cL_law 935 = .ok (.iload_n 3, 1) := by decide +kernel
theorem dL_law_936 : decode cL_law 936 = .ok (.iconst 1, 1) := by decide +kernel
theorem dL_law_937 : decode cL_law 937 = .ok (.iadd, 1) := by decide +kernel
theorem dL_law_938 : decode cL_law 938 = .ok (.iaload, 1) := by decide +kernel
theorem dL_law_939 : decode cL_law 939 = .ok (.invokevirtual 124, 3) := by decide +kernel
theorem dL_law_942 : decode cL_law 942 = .ok (.if_icmp .eq 556, 3) := by decide +kernel
theorem dL_law_945 : decode cL_law 945 = .ok (.iconst 0, 1) := by decide +kernel
theorem dL_law_946 : decode cL_law 946 = .ok (.ireturn, 1) := by decide +kernel
theorem dL_law_947 : decode cL_law 947 = .ok (.aload_n 1, 1) := by decide +kernel
theorem dL_law_948 : decode cL_law 948 = .ok (.aload_n 0, 1) := by decide +kernel
theorem dL_law_949 : decode cL_law 949 = .ok (.iload_n 3, 1) := by decide +kernel
theorem dL_law_950 : decode cL_law 950 = .ok (.iconst 1, 1) := by decide +kernel
theorem dL_law_951 : decode cL_law 951 = .ok (.iadd, 1) := by decide +kernel
theorem dL_law_952 : decode cL_law 952 = .ok (.iaload, 1) := by decide +kernel
theorem dL_law_953 : decode cL_law 953 = .ok (.aload_n 0, 1) := by decide +kernel
theorem dL_law_954 : decode cL_law 954 = .ok (.iload_n 3, 1) := by decide +kernel
theorem dL_law_955 : decode cL_law 955 = .ok (.iconst 2, 1) := by decide +kernel
theorem dL_law_956 : decode cL_law 956 = .ok (.iadd, 1) := by decide +kernel
theorem dL_law_957 : decode cL_law 957 = .ok (.iaload, 1) := by decide +kernel
theorem dL_law_958 : decode cL_law 958 = .ok (.aload_n 0, 1) := by decide +kernel
theorem dL_law_959 : decode cL_law 959 = .ok (.iload_n 3, 1) := by decide +kernel
theorem dL_law_960 : decode cL_law 960 = .ok (.iconst 3, 1) := by decide +kernel
theorem dL_law_961 : decode cL_law 961 = .ok (.iadd, 1) := by decide +kernel
theorem dL_law_962 : decode cL_law 962 = .ok (.iaload, 1) := by decide +kernel
theorem dL_law_963 : decode cL_law 963 = .ok (.invokevirtual 125, 3) := by decide +kernel
theorem dL_law_966 : decode cL_law 966 = .ok (.aload_n 2, 1) := by decide +kernel
theorem dL_law_967 : decode cL_law 967 = .ok (.aload_n 0, 1) := by decide +kernel
theorem dL_law_968 : decode cL_law 968 = .ok (.iload_n 3, 1) := by decide +kernel
theorem dL_law_969 : decode cL_law 969 = .ok (.iconst 1, 1) := by decide +kernel
theorem dL_law_970 : decode cL_law 970 = .ok (.iadd, 1) := by decide +kernel
theorem dL_law_971 : decode cL_law 971 = .ok (.iaload, 1) := by decide +kernel
theorem dL_law_972 : decode cL_law 972 = .ok (.aload_n 0, 1) := by decide +kernel
theorem dL_law_973 : decode cL_law 973 = .ok (.iload_n 3, 1) := by decide +kernel
theorem dL_law_974 : decode cL_law 974 = .ok (.iconst 2, 1) := by decide +kernel
theorem dL_law_975 : decode cL_law 975 = .ok (.iadd, 1) := by decide +kernel
theorem dL_law_976 : decode cL_law 976 = .ok (.iaload, 1) := by decide +kernel
theorem dL_law_977 : decode cL_law 977 = .ok (.aload_n 0, 1) := by decide +kernel
theorem dL_law_978 : decode cL_law 978 = .ok (.iload_n 3, 1) := by decide +kernel
theorem dL_law_979 : decode cL_law 979 = .ok (.iconst 3, 1) := by decide +kernel
theorem dL_law_980 : decode cL_law 980 = .ok (.iadd, 1) := by decide +kernel
theorem dL_law_981 : decode cL_law 981 = .ok (.iaload, 1) := by decide +kernel
theorem dL_law_982 : decode cL_law 982 = .ok (.invokevirtual 129, 3) := by decide +kernel
theorem dL_law_985 : decode cL_law 985 = .ok (.lcmp, 1) := by decide +kernel
theorem dL_law_986 : decode cL_law 986 = .ok (.ifCond .eq 512, 3) := by decide +kernel
theorem dL_law_989 : decode cL_law 989 = .ok (.iconst 0, 1) := by decide +kernel
theorem dL_law_990 : decode cL_law 990 = .ok (.ireturn, 1) := by decide +kernel
theorem dL_law_991 : decode cL_law 991 = .ok (.aload_n 1, 1) := by decide +kernel
theorem dL_law_992 : decode cL_law 992 = .ok (.aload_n 0, 1) := by decide +kernel
theorem dL_law_993 : decode cL_law 993 = .ok (.iload_n 3, 1) := by decide +kernel
theorem dL_law_994 : decode cL_law 994 = .ok (.iconst 1, 1) := by decide +kernel
theorem dL_law_995 : decode cL_law 995 = .ok (.iadd, 1) := by decide +kernel
theorem dL_law_996 : decode cL_law 996 = .ok (.iaload, 1) := by decide +kernel
theorem dL_law_997 : decode cL_law 997 = .ok (.invokevirtual 130, 3) := by decide +kernel
theorem dL_law_1000 : decode cL_law 1000 = .ok (.aload_n 2, 1) := by decide +kernel
theorem dL_law_1001 : decode cL_law 1001 = .ok (.aload_n 0, 1) := by decide +kernel
theorem dL_law_1002 : decode cL_law 1002 = .ok (.iload_n 3, 1) := by decide +kernel
theorem dL_law_1003 : decode cL_law 1003 = .ok (.iconst 1, 1) := by decide +kernel
theorem dL_law_1004 : decode cL_law 1004 = .ok (.iadd, 1) := by decide +kernel
theorem dL_law_1005 : decode cL_law 1005 = .ok (.iaload, 1) := by decide +kernel
theorem dL_law_1006 : decode cL_law 1006 = .ok (.invokevirtual 133, 3) := by decide +kernel
theorem dL_law_1009 : decode cL_law 1009 = .ok (.if_icmp .eq 489, 3) := by decide +kernel
theorem dL_law_1012 : decode cL_law 1012 = .ok (.iconst 0, 1) := by decide +kernel
theorem dL_law_1013 : decode cL_law 1013 = .ok (.ireturn, 1) := by decide +kernel
theorem dL_law_1014 : decode cL_law 1014 = .ok (.aload_n 1, 1) := by decide +kernel
theorem dL_law_1015 : decode cL_law 1015 = .ok (.aload_n 0, 1) := by decide +kernel
theorem dL_law_1016 : decode cL_law 1016 = .ok (.iload_n 3, 1) := by decide +kernel
theorem dL_law_1017 : decode cL_law 1017 = .ok (.iconst 1, 1) := by decide +kernel
theorem dL_law_1018 : decode cL_law 1018 = .ok (.iadd, 1) := by decide +kernel
theorem dL_law_1019 : decode cL_law 1019 = .ok (.iaload, 1) := by decide +kernel
theorem dL_law_1020 : decode cL_law 1020 = .ok (.aload_n 0, 1) := by decide +kernel
theorem dL_law_1021 : decode cL_law 1021 = .ok (.iload_n 3, 1) := by decide +kernel
theorem dL_law_1022 : decode cL_law 1022 = .ok (.iconst 2, 1) := by decide +kernel
theorem dL_law_1023 : decode cL_law 1023 = .ok (.iadd, 1) := by decide +kernel
theorem dL_law_1024 : decode cL_law 1024 = .ok (.iaload, 1) := by decide +kernel
theorem dL_law_1025 : decode cL_law 1025 = .ok (.invokevirtual 134, 3) := by decide +kernel
theorem dL_law_1028 : decode cL_law 1028 = .ok (.aload_n 2, 1) := by decide +kernel
theorem dL_law_1029 : decode cL_law 1029 = .ok (.aload_n 0, 1) := by decide +kernel
theorem dL_law_1030 : decode cL_law 1030 = .ok (.iload_n 3, 1) := by decide +kernel
theorem dL_law_1031 : decode cL_law 1031 = .ok (.iconst 1, 1) := by decide +kernel
theorem dL_law_1032 : decode cL_law 1032 = .ok (.iadd, 1) := by decide +kernel
theorem dL_law_1033 : decode cL_law 1033 = .ok (.iaload, 1) := by decide +kernel
theorem dL_law_1034 : decode cL_law 1034 = .ok (.aload_n 0, 1) := by decide +kernel
theorem dL_law_1035 : decode cL_law 1035 = .ok (.iload_n 3, 1) := by decide +kernel
theorem dL_law_1036 : decode cL_law 1036 = .ok (.iconst 2, 1) := by decide +kernel
theorem dL_law_1037 : decode cL_law 1037 = .ok (.iadd, 1) := by decide +kernel
theorem dL_law_1038 : decode cL_law 1038 = .ok (.iaload, 1) := by decide +kernel
theorem dL_law_1039 : decode cL_law 1039 = .ok (.invokevirtual 137, 3) := by decide +kernel
theorem dL_law_1042 : decode cL_law 1042 = .ok (.if_icmp .eq 456, 3) := by decide +kernel
theorem dL_law_1045 : decode cL_law 1045 = .ok (.iconst 0, 1) := by decide +kernel
theorem dL_law_1046 : decode cL_law 1046 = .ok (.ireturn, 1) := by decide +kernel
theorem dL_law_1047 : decode cL_law 1047 = .ok (.aload_n 1, 1) := by decide +kernel
theorem dL_law_1048 : decode cL_law 1048 = .ok (.aload_n 0, 1) := by decide +kernel
theorem dL_law_1049 : decode cL_law 1049 = .ok (.iload_n 3, 1) := by decide +kernel
theorem dL_law_1050 : decode cL_law 1050 = .ok (.iconst 1, 1) := by decide +kernel
theorem dL_law_1051 : decode cL_law 1051 = .ok (.iadd, 1) := by decide +kernel
theorem dL_law_1052 : decode cL_law 1052 = .ok (.iaload, 1) := by decide +kernel
theorem dL_law_1053 : decode cL_law 1053 = .ok (.invokevirtual 138, 3) := by decide +kernel
theorem dL_law_1056 : decode cL_law 1056 = .ok (.aload_n 2, 1) := by decide +kernel
theorem dL_law_1057 : decode cL_law 1057 = .ok (.aload_n 0, 1) := by decide +kernel
theorem dL_law_1058 : decode cL_law 1058 = .ok (.iload_n 3, 1) := by decide +kernel
theorem dL_law_1059 : decode cL_law 1059 = .ok (.iconst 1, 1) := by decide +kernel
theorem dL_law_1060 : decode cL_law 1060 = .ok (.iadd, 1) := by decide +kernel
theorem dL_law_1061 : decode cL_law 1061 = .ok (.iaload, 1) := by decide +kernel
theorem dL_law_1062 : decode cL_law 1062 = .ok (.invokevirtual 141, 3) := by decide +kernel
theorem dL_law_1065 : decode cL_law 1065 = .ok (.if_icmp .eq 433, 3) := by decide +kernel
theorem dL_law_1068 : decode cL_law 1068 = .ok (.iconst 0, 1) := by decide +kernel
theorem dL_law_1069 : decode cL_law 1069 = .ok (.ireturn, 1) := by decide +kernel
theorem dL_law_1070 : decode cL_law 1070 = .ok (.aload_n 1, 1) := by decide +kernel
theorem dL_law_1071 : decode cL_law 1071 = .ok (.aload_n 0, 1) := by decide +kernel
theorem dL_law_1072 : decode cL_law 1072 = .ok (.iload_n 3, 1) := by decide +kernel
theorem dL_law_1073 : decode cL_law 1073 = .ok (.iconst 1, 1) := by decide +kernel
theorem dL_law_1074 : decode cL_law 1074 = .ok (.iadd, 1) := by decide +kernel
theorem dL_law_1075 : decode cL_law 1075 = .ok (.iaload, 1) := by decide +kernel
theorem dL_law_1076 : decode cL_law 1076 = .ok (.invokevirtual 142, 3) := by decide +kernel
theorem dL_law_1079 : decode cL_law 1079 = .ok (.aload_n 2, 1) := by decide +kernel
theorem dL_law_1080 : decode cL_law 1080 = .ok (.aload_n 0, 1) := by decide +kernel
theorem dL_law_1081 : decode cL_law 1081 = .ok (.iload_n 3, 1) := by decide +kernel
theorem dL_law_1082 : decode cL_law 1082 = .ok (.iconst 1, 1) := by decide +kernel
theorem dL_law_1083 : decode cL_law 1083 = .ok (.iadd, 1) := by decide +kernel
theorem dL_law_1084 : decode cL_law 1084 = .ok (.iaload, 1) := by decide +kernel
theorem dL_law_1085 : decode cL_law 1085 = .ok (.invokevirtual 145, 3) := by decide +kernel
theorem dL_law_1088 : decode cL_law 1088 = .ok (.if_icmp .eq 410, 3) := by decide +kernel
theorem dL_law_1091 : decode cL_law 1091 = .ok (.iconst 0, 1) := by decide +kernel
theorem dL_law_1092 : decode cL_law 1092 = .ok (.ireturn, 1) := by decide +kernel
theorem dL_law_1093 : decode cL_law 1093 = .ok (.aload_n 1, 1) := by decide +kernel
theorem dL_law_1094 : decode cL_law 1094 = .ok (.aload_n 0, 1) := by decide +kernel
theorem dL_law_1095 : decode cL_law 1095 = .ok (.iload_n 3, 1) := by decide +kernel
theorem dL_law_1096 : decode cL_law 1096 = .ok (.iconst 1, 1) := by decide +kernel
theorem dL_law_1097 : decode cL_law 1097 = .ok (.iadd, 1) := by decide +kernel
theorem dL_law_1098 : decode cL_law 1098 = .ok (.iaload, 1) := by decide +kernel
theorem dL_law_1099 : decode cL_law 1099 = .ok (.aload_n 0, 1) := by decide +kernel
theorem dL_law_1100 : decode cL_law 1100 = .ok (.iload_n 3, 1) := by decide +kernel
theorem dL_law_1101 : decode cL_law 1101 = .ok (.iconst 2, 1) := by decide +kernel
theorem dL_law_1102 : decode cL_law 1102 = .ok (.iadd, 1) := by decide +kernel
theorem dL_law_1103 : decode cL_law 1103 = .ok (.iaload, 1) := by decide +kernel
theorem dL_law_1104 : decode cL_law 1104 = .ok (.invokevirtual 146, 3) := by decide +kernel
theorem dL_law_1107 : decode cL_law 1107 = .ok (.aload_n 2, 1) := by decide +kernel
theorem dL_law_1108 : decode cL_law 1108 = .ok (.aload_n 0, 1) := by decide +kernel
theorem dL_law_1109 : decode cL_law 1109 = .ok (.iload_n 3, 1) := by decide +kernel
theorem dL_law_1110 : decode cL_law 1110 = .ok (.iconst 1, 1) := by decide +kernel
theorem dL_law_1111 : decode cL_law 1111 = .ok (.iadd, 1) := by decide +kernel
theorem dL_law_1112 : decode cL_law 1112 = .ok (.iaload, 1) := by decide +kernel
theorem dL_law_1113 : decode cL_law 1113 = .ok (.aload_n 0, 1) := by decide +kernel
theorem dL_law_1114 : decode cL_law 1114 = .ok (.iload_n 3, 1) := by decide +kernel
theorem dL_law_1115 : decode cL_law 1115 = .ok (.iconst 2, 1) := by decide +kernel
theorem dL_law_1116 : decode cL_law 1116 = .ok (.iadd, 1) := by decide +kernel
theorem dL_law_1117 : decode cL_law 1117 = .ok (.iaload, 1) := by decide +kernel
theorem dL_law_1118 : decode cL_law 1118 = .ok (.invokevirtual 149, 3) := by decide +kernel
theorem dL_law_1121 : decode cL_law 1121 = .ok (.if_icmp .eq 377, 3) := by decide +kernel
theorem dL_law_1124 : decode cL_law 1124 = .ok (.iconst 0, 1) := by decide +kernel
theorem dL_law_1125 : decode cL_law 1125 = .ok (.ireturn, 1) := by decide +kernel
theorem dL_law_1126 : decode cL_law 1126 = .ok (.aload_n 1, 1) := by decide +kernel
theorem dL_law_1127 : decode cL_law 1127 = .ok (.invokevirtual 150, 3) := by decide +kernel
theorem dL_law_1130 : decode cL_law 1130 = .ok (.aload_n 2, 1) := by decide +kernel
theorem dL_law_1131 : decode cL_law 1131 = .ok (.invokevirtual 153, 3) := by decide +kernel
theorem dL_law_1134 : decode cL_law 1134 = .ok (.if_icmp .eq 364, 3) := by decide +kernel
theorem dL_law_1137 : decode cL_law 1137 = .ok (.iconst 0, 1) := by decide +kernel
theorem dL_law_1138 : decode cL_law 1138 = .ok (.ireturn, 1) := by decide +kernel
theorem dL_law_1139 : decode cL_law 1139 = .ok (.aload_n 1, 1) := by decide +kernel
theorem dL_law_1140 : decode cL_law 1140 = .ok (.invokevirtual 154, 3) := by decide +kernel
theorem dL_law_1143 : decode cL_law 1143 = .ok (.aload_n 2, 1) := by decide +kernel
theorem dL_law_1144 : decode cL_law 1144 = .ok (.invokevirtual 157, 3) := by decide +kernel
theorem dL_law_1147 : decode cL_law 1147 = .ok (.if_icmp .eq 351, 3) := by decide +kernel
theorem dL_law_1150 : decode cL_law 1150 = .ok (.iconst 0, 1) := by decide +kernel
theorem dL_law_1151 : decode cL_law 1151 = .ok (.ireturn, 1) := by decide +kernel
theorem dL_law_1152 : decode cL_law 1152 = .ok (.aload_n 1, 1) := by decide +kernel
theorem dL_law_1153 : decode cL_law 1153 = .ok (.aload_n 0, 1) := by decide +kernel
theorem dL_law_1154 : decode cL_law 1154 = .ok (.iload_n 3, 1) := by decide +kernel
theorem dL_law_1155 : decode cL_law 1155 = .ok (.iconst 1, 1) := by decide +kernel
theorem dL_law_1156 : decode cL_law 1156 = .ok (.iadd, 1) := by decide +kernel
theorem dL_law_1157 : decode cL_law 1157 = .ok (.iaload, 1) := by decide +kernel
theorem dL_law_1158 : decode cL_law 1158 = .ok (.aload_n 0, 1) := by decide +kernel
theorem dL_law_1159 : decode cL_law 1159 = .ok (.iload_n 3, 1) := by decide +kernel
theorem dL_law_1160 : decode cL_law 1160 = .ok (.iconst 2, 1) := by decide +kernel
theorem dL_law_1161 : decode cL_law 1161 = .ok (.iadd, 1) := by decide +kernel
theorem dL_law_1162 : decode cL_law 1162 = .ok (.iaload, 1) := by decide +kernel
theorem dL_law_1163 : decode cL_law 1163 = .ok (.invokevirtual 158, 3) := by decide +kernel
theorem dL_law_1166 : decode cL_law 1166 = .ok (.aload_n 2, 1) := by decide +kernel
theorem dL_law_1167 : decode cL_law 1167 = .ok (.aload_n 0, 1) := by decide +kernel
theorem dL_law_1168 : decode cL_law 1168 = .ok (.iload_n 3, 1) := by decide +kernel
theorem dL_law_1169 : decode cL_law 1169 = .ok (.iconst 1, 1) := by decide +kernel
theorem dL_law_1170 : decode cL_law 1170 = .ok (.iadd, 1) := by decide +kernel
theorem dL_law_1171 : decode cL_law 1171 = .ok (.iaload, 1) := by decide +kernel
theorem dL_law_1172 : decode cL_law 1172 = .ok (.aload_n 0, 1) := by decide +kernel
theorem dL_law_1173 : decode cL_law 1173 = .ok (.iload_n 3, 1) := by decide +kernel
theorem dL_law_1174 : decode cL_law 1174 = .ok (.iconst 2, 1) := by decide +kernel
theorem dL_law_1175 : decode cL_law 1175 = .ok (.iadd, 1) := by decide +kernel
theorem dL_law_1176 : decode cL_law 1176 = .ok (.iaload, 1) := by decide +kernel
theorem dL_law_1177 : decode cL_law 1177 = .ok (.invokevirtual 161, 3) := by decide +kernel
theorem dL_law_1180 : decode cL_law 1180 = .ok (.if_icmp .eq 318, 3) := by decide +kernel
theorem dL_law_1183 : decode cL_law 1183 = .ok (.iconst 0, 1) := by decide +kernel
theorem dL_law_1184 : decode cL_law 1184 = .ok (.ireturn, 1) := by decide +kernel
theorem dL_law_1185 : decode cL_law 1185 = .ok (.aload_n 1, 1) := by decide +kernel
theorem dL_law_1186 : decode cL_law 1186 = .ok (.aload_n 0, 1) := by decide +kernel
theorem dL_law_1187 : decode cL_law 1187 = .ok (.iload_n 3, 1) := by decide +kernel
theorem dL_law_1188 : decode cL_law 1188 = .ok (.iconst 1, 1) := by decide +kernel
theorem dL_law_1189 : decode cL_law 1189 = .ok (.iadd, 1) := by decide +kernel
theorem dL_law_1190 : decode cL_law 1190 = .ok (.iaload, 1) := by decide +kernel
theorem dL_law_1191 : decode cL_law 1191 = .ok (.aload_n 0, 1) := by decide +kernel
theorem dL_law_1192 : decode cL_law 1192 = .ok (.iload_n 3, 1) := by decide +kernel
theorem dL_law_1193 : decode cL_law 1193 = .ok (.iconst 2, 1) := by decide +kernel
theorem dL_law_1194 : decode cL_law 1194 = .ok (.iadd, 1) := by decide +kernel
theorem dL_law_1195 : decode cL_law 1195 = .ok (.iaload, 1) := by decide +kernel
theorem dL_law_1196 : decode cL_law 1196 = .ok (.invokevirtual 162, 3) := by decide +kernel
theorem dL_law_1199 : decode cL_law 1199 = .ok (.aload_n 2, 1) := by decide +kernel
theorem dL_law_1200 : decode cL_law 1200 = .ok (.aload_n 0, 1) := by decide +kernel
theorem dL_law_1201 : decode cL_law 1201 = .ok (.iload_n 3, 1) := by decide +kernel
theorem dL_law_1202 : decode cL_law 1202 = .ok (.iconst 1, 1) := by decide +kernel
theorem dL_law_1203 : decode cL_law 1203 = .ok (.iadd, 1) := by decide +kernel
theorem dL_law_1204 : decode cL_law 1204 = .ok (.iaload, 1) := by decide +kernel
theorem dL_law_1205 : decode cL_law 1205 = .ok (.aload_n 0, 1) := by decide +kernel
theorem dL_law_1206 : decode cL_law 1206 = .ok (.iload_n 3, 1) := by decide +kernel
theorem dL_law_1207 : decode cL_law 1207 = .ok (.iconst 2, 1) := by decide +kernel
theorem dL_law_1208 : decode cL_law 1208 = .ok (.iadd, 1) := by decide +kernel
theorem dL_law_1209 : decode cL_law 1209 = .ok (.iaload, 1) := by decide +kernel
theorem dL_law_1210 : decode cL_law 1210 = .ok (.invokevirtual 165, 3) := by decide +kernel
theorem dL_law_1213 : decode cL_law 1213 = .ok (.if_icmp .eq 285, 3) := by decide +kernel
theorem dL_law_1216 : decode cL_law 1216 = .ok (.iconst 0, 1) := by decide +kernel
theorem dL_law_1217 : decode cL_law 1217 = .ok (.ireturn, 1) := by decide +kernel
theorem dL_law_1218 : decode cL_law 1218 = .ok (.aload_n 1, 1) := by decide +kernel
theorem dL_law_1219 : decode cL_law 1219 = .ok (.aload_n 0, 1) := by decide +kernel
theorem dL_law_1220 : decode cL_law 1220 = .ok (.iload_n 3, 1) := by decide +kernel
theorem dL_law_1221 : decode cL_law 1221 = .ok (.iconst 1, 1) := by decide +kernel
theorem dL_law_1222 : decode cL_law 1222 = .ok (.iadd, 1) := by decide +kernel
theorem dL_law_1223 : decode cL_law 1223 = .ok (.iaload, 1) := by decide +kernel
theorem dL_law_1224 : decode cL_law 1224 = .ok (.aload_n 0, 1) := by decide +kernel
theorem dL_law_1225 : decode cL_law 1225 = .ok (.iload_n 3, 1) := by decide +kernel
theorem dL_law_1226 : decode cL_law 1226 = .ok (.iconst 2, 1) := by decide +kernel
theorem dL_law_1227 : decode cL_law 1227 = .ok (.iadd, 1) := by decide +kernel
theorem dL_law_1228 : decode cL_law 1228 = .ok (.iaload, 1) := by decide +kernel
theorem dL_law_1229 : decode cL_law 1229 = .ok (.aload_n 0, 1) := by decide +kernel
theorem dL_law_1230 : decode cL_law 1230 = .ok (.iload_n 3, 1) := by decide +kernel
theorem dL_law_1231 : decode cL_law 1231 = .ok (.iconst 3, 1) := by decide +kernel
theorem dL_law_1232 : decode cL_law 1232 = .ok (.iadd, 1) := by decide +kernel
theorem dL_law_1233 : decode cL_law 1233 = .ok (.iaload, 1) := by decide +kernel
theorem dL_law_1234 : decode cL_law 1234 = .ok (.invokevirtual 166, 3) := by decide +kernel
theorem dL_law_1237 : decode cL_law 1237 = .ok (.aload_n 2, 1) := by decide +kernel
theorem dL_law_1238 : decode cL_law 1238 = .ok (.aload_n 0, 1) := by decide +kernel
theorem dL_law_1239 : decode cL_law 1239 = .ok (.iload_n 3, 1) := by decide +kernel
theorem dL_law_1240 : decode cL_law 1240 = .ok (.iconst 1, 1) := by decide +kernel
theorem dL_law_1241 : decode cL_law 1241 = .ok (.iadd, 1) := by decide +kernel
theorem dL_law_1242 : decode cL_law 1242 = .ok (.iaload, 1) := by decide +kernel
theorem dL_law_1243 : decode cL_law 1243 = .ok (.aload_n 0, 1) := by decide +kernel
theorem dL_law_1244 : decode cL_law 1244 = .ok (.iload_n 3, 1) := by decide +kernel
theorem dL_law_1245 : decode cL_law 1245 = .ok (.iconst 2, 1) := by decide +kernel
theorem dL_law_1246 : decode cL_law 1246 = .ok (.iadd, 1) := by decide +kernel
theorem dL_law_1247 : decode cL_law 1247 = .ok (.iaload, 1) := by decide +kernel
theorem dL_law_1248 : decode cL_law 1248 = .ok (.aload_n 0, 1) := by decide +kernel
theorem dL_law_1249 : decode cL_law 1249 = .ok (.iload_n 3, 1) := by decide +kernel
theorem dL_law_1250 : decode cL_law 1250 = .ok (.iconst 3, 1) := by decide +kernel
theorem dL_law_1251 : decode cL_law 1251 = .ok (.iadd, 1) := by decide +kernel
theorem dL_law_1252 : decode cL_law 1252 = .ok (.iaload, 1) := by decide +kernel
theorem dL_law_1253 : decode cL_law 1253 = .ok (.invokevirtual 169, 3) := by decide +kernel
theorem dL_law_1256 : decode cL_law 1256 = .ok (.if_icmp .eq 242, 3) := by decide +kernel
theorem dL_law_1259 : decode cL_law 1259 = .ok (.iconst 0, 1) := by decide +kernel
theorem dL_law_1260 : decode cL_law 1260 = .ok (.ireturn, 1) := by decide +kernel
theorem dL_law_1261 : decode cL_law 1261 = .ok (.aload_n 1, 1) := by decide +kernel
theorem dL_law_1262 : decode cL_law 1262 = .ok (.aload_n 0, 1) := by decide +kernel
theorem dL_law_1263 : decode cL_law 1263 = .ok (.iload_n 3, 1) := by decide +kernel
theorem dL_law_1264 : decode cL_law 1264 = .ok (.iconst 1, 1) := by decide +kernel
theorem dL_law_1265 : decode cL_law 1265 = .ok (.iadd, 1) := by decide +kernel
theorem dL_law_1266 : decode cL_law 1266 = .ok (.iaload, 1) := by decide +kernel
theorem dL_law_1267 : decode cL_law 1267 = .ok (.aload_n 0, 1) := by decide +kernel
theorem dL_law_1268 : decode cL_law 1268 = .ok (.iload_n 3, 1) := by decide +kernel
theorem dL_law_1269 : decode cL_law 1269 = .ok (.iconst 2, 1) := by decide +kernel
theorem dL_law_1270 : decode cL_law 1270 = .ok (.iadd, 1) := by decide +kernel
theorem dL_law_1271 : decode cL_law 1271 = .ok (.iaload, 1) := by decide +kernel
theorem dL_law_1272 : decode cL_law 1272 = .ok (.aload_n 0, 1) := by decide +kernel
theorem dL_law_1273 : decode cL_law 1273 = .ok (.iload_n 3, 1) := by decide +kernel
theorem dL_law_1274 : decode cL_law 1274 = .ok (.iconst 3, 1) := by decide +kernel
theorem dL_law_1275 : decode cL_law 1275 = .ok (.iadd, 1) := by decide +kernel
theorem dL_law_1276 : decode cL_law 1276 = .ok (.iaload, 1) := by decide +kernel
theorem dL_law_1277 : decode cL_law 1277 = .ok (.invokevirtual 170, 3) := by decide +kernel
theorem dL_law_1280 : decode cL_law 1280 = .ok (.aload_n 2, 1) := by decide +kernel
theorem dL_law_1281 : decode cL_law 1281 = .ok (.aload_n 0, 1) := by decide +kernel
theorem dL_law_1282 : decode cL_law 1282 = .ok (.iload_n 3, 1) := by decide +kernel
theorem dL_law_1283 : decode cL_law 1283 = .ok (.iconst 1, 1) := by decide +kernel
theorem dL_law_1284 : decode cL_law 1284 = .ok (.iadd, 1) := by decide +kernel
theorem dL_law_1285 : decode cL_law 1285 = .ok (.iaload, 1) := by decide +kernel
theorem dL_law_1286 : decode cL_law 1286 = .ok (.aload_n 0, 1) := by decide +kernel
theorem dL_law_1287 : decode cL_law 1287 = .ok (.iload_n 3, 1) := by decide +kernel
theorem dL_law_1288 : decode cL_law 1288 = .ok (.iconst 2, 1) := by decide +kernel
theorem dL_law_1289 : decode cL_law 1289 = .ok (.iadd, 1) := by decide +kernel
theorem dL_law_1290 : decode cL_law 1290 = .ok (.iaload, 1) := by decide +kernel
theorem dL_law_1291 : decode cL_law 1291 = .ok (.aload_n 0, 1) := by decide +kernel
theorem dL_law_1292 : decode cL_law 1292 = .ok (.iload_n 3, 1) := by decide +kernel
theorem dL_law_1293 : decode cL_law 1293 = .ok (.iconst 3, 1) := by decide +kernel
theorem dL_law_1294 : decode cL_law 1294 = .ok (.iadd, 1) := by decide +kernel
theorem dL_law_1295 : decode cL_law 1295 = .ok (.iaload, 1) := by decide +kernel
theorem dL_law_1296 : decode cL_law 1296 = .ok (.invokevirtual 173, 3) := by decide +kernel
theorem dL_law_1299 : decode cL_law 1299 = .ok (.if_icmp .eq 199, 3) := by decide +kernel
theorem dL_law_1302 : decode cL_law 1302 = .ok (.iconst 0, 1) := by decide +kernel
theorem dL_law_1303 : decode cL_law 1303 = .ok (.ireturn, 1) := by decide +kernel
theorem dL_law_1304 : decode cL_law 1304 = .ok (.aload_n 1, 1) := by decide +kernel
theorem dL_law_1305 : decode cL_law 1305 = .ok (.aload_n 0, 1) := by decide +kernel
theorem dL_law_1306 : decode cL_law 1306 = .ok (.iload_n 3, 1) := by decide +kernel
theorem dL_law_1307 : decode cL_law 1307 = .ok (.iconst 1, 1) := by decide +kernel
theorem dL_law_1308 : decode cL_law 1308 = .ok (.iadd, 1) := by decide +kernel
theorem dL_law_1309 : decode cL_law 1309 = .ok (.iaload, 1) := by decide +kernel
theorem dL_law_1310 : decode cL_law 1310 = .ok (.aload_n 0, 1) := by decide +kernel
theorem dL_law_1311 : decode cL_law 1311 = .ok (.iload_n 3, 1) := by decide +kernel
theorem dL_law_1312 : decode cL_law 1312 = .ok (.iconst 2, 1) := by decide +kernel
theorem dL_law_1313 : decode cL_law 1313 = .ok (.iadd, 1) := by decide +kernel
theorem dL_law_1314 : decode cL_law 1314 = .ok (.iaload, 1) := by decide +kernel
theorem dL_law_1315 : decode cL_law 1315 = .ok (.aload_n 0, 1) := by decide +kernel
theorem dL_law_1316 : decode cL_law 1316 = .ok (.iload_n 3, 1) := by decide +kernel
theorem dL_law_1317 : decode cL_law 1317 = .ok (.iconst 3, 1) := by decide +kernel
theorem dL_law_1318 : decode cL_law 1318 = .ok (.iadd, 1) := by decide +kernel
theorem dL_law_1319 : decode cL_law 1319 = .ok (.iaload, 1) := by decide +kernel
theorem dL_law_1320 : decode cL_law 1320 = .ok (.aload_n 0, 1) := by decide +kernel
theorem dL_law_1321 : decode cL_law 1321 = .ok (.iload_n 3, 1) := by decide +kernel
theorem dL_law_1322 : decode cL_law 1322 = .ok (.iconst 4, 1) := by decide +kernel
theorem dL_law_1323 : decode cL_law 1323 = .ok (.iadd, 1) := by decide +kernel
theorem dL_law_1324 : decode cL_law 1324 = .ok (.iaload, 1) := by decide +kernel
theorem dL_law_1325 : decode cL_law 1325 = .ok (.aload_n 0, 1) := by decide +kernel
theorem dL_law_1326 : decode cL_law 1326 = .ok (.iload_n 3, 1) := by decide +kernel
theorem dL_law_1327 : decode cL_law 1327 = .ok (.iconst 5, 1) := by decide +kernel
theorem dL_law_1328 : decode cL_law 1328 = .ok (.iadd, 1) := by decide +kernel
theorem dL_law_1329 : decode cL_law 1329 = .ok (.iaload, 1) := by decide +kernel
theorem dL_law_1330 : decode cL_law 1330 = .ok (.invokevirtual 174, 3) := by decide +kernel
theorem dL_law_1333 : decode cL_law 1333 = .ok (.aload_n 2, 1) := by decide +kernel
theorem dL_law_1334 : decode cL_law 1334 = .ok (.aload_n 0, 1) := by decide +kernel
theorem dL_law_1335 : decode cL_law 1335 = .ok (.iload_n 3, 1) := by decide +kernel
theorem dL_law_1336 : decode cL_law 1336 = .ok (.iconst 1, 1) := by decide +kernel
theorem dL_law_1337 : decode cL_law 1337 = .ok (.iadd, 1) := by decide +kernel
theorem dL_law_1338 : decode cL_law 1338 = .ok (.iaload, 1) := by decide +kernel
theorem dL_law_1339 : decode cL_law 1339 = .ok (.aload_n 0, 1) := by decide +kernel
theorem dL_law_1340 : decode cL_law 1340 = .ok (.iload_n 3, 1) := by decide +kernel
theorem dL_law_1341 : decode cL_law 1341 = .ok (.iconst 2, 1) := by decide +kernel
theorem dL_law_1342 : decode cL_law 1342 = .ok (.iadd, 1) := by decide +kernel
theorem dL_law_1343 : decode cL_law 1343 = .ok (.iaload, 1) := by decide +kernel
theorem dL_law_1344 : decode cL_law 1344 = .ok (.aload_n 0, 1) := by decide +kernel
theorem dL_law_1345 : decode cL_law 1345 = .ok (.iload_n 3, 1) := by decide +kernel
theorem dL_law_1346 : decode cL_law 1346 = .ok (.iconst 3, 1) := by decide +kernel
theorem dL_law_1347 : decode cL_law 1347 = .ok (.iadd, 1) := by decide +kernel
theorem dL_law_1348 : decode cL_law 1348 = .ok (.iaload, 1) := by decide +kernel
theorem dL_law_1349 : decode cL_law 1349 = .ok (.aload_n 0, 1) := by decide +kernel
theorem dL_law_1350 : decode cL_law 1350 = .ok (.iload_n 3, 1) := by decide +kernel
theorem dL_law_1351 : decode cL_law 1351 = .ok (.iconst 4, 1) := by decide +kernel
theorem dL_law_1352 : decode cL_law 1352 = .ok (.iadd, 1) := by decide +kernel
theorem dL_law_1353 : decode cL_law 1353 = .ok (.iaload, 1) := by decide +kernel
theorem dL_law_1354 : decode cL_law 1354 = .ok (.aload_n 0, 1) := by decide +kernel
theorem dL_law_1355 : decode cL_law 1355 = .ok (.iload_n 3, 1) := by decide +kernel
theorem dL_law_1356 : decode cL_law 1356 = .ok (.iconst 5, 1) := by decide +kernel
theorem dL_law_1357 : decode cL_law 1357 = .ok (.iadd, 1) := by decide +kernel
theorem dL_law_1358 : decode cL_law 1358 = .ok (.iaload, 1) := by decide +kernel
theorem dL_law_1359 : decode cL_law 1359 = .ok (.invokevirtual 178, 3) := by decide +kernel
theorem dL_law_1362 : decode cL_law 1362 = .ok (.if_icmp .eq 136, 3) := by decide +kernel
theorem dL_law_1365 : decode cL_law 1365 = .ok (.iconst 0, 1) := by decide +kernel
theorem dL_law_1366 : decode cL_law 1366 = .ok (.ireturn, 1) := by decide +kernel
theorem dL_law_1367 : decode cL_law 1367 = .ok (.aload_n 1, 1) := by decide +kernel
theorem dL_law_1368 : decode cL_law 1368 = .ok (.aload_n 0, 1) := by decide +kernel
theorem dL_law_1369 : decode cL_law 1369 = .ok (.iload_n 3, 1) := by decide +kernel
theorem dL_law_1370 : decode cL_law 1370 = .ok (.iconst 1, 1) := by decide +kernel
theorem dL_law_1371 : decode cL_law 1371 = .ok (.iadd, 1) := by decide +kernel
theorem dL_law_1372 : decode cL_law 1372 = .ok (.iaload, 1) := by decide +kernel
theorem dL_law_1373 : decode cL_law 1373 = .ok (.invokevirtual 179, 3) := by decide +kernel
theorem dL_law_1376 : decode cL_law 1376 = .ok (.aload_n 2, 1) := by decide +kernel
theorem dL_law_1377 : decode cL_law 1377 = .ok (.aload_n 0, 1) := by decide +kernel
theorem dL_law_1378 : decode cL_law 1378 = .ok (.iload_n 3, 1) := by decide +kernel
theorem dL_law_1379 : decode cL_law 1379 = .ok (.iconst 1, 1) := by decide +kernel
theorem dL_law_1380 : decode cL_law 1380 = .ok (.iadd, 1) := by decide +kernel
theorem dL_law_1381 : decode cL_law 1381 = .ok (.iaload, 1) := by decide +kernel
theorem dL_law_1382 : decode cL_law 1382 = .ok (.invokevirtual 182, 3) := by decide +kernel
theorem dL_law_1385 : decode cL_law 1385 = .ok (.if_icmp .eq 113, 3) := by decide +kernel
theorem dL_law_1388 : decode cL_law 1388 = .ok (.iconst 0, 1) := by decide +kernel
theorem dL_law_1389 : decode cL_law 1389 = .ok (.ireturn, 1) := by decide +kernel
theorem dL_law_1390 : decode cL_law 1390 = .ok (.aload_n 1, 1) := by decide +kernel
theorem dL_law_1391 : decode cL_law 1391 = .ok (.aload_n 0, 1) := by decide +kernel
theorem dL_law_1392 : decode cL_law 1392 = .ok (.iload_n 3, 1) := by decide +kernel
theorem dL_law_1393 : decode cL_law 1393 = .ok (.iconst 1, 1) := by decide +kernel
theorem dL_law_1394 : decode cL_law 1394 = .ok (.iadd, 1) := by decide +kernel
theorem dL_law_1395 : decode cL_law 1395 = .ok (.iaload, 1) := by decide +kernel
theorem dL_law_1396 : decode cL_law 1396 = .ok (.invokevirtual 183, 3) := by decide +kernel
theorem dL_law_1399 : decode cL_law 1399 = .ok (.aload_n 2, 1) := by decide +kernel
theorem dL_law_1400 : decode cL_law 1400 = .ok (.aload_n 0, 1) := by decide +kernel
theorem dL_law_1401 : decode cL_law 1401 = .ok (.iload_n 3, 1) := by decide +kernel
theorem dL_law_1402 : decode cL_law 1402 = .ok (.iconst 1, 1) := by decide +kernel
theorem dL_law_1403 : decode cL_law 1403 = .ok (.iadd, 1) := by decide +kernel
theorem dL_law_1404 : decode cL_law 1404 = .ok (.iaload, 1) := by decide +kernel
theorem dL_law_1405 : decode cL_law 1405 = .ok (.invokevirtual 186, 3) := by decide +kernel
theorem dL_law_1408 : decode cL_law 1408 = .ok (.if_icmp .eq 90, 3) := by decide +kernel
theorem dL_law_1411 : decode cL_law 1411 = .ok (.iconst 0, 1) := by decide +kernel
theorem dL_law_1412 : decode cL_law 1412 = .ok (.ireturn, 1) := by decide +kernel
theorem dL_law_1413 : decode cL_law 1413 = .ok (.aload_n 1, 1) := by decide +kernel
theorem dL_law_1414 : decode cL_law 1414 = .ok (.invokevirtual 187, 3) := by decide +kernel
theorem dL_law_1417 : decode cL_law 1417 = .ok (.aload_n 2, 1) := by decide +kernel
theorem dL_law_1418 : decode cL_law 1418 = .ok (.invokevirtual 190, 3) := by decide +kernel
theorem dL_law_1421 : decode cL_law 1421 = .ok (.if_icmp .eq 77, 3) := by decide +kernel
theorem dL_law_1424 : decode cL_law 1424 = .ok (.iconst 0, 1) := by decide +kernel
theorem dL_law_1425 : decode cL_law 1425 = .ok (.ireturn, 1) := by decide +kernel
theorem dL_law_1426 : decode cL_law 1426 = .ok (.aload_n 1, 1) := by decide +kernel
theorem dL_law_1427 : decode cL_law 1427 = .ok (.invokevirtual 191, 3) := by decide +kernel
theorem dL_law_1430 : decode cL_law 1430 = .ok (.aload_n 2, 1) := by decide +kernel
theorem dL_law_1431 : decode cL_law 1431 = .ok (.invokevirtual 194, 3) := by decide +kernel
theorem dL_law_1434 : decode cL_law 1434 = .ok (.if_icmp .eq 64, 3) := by decide +kernel
theorem dL_law_1437 : decode cL_law 1437 = .ok (.iconst 0, 1) := by decide +kernel
theorem dL_law_1438 : decode cL_law 1438 = .ok (.ireturn, 1) := by decide +kernel
theorem dL_law_1439 : decode cL_law 1439 = .ok (.aload_n 1, 1) := by decide +kernel
theorem dL_law_1440 : decode cL_law 1440 = .ok (.invokevirtual 195, 3) := by decide +kernel
theorem dL_law_1443 : decode cL_law 1443 = .ok (.aload_n 2, 1) := by decide +kernel
theorem dL_law_1444 : decode cL_law 1444 = .ok (.invokevirtual 198, 3) := by decide +kernel
theorem dL_law_1447 : decode cL_law 1447 = .ok (.if_icmp .eq 51, 3) := by decide +kernel
theorem dL_law_1450 : decode cL_law 1450 = .ok (.iconst 0, 1) := by decide +kernel
theorem dL_law_1451 : decode cL_law 1451 = .ok (.ireturn, 1) := by decide +kernel
theorem dL_law_1452 : decode cL_law 1452 = .ok (.aload_n 1, 1) := by decide +kernel
theorem dL_law_1453 : decode cL_law 1453 = .ok (.aload_n 0, 1) := by decide +kernel
theorem dL_law_1454 : decode cL_law 1454 = .ok (.iload_n 3, 1) := by decide +kernel
theorem dL_law_1455 : decode cL_law 1455 = .ok (.iconst 1, 1) := by decide +kernel
theorem dL_law_1456 : decode cL_law 1456 = .ok (.iadd, 1) := by decide +kernel
theorem dL_law_1457 : decode cL_law 1457 = .ok (.iaload, 1) := by decide +kernel
theorem dL_law_1458 : decode cL_law 1458 = .ok (.invokevirtual 199, 3) := by decide +kernel
theorem dL_law_1461 : decode cL_law 1461 = .ok (.aload_n 2, 1) := by decide +kernel
theorem dL_law_1462 : decode cL_law 1462 = .ok (.aload_n 0, 1) := by decide +kernel
theorem dL_law_1463 : decode cL_law 1463 = .ok (.iload_n 3, 1) := by decide +kernel
theorem dL_law_1464 : decode cL_law 1464 = .ok (.iconst 1, 1) := by decide +kernel
theorem dL_law_1465 : decode cL_law 1465 = .ok (.iadd, 1) := by decide +kernel
theorem dL_law_1466 : decode cL_law 1466 = .ok (.iaload, 1) := by decide +kernel
theorem dL_law_1467 : decode cL_law 1467 = .ok (.invokevirtual 202, 3) := by decide +kernel
theorem dL_law_1470 : decode cL_law 1470 = .ok (.if_icmp .eq 28, 3) := by decide +kernel
theorem dL_law_1473 : decode cL_law 1473 = .ok (.iconst 0, 1) := by decide +kernel
theorem dL_law_1474 : decode cL_law 1474 = .ok (.ireturn, 1) := by decide +kernel
theorem dL_law_1475 : decode cL_law 1475 = .ok (.aload_n 1, 1) := by decide +kernel
theorem dL_law_1476 : decode cL_law 1476 = .ok (.aload_n 0, 1) := by decide +kernel
theorem dL_law_1477 : decode cL_law 1477 = .ok (.iload_n 3, 1) := by decide +kernel
theorem dL_law_1478 : decode cL_law 1478 = .ok (.iconst 1, 1) := by decide +kernel
theorem dL_law_1479 : decode cL_law 1479 = .ok (.iadd, 1) := by decide +kernel
theorem dL_law_1480 : decode cL_law 1480 = .ok (.iaload, 1) := by decide +kernel
theorem dL_law_1481 : decode cL_law 1481 = .ok (.invokevirtual 203, 3) := by decide +kernel
theorem dL_law_1484 : decode cL_law 1484 = .ok (.aload_n 2, 1) := by decide +kernel
theorem dL_law_1485 : decode cL_law 1485 = .ok (.aload_n 0, 1) := by decide +kernel
theorem dL_law_1486 : decode cL_law 1486 = .ok (.iload_n 3, 1) := by decide +kernel
theorem dL_law_1487 : decode cL_law 1487 = .ok (.iconst 1, 1) := by decide +kernel
theorem dL_law_1488 : decode cL_law 1488 = .ok (.iadd, 1) := by decide +kernel
theorem dL_law_1489 : decode cL_law 1489 = .ok (.iaload, 1) := by decide +kernel
theorem dL_law_1490 : decode cL_law 1490 = .ok (.invokevirtual 206, 3) := by decide +kernel
theorem dL_law_1493 : decode cL_law 1493 = .ok (.if_icmp .eq 5, 3) := by decide +kernel
theorem dL_law_1496 : decode cL_law 1496 = .ok (.iconst 0, 1) := by decide +kernel
theorem dL_law_1497 : decode cL_law 1497 = .ok (.ireturn, 1) := by decide +kernel
theorem dL_law_1498 : decode cL_law 1498 = .ok (.iinc 3 6, 3) := by decide +kernel
theorem dL_law_1501 : decode cL_law 1501 = .ok (.goto (-1483), 3) := by decide +kernel
theorem dL_law_1504 : decode cL_law 1504 = .ok (.iconst 1, 1) := by decide +kernel
theorem dL_law_1505 : decode cL_law 1505 = .ok (.ireturn, 1) := by decide +kernel
end
section
/-! THE ONE WORLD. Cells by a table: an object (its class, its slots) or a row; a slot is a number of a region, a cell, or a long. Regions 0, 1, 2: the three states of the class, as 114 numbers each; 3 to 20 the rest of the class; 21 to 37 the reference. -/
abbrev fv_M : Type := Nat → Nat → Int32
abbrev fv_E : Type := Nat × (Nat → Nat) × va_G × (Nat → ClassId)
abbrev fv_Sp : Type := Nat × Nat × Nat
abbrev fv_Tb : Type := (Nat × List fv_Sp) ⊕ (Nat × Nat × Nat × Nat)
def fv_tab0 : List fv_Tb := [.inl (6, [(1, 1, 0), (1, 30, 0), (1, 59, 0), (0, 3, 3), (1, 88, 0), (1, 93, 0), (1, 94, 0), (1, 97, 0)]), .inl (4, [(1, 2, 0), (1, 3, 0), (1, 4, 0), (1, 5, 0), (0, 0, 1), (0, 0, 2), (0, 0, 0), (0, 0, 3)]), .inr (2, 8, 6, 2), .inr (3, 8, 22, 1), .inr (0, 4, 0, 4), .inr (0, 10, 0, 104), .inl (0, [(0, 0, 8), (0, 0, 9), (0, 0, 10), (1, 7, 0)]), .inr (0, 4, 0, 11), .inl (0, [(0, 0, 15), (0, 0, 16), (0, 0, 17), (1, 9, 0)]), .inr (0, 4, 0, 18), .inl (0, [(0, 0, 22), (0, 0, 23), (0, 0, 24), (1, 11, 0)]), .inr (0, 4, 0, 25), .inl (0, [(0, 0, 29), (0, 0, 30), (0, 0, 31), (1, 13, 0)]), .inr (0, 4, 0, 32), .inl (0, [(0, 0, 36), (0, 0, 37), (0, 0, 38), (1, 15, 0)]), .inr (0, 4, 0, 39), .inl (0, [(0, 0, 43), (0, 0, 44), (0, 0, 45), (1, 17, 0)]), .inr (0, 4, 0, 46), .inl (0, [(0, 0, 50), (0, 0, 51), (0, 0, 52), (1, 19, 0)]), .inr (0, 4, 0, 53), .inl (0, [(0, 0, 57), (0, 0, 58), (0, 0, 59), (1, 21, 0)]), .inr (0, 4, 0, 60), .inl (1, [(0, 0, 64), (0, 0, 65), (0, 0, 66), (0, 0, 67), (0, 0, 68)]), .inl (1, [(0, 0, 69), (0, 0, 70), (0, 0, 71), (0, 0, 72), (0, 0, 73)]), .inl (1, [(0, 0, 74), (0, 0, 75), (0, 0, 76), (0, 0, 77), (0, 0, 78)]), .inl (1, [(0, 0, 79), (0, 0, 80), (0, 0, 81), (0, 0, 82), (0, 0, 83)]), .inl (1, [(0, 0, 84), (0, 0, 85), (0, 0, 86), (0, 0, 87), (0, 0, 88)]), .inl (1, [(0, 0, 89), (0, 0, 90), (0, 0, 91), (0, 0, 92), (0, 0, 93)]), .inl (1, [(0, 0, 94), (0, 0, 95), (0, 0, 96), (0, 0, 97), (0, 0, 98)]), .inl (1, [(0, 0, 99), (0, 0, 100), (0, 0, 101), (0, 0, 102), (0, 0, 103)]), .inl (4, [(1, 31, 0), (1, 32, 0), (1, 33, 0), (1, 34, 0), (0, 1, 1), (0, 1, 2), (0, 1, 0), (0, 1, 3)]), .inr (2, 8, 35, 2), .inr (3, 8, 51, 1), .inr (0, 4, 1, 4), .inr (0, 10, 1, 104), .inl (0, [(0, 1, 8), (0, 1, 9), (0, 1, 10), (1, 36, 0)]), .inr (0, 4, 1, 11), .inl (0, [(0, 1, 15), (0, 1, 16), (0, 1, 17), (1, 38, 0)]), .inr (0, 4, 1, 18), .inl (0, [(0, 1, 22), (0, 1, 23), (0, 1, 24), (1, 40, 0)]), .inr (0, 4, 1, 25)]
def fv_tab1 : List fv_Tb := [.inl (0, [(0, 1, 29), (0, 1, 30), (0, 1, 31), (1, 42, 0)]), .inr (0, 4, 1, 32), .inl (0, [(0, 1, 36), (0, 1, 37), (0, 1, 38), (1, 44, 0)]), .inr (0, 4, 1, 39), .inl (0, [(0, 1, 43), (0, 1, 44), (0, 1, 45), (1, 46, 0)]), .inr (0, 4, 1, 46), .inl (0, [(0, 1, 50), (0, 1, 51), (0, 1, 52), (1, 48, 0)]), .inr (0, 4, 1, 53), .inl (0, [(0, 1, 57), (0, 1, 58), (0, 1, 59), (1, 50, 0)]), .inr (0, 4, 1, 60), .inl (1, [(0, 1, 64), (0, 1, 65), (0, 1, 66), (0, 1, 67), (0, 1, 68)]), .inl (1, [(0, 1, 69), (0, 1, 70), (0, 1, 71), (0, 1, 72), (0, 1, 73)]), .inl (1, [(0, 1, 74), (0, 1, 75), (0, 1, 76), (0, 1, 77), (0, 1, 78)]), .inl (1, [(0, 1, 79), (0, 1, 80), (0, 1, 81), (0, 1, 82), (0, 1, 83)]), .inl (1, [(0, 1, 84), (0, 1, 85), (0, 1, 86), (0, 1, 87), (0, 1, 88)]), .inl (1, [(0, 1, 89), (0, 1, 90), (0, 1, 91), (0, 1, 92), (0, 1, 93)]), .inl (1, [(0, 1, 94), (0, 1, 95), (0, 1, 96), (0, 1, 97), (0, 1, 98)]), .inl (1, [(0, 1, 99), (0, 1, 100), (0, 1, 101), (0, 1, 102), (0, 1, 103)]), .inl (4, [(1, 60, 0), (1, 61, 0), (1, 62, 0), (1, 63, 0), (0, 2, 1), (0, 2, 2), (0, 2, 0), (0, 2, 3)]), .inr (2, 8, 64, 2), .inr (3, 8, 80, 1), .inr (0, 4, 2, 4), .inr (0, 10, 2, 104), .inl (0, [(0, 2, 8), (0, 2, 9), (0, 2, 10), (1, 65, 0)]), .inr (0, 4, 2, 11), .inl (0, [(0, 2, 15), (0, 2, 16), (0, 2, 17), (1, 67, 0)]), .inr (0, 4, 2, 18), .inl (0, [(0, 2, 22), (0, 2, 23), (0, 2, 24), (1, 69, 0)]), .inr (0, 4, 2, 25), .inl (0, [(0, 2, 29), (0, 2, 30), (0, 2, 31), (1, 71, 0)]), .inr (0, 4, 2, 32), .inl (0, [(0, 2, 36), (0, 2, 37), (0, 2, 38), (1, 73, 0)]), .inr (0, 4, 2, 39), .inl (0, [(0, 2, 43), (0, 2, 44), (0, 2, 45), (1, 75, 0)]), .inr (0, 4, 2, 46), .inl (0, [(0, 2, 50), (0, 2, 51), (0, 2, 52), (1, 77, 0)]), .inr (0, 4, 2, 53), .inl (0, [(0, 2, 57), (0, 2, 58), (0, 2, 59), (1, 79, 0)]), .inr (0, 4, 2, 60), .inl (1, [(0, 2, 64), (0, 2, 65), (0, 2, 66), (0, 2, 67), (0, 2, 68)]), .inl (1, [(0, 2, 69), (0, 2, 70), (0, 2, 71), (0, 2, 72), (0, 2, 73)])]
def fv_tab2 : List fv_Tb := [.inl (1, [(0, 2, 74), (0, 2, 75), (0, 2, 76), (0, 2, 77), (0, 2, 78)]), .inl (1, [(0, 2, 79), (0, 2, 80), (0, 2, 81), (0, 2, 82), (0, 2, 83)]), .inl (1, [(0, 2, 84), (0, 2, 85), (0, 2, 86), (0, 2, 87), (0, 2, 88)]), .inl (1, [(0, 2, 89), (0, 2, 90), (0, 2, 91), (0, 2, 92), (0, 2, 93)]), .inl (1, [(0, 2, 94), (0, 2, 95), (0, 2, 96), (0, 2, 97), (0, 2, 98)]), .inl (1, [(0, 2, 99), (0, 2, 100), (0, 2, 101), (0, 2, 102), (0, 2, 103)]), .inl (5, [(0, 4, 0), (1, 89, 0), (1, 90, 0), (1, 91, 0), (1, 92, 0), (0, 4, 5), (0, 4, 6)]), .inr (0, 120, 5, 0), .inr (0, 121, 6, 0), .inr (0, 121, 7, 0), .inr (0, 121, 8, 0), .inr (4, 4, 98, 2), .inl (2, [(1, 95, 0), (0, 9, 1), (0, 9, 2), (0, 9, 3), (1, 96, 0), (0, 9, 5)]), .inr (0, 5, 10, 0), .inr (0, 5, 11, 0), .inr (0, 7, 12, 0), .inl (3, [(0, 13, 0), (0, 13, 1), (1, 99, 0)]), .inr (0, 40, 14, 0), .inl (3, [(0, 15, 0), (0, 15, 1), (1, 101, 0)]), .inr (0, 40, 16, 0), .inl (3, [(0, 17, 0), (0, 17, 1), (1, 103, 0)]), .inr (0, 40, 18, 0), .inl (3, [(0, 19, 0), (0, 19, 1), (1, 105, 0)]), .inr (0, 40, 20, 0), .inl (7, [(1, 107, 0), (1, 108, 0), (1, 109, 0), (0, 21, 3), (1, 110, 0), (1, 111, 0), (1, 112, 0), (1, 113, 0), (0, 21, 8), (0, 21, 9), (0, 21, 10), (1, 114, 0), (0, 21, 12), (0, 21, 13), (0, 21, 14), (0, 21, 15), (2, 21, 16), (1, 115, 0), (1, 116, 0), (1, 117, 0), (1, 118, 0), (1, 119, 0), (1, 120, 0), (1, 121, 0), (1, 122, 0)]), .inr (0, 114, 22, 0), .inr (0, 114, 23, 0), .inr (0, 114, 24, 0), .inr (0, 7, 25, 0), .inr (0, 8, 26, 0), .inr (0, 5, 27, 0), .inr (0, 5, 28, 0), .inr (0, 120, 29, 0), .inr (1, 56, 30, 0), .inr (1, 24, 31, 0), .inr (1, 16, 32, 0), .inr (1, 24, 33, 0), .inr (0, 4, 34, 0), .inr (0, 4, 35, 0), .inr (0, 160, 36, 0), .inr (0, 40, 37, 0)]
def fv_tab : List fv_Tb := fv_tab0 ++ (fv_tab1 ++ fv_tab2)
def fv_rc : List Nat := [0, 0, 0, 0, 88, 89, 90, 91, 92, 94, 95, 96, 97, 98, 99, 100, 101, 102, 103, 104, 105, 106, 107, 108, 109, 110, 111, 112, 113, 114, 115, 116, 117, 118, 119, 120, 121, 122]
def fv_own (r i : Nat) : Nat × Nat :=
  if r < 3 then
    if i < 4 then (1 + 29 * r, if i = 0 then 6 else if i = 1 then 4 else if i = 2 then 5 else 7)
    else if i < 8 then (4 + 29 * r, i - 4)
    else if i < 64 then (if (i - 8) % 7 < 3 then (6 + 29 * r + 2 * ((i - 8) / 7), (i - 8) % 7) else (7 + 29 * r + 2 * ((i - 8) / 7), (i - 8) % 7 - 3))
    else if i < 104 then (22 + 29 * r + (i - 64) / 5, (i - 64) % 5)
    else if i < 114 then (5 + 29 * r, i - 104)
    else (500, 0)
  else if r = 21 ∧ i = 17 then (106, 1016)
  else (fv_rc.getD r 500, i)
def fv_chk (j : Nat) (t : fv_Tb) : Bool := match t with
  | .inl o => decide (o.2.length < 1000) && (o.2.mapIdx (fun k p => p.1 == 1 || (p.1 == 0 && fv_own p.2.1 p.2.2 == (j, k)) || (p.1 == 2 && (fv_own p.2.1 p.2.2 == (j, k) && fv_own p.2.1 (p.2.2 + 1) == (j, k + 1000))))).all id
  | .inr a => !(decide (a.1 < 2)) || (List.range a.2.1).all (fun c => fv_own a.2.2.1 (a.2.2.2 + c) == (j, c))
theorem fv_chk_all : (fv_tab.mapIdx fv_chk).all id = true := by decide +kernel
theorem fv_chk_at {j : Nat} {t : fv_Tb} (h : fv_tab[j]? = some t) : fv_chk j t = true := by
  have h1 : (fv_tab.mapIdx fv_chk)[j]? = some (fv_chk j t) := by rw [List.getElem?_mapIdx, h]; rfl
  exact List.all_eq_true.mp fv_chk_all _ (List.mem_of_getElem? h1)
/-- places of the numbers of a state: field f of bird i, of motion j -/
def fB (i f : Nat) : Nat := 8 + 7 * i + f
def fM (j f : Nat) : Nat := 64 + 5 * j + f
def aSt (s : Nat) : Nat := 1 + 29 * s
def aBs (s : Nat) : Nat := 2 + 29 * s
def aMs (s : Nat) : Nat := 3 + 29 * s
def aFt (s : Nat) : Nat := 4 + 29 * s
def aSp (s : Nat) : Nat := 5 + 29 * s
def aB (s i : Nat) : Nat := 6 + 29 * s + 2 * i
def aF (s i : Nat) : Nat := 7 + 29 * s + 2 * i
def aM (s j : Nat) : Nat := 22 + 29 * s + 1 * j
def aSh (t : Nat) : Nat := 98 + 2 * t
def aNu (t : Nat) : Nat := 99 + 2 * t
theorem fv_all1 {p : Nat → Bool} {n : Nat} (h : (List.range n).all p = true) {s : Nat} (hs : s < n) : p s = true := List.all_eq_true.mp h s (List.mem_range.mpr hs)
theorem tb_st {s : Nat} (h : s < 3) : fv_tab[aSt s]? = some (.inl (4, [(1, aBs s, 0), (1, aMs s, 0), (1, aFt s, 0), (1, aSp s, 0), (0, s, 1), (0, s, 2), (0, s, 0), (0, s, 3)])) :=
  of_decide_eq_true (fv_all1 (p := fun s => decide (fv_tab[aSt s]? = some (.inl (4, [(1, aBs s, 0), (1, aMs s, 0), (1, aFt s, 0), (1, aSp s, 0), (0, s, 1), (0, s, 2), (0, s, 0), (0, s, 3)])))) (n := 3) (by decide +kernel) h)
theorem tb_bs {s : Nat} (h : s < 3) : fv_tab[aBs s]? = some (.inr (2, 8, aB s 0, 2)) := of_decide_eq_true (fv_all1 (p := fun s => decide (fv_tab[aBs s]? = some (.inr (2, 8, aB s 0, 2)))) (n := 3) (by decide +kernel) h)
theorem tb_ms {s : Nat} (h : s < 3) : fv_tab[aMs s]? = some (.inr (3, 8, aM s 0, 1)) := of_decide_eq_true (fv_all1 (p := fun s => decide (fv_tab[aMs s]? = some (.inr (3, 8, aM s 0, 1)))) (n := 3) (by decide +kernel) h)
theorem tb_ft {s : Nat} (h : s < 3) : fv_tab[aFt s]? = some (.inr (0, 4, s, 4)) := of_decide_eq_true (fv_all1 (p := fun s => decide (fv_tab[aFt s]? = some (.inr (0, 4, s, 4)))) (n := 3) (by decide +kernel) h)
theorem tb_sp {s : Nat} (h : s < 3) : fv_tab[aSp s]? = some (.inr (0, 10, s, 104)) := of_decide_eq_true (fv_all1 (p := fun s => decide (fv_tab[aSp s]? = some (.inr (0, 10, s, 104)))) (n := 3) (by decide +kernel) h)
theorem tb_b {s i : Nat} (h : s < 3) (hi : i < 8) : fv_tab[aB s i]? = some (.inl (0, [(0, s, fB i 0), (0, s, fB i 1), (0, s, fB i 2), (1, aF s i, 0)])) :=
  of_decide_eq_true (fv_all1 (n := 8) (fv_all1 (p := fun s => (List.range 8).all fun i => decide (fv_tab[aB s i]? = some (.inl (0, [(0, s, fB i 0), (0, s, fB i 1), (0, s, fB i 2), (1, aF s i, 0)])))) (n := 3) (by decide +kernel) h) hi)
theorem tb_f {s i : Nat} (h : s < 3) (hi : i < 8) : fv_tab[aF s i]? = some (.inr (0, 4, s, fB i 3)) := of_decide_eq_true (fv_all1 (n := 8) (fv_all1 (p := fun s => (List.range 8).all fun i => decide (fv_tab[aF s i]? = some (.inr (0, 4, s, fB i 3)))) (n := 3) (by decide +kernel) h) hi)
theorem tb_m {s j : Nat} (h : s < 3) (hj : j < 8) : fv_tab[aM s j]? = some (.inl (1, [(0, s, fM j 0), (0, s, fM j 1), (0, s, fM j 2), (0, s, fM j 3), (0, s, fM j 4)])) :=
  of_decide_eq_true (fv_all1 (n := 8) (fv_all1 (p := fun s => (List.range 8).all fun j => decide (fv_tab[aM s j]? = some (.inl (1, [(0, s, fM j 0), (0, s, fM j 1), (0, s, fM j 2), (0, s, fM j 3), (0, s, fM j 4)])))) (n := 3) (by decide +kernel) h) hj)
theorem tb_sh {t : Nat} (h : t < 4) : fv_tab[aSh t]? = some (.inl (3, [(0, 13 + 2 * t, 0), (0, 13 + 2 * t, 1), (1, aNu t, 0)])) := of_decide_eq_true (fv_all1 (p := fun t => decide (fv_tab[aSh t]? = some (.inl (3, [(0, 13 + 2 * t, 0), (0, 13 + 2 * t, 1), (1, aNu t, 0)])))) (n := 4) (by decide +kernel) h)
theorem tb_nu {t : Nat} (h : t < 4) : fv_tab[aNu t]? = some (.inr (0, 40, 14 + 2 * t, 0)) := of_decide_eq_true (fv_all1 (p := fun t => decide (fv_tab[aNu t]? = some (.inr (0, 40, 14 + 2 * t, 0)))) (n := 4) (by decide +kernel) h)
theorem tb_fv : fv_tab[0]? = some (.inl (6, [(1, aSt 0, 0), (1, aSt 1, 0), (1, aSt 2, 0), (0, 3, 3), (1, 88, 0), (1, 93, 0), (1, 94, 0), (1, 97, 0)])) := by decide +kernel
theorem tb_88 : fv_tab[88]? = some (.inl (5, [(0, 4, 0), (1, 89, 0), (1, 90, 0), (1, 91, 0), (1, 92, 0), (0, 4, 5), (0, 4, 6)])) := by decide +kernel
theorem tb_89 : fv_tab[89]? = some (.inr (0, 120, 5, 0)) := by decide +kernel
theorem tb_90 : fv_tab[90]? = some (.inr (0, 121, 6, 0)) := by decide +kernel
theorem tb_91 : fv_tab[91]? = some (.inr (0, 121, 7, 0)) := by decide +kernel
theorem tb_92 : fv_tab[92]? = some (.inr (0, 121, 8, 0)) := by decide +kernel
theorem tb_93 : fv_tab[93]? = some (.inr (4, 4, 98, 2)) := by decide +kernel
theorem tb_94 : fv_tab[94]? = some (.inl (2, [(1, 95, 0), (0, 9, 1), (0, 9, 2), (0, 9, 3), (1, 96, 0), (0, 9, 5)])) := by decide +kernel
theorem tb_95 : fv_tab[95]? = some (.inr (0, 5, 10, 0)) := by decide +kernel
theorem tb_96 : fv_tab[96]? = some (.inr (0, 5, 11, 0)) := by decide +kernel
theorem tb_97 : fv_tab[97]? = some (.inr (0, 7, 12, 0)) := by decide +kernel
theorem tb_106 : fv_tab[106]? = some (.inl (7, [(1, 107, 0), (1, 108, 0), (1, 109, 0), (0, 21, 3), (1, 110, 0), (1, 111, 0), (1, 112, 0), (1, 113, 0), (0, 21, 8), (0, 21, 9), (0, 21, 10), (1, 114, 0), (0, 21, 12), (0, 21, 13), (0, 21, 14), (0, 21, 15), (2, 21, 16), (1, 115, 0), (1, 116, 0), (1, 117, 0), (1, 118, 0), (1, 119, 0), (1, 120, 0), (1, 121, 0), (1, 122, 0)])) := by decide +kernel
theorem tb_107 : fv_tab[107]? = some (.inr (0, 114, 22, 0)) := by decide +kernel
theorem tb_108 : fv_tab[108]? = some (.inr (0, 114, 23, 0)) := by decide +kernel
theorem tb_109 : fv_tab[109]? = some (.inr (0, 114, 24, 0)) := by decide +kernel
theorem tb_110 : fv_tab[110]? = some (.inr (0, 7, 25, 0)) := by decide +kernel
theorem tb_111 : fv_tab[111]? = some (.inr (0, 8, 26, 0)) := by decide +kernel
theorem tb_112 : fv_tab[112]? = some (.inr (0, 5, 27, 0)) := by decide +kernel
theorem tb_113 : fv_tab[113]? = some (.inr (0, 5, 28, 0)) := by decide +kernel
theorem tb_114 : fv_tab[114]? = some (.inr (0, 120, 29, 0)) := by decide +kernel
theorem tb_115 : fv_tab[115]? = some (.inr (1, 56, 30, 0)) := by decide +kernel
theorem tb_116 : fv_tab[116]? = some (.inr (1, 24, 31, 0)) := by decide +kernel
theorem tb_117 : fv_tab[117]? = some (.inr (1, 16, 32, 0)) := by decide +kernel
theorem tb_118 : fv_tab[118]? = some (.inr (1, 24, 33, 0)) := by decide +kernel
theorem tb_119 : fv_tab[119]? = some (.inr (0, 4, 34, 0)) := by decide +kernel
theorem tb_120 : fv_tab[120]? = some (.inr (0, 4, 35, 0)) := by decide +kernel
theorem tb_121 : fv_tab[121]? = some (.inr (0, 160, 36, 0)) := by decide +kernel
theorem tb_122 : fv_tab[122]? = some (.inr (0, 40, 37, 0)) := by decide +kernel
end
section
/-! THE WORLD OF A MEMORY, and what a write does to it. -/
def fv_s (M : fv_M) (r : Nat) (f : Nat → Int32) : fv_M := fun r' => if r' = r then f else M r'
def fv_u (f : Nat → Int32) (i : Nat) (v : Int32) : Nat → Int32 := fun j => if j = i then v else f j
theorem fv_s_same (M : fv_M) (r : Nat) (f : Nat → Int32) : fv_s M r f r = f := if_pos rfl
theorem fv_s_ne (M : fv_M) {r r' : Nat} (f : Nat → Int32) (h : r' ≠ r) : fv_s M r f r' = M r' := if_neg h
theorem fv_s_s (M : fv_M) (r : Nat) (f g : Nat → Int32) : fv_s (fv_s M r f) r g = fv_s M r g := by
  funext r'; unfold fv_s; split <;> rfl
theorem fv_s_id (M : fv_M) (r : Nat) : fv_s M r (M r) = M := by
  funext r'; unfold fv_s; split
  · next h => rw [h]
  · rfl
theorem fv_s_comm (M : fv_M) {r q : Nat} (f g : Nat → Int32) (h : r ≠ q) : fv_s (fv_s M r f) q g = fv_s (fv_s M q g) r f := by
  funext r'; unfold fv_s
  by_cases h1 : r' = q <;> by_cases h2 : r' = r <;> simp_all
theorem fv_u_same (f : Nat → Int32) (i : Nat) (v : Int32) : fv_u f i v i = v := if_pos rfl
theorem fv_u_ne (f : Nat → Int32) {i j : Nat} (v : Int32) (h : j ≠ i) : fv_u f i v j = f j := if_neg h
theorem fv_u_u (f : Nat → Int32) (i : Nat) (v w : Int32) : fv_u (fv_u f i v) i w = fv_u f i w := by
  funext j; unfold fv_u; split <;> rfl
theorem fv_u_id (f : Nat → Int32) (i : Nat) : fv_u f i (f i) = f := by
  funext j; unfold fv_u; split
  · next h => rw [h]
  · rfl
def fv_comb (h l : Int32) : Int64 := Int64.ofBitVec ((h.toBitVec ++ l.toBitVec : BitVec (32 + 32)) : BitVec 64)
def fv_hi (v : Int64) : Int32 := Int32.ofBitVec (v.toBitVec.extractLsb' 32 32)
def fv_lo (v : Int64) : Int32 := Int32.ofBitVec (v.toBitVec.extractLsb' 0 32)
theorem fv_comb_eq (v : Int64) : fv_comb (fv_hi v) (fv_lo v) = v := by
  obtain ⟨⟨b⟩⟩ := v
  unfold fv_comb fv_hi fv_lo
  have h : ((b.extractLsb' 32 32 ++ b.extractLsb' 0 32 : BitVec (32 + 32)) : BitVec 64) = b := by
    apply BitVec.eq_of_getLsbD_eq
    intro i hi
    rw [BitVec.getLsbD_append]
    by_cases h : i < 32
    · simp [h, BitVec.getLsbD_extractLsb']
    · have h2 : i - 32 < 32 := by omega
      have h3 : 32 + (i - 32) = i := by omega
      simp [h, BitVec.getLsbD_extractLsb', h2, h3]
  exact congrArg Int64.ofBitVec h
def fv_cv (E : fv_E) (v : Value) : Value := match v with
  | .ref q => .ref (E.2.1 q)
  | x => x
def fv_val (M : fv_M) (p : fv_Sp) : Value := match p.1 with
  | 0 => .int (M p.2.1 p.2.2)
  | 1 => .ref p.2.1
  | _ => .long (fv_comb (M p.2.1 p.2.2) (M p.2.1 (p.2.2 + 1)))
def fv_arr (M : fv_M) (n r i0 : Nat) : Nat → Int32 := fun c => if c < n then M r (i0 + c) else 0
def fv_cell (E : fv_E) (M : fv_M) (t : fv_Tb) : va_E := match t with
  | .inl o => .inr (o.1, o.2.map (fun p => fv_cv E (fv_val M p)))
  | .inr a => if a.1 < 2 then .inl (E.2.2.2 a.1, a.2.1, .inl (fv_arr M a.2.1 a.2.2.1 a.2.2.2)) else .inl (E.2.2.2 a.1, a.2.1, .inr (.inr (.inr (.inr (fun k => some (E.2.1 (a.2.2.1 + a.2.2.2 * k)))))))
def fv_W (E : fv_E) (M : fv_M) : va_W := fv_tab.mapIdx fun k t => (E.2.1 k, fv_cell E M t)
theorem fv_W_at {E : fv_E} {M : fv_M} {k : Nat} {t : fv_Tb} (h : fv_tab[k]? = some t) : (fv_W E M)[k]? = some (E.2.1 k, fv_cell E M t) := by
  unfold fv_W
  rw [List.getElem?_mapIdx, h]; rfl
theorem fv_W_non {E : fv_E} {M : fv_M} {k : Nat} (h : fv_tab[k]? = none) : (fv_W E M)[k]? = none := by
  unfold fv_W
  rw [List.getElem?_mapIdx, h]; rfl
theorem fv_W_len (E : fv_E) (M : fv_M) : (fv_W E M).length = fv_tab.length := by unfold fv_W; exact List.length_mapIdx
theorem fv_chk_slot {j ci k : Nat} {ss : List fv_Sp} {p : fv_Sp} (h : fv_tab[j]? = some (.inl (ci, ss))) (hk : ss[k]? = some p) : p.1 = 1 ∨ (p.1 = 0 ∧ fv_own p.2.1 p.2.2 = (j, k)) ∨ (p.1 = 2 ∧ fv_own p.2.1 p.2.2 = (j, k) ∧ fv_own p.2.1 (p.2.2 + 1) = (j, k + 1000)) := by
  have h1 := fv_chk_at h
  unfold fv_chk at h1
  dsimp only at h1
  rw [Bool.and_eq_true] at h1
  have h2 := List.all_eq_true.mp h1.2 _ (List.mem_of_getElem? (i := k) (by rw [List.getElem?_mapIdx, hk]; rfl))
  simp only [id_eq, Bool.or_eq_true, Bool.and_eq_true, beq_iff_eq] at h2
  rcases h2 with (h2 | h2) | h2
  · exact Or.inl h2
  · exact Or.inr (Or.inl h2)
  · exact Or.inr (Or.inr h2)
theorem fv_chk_k {j ci k : Nat} {ss : List fv_Sp} {p : fv_Sp} (h : fv_tab[j]? = some (.inl (ci, ss))) (hk : ss[k]? = some p) : k < 1000 := by
  have h1 := fv_chk_at h
  unfold fv_chk at h1
  dsimp only at h1
  rw [Bool.and_eq_true] at h1
  have h2 : ss.length < 1000 := by simpa using h1.1
  have h3 := (List.getElem?_eq_some_iff.mp hk).1
  omega
theorem fv_chk_arr {j ty n r i0 c : Nat} (h : fv_tab[j]? = some (.inr (ty, n, r, i0))) (hty : ty < 2) (hc : c < n) : fv_own r (i0 + c) = (j, c) := by
  have h1 := fv_chk_at h
  unfold fv_chk at h1
  dsimp only at h1
  have h3 : (!(decide (ty < 2))) = false := by simp [hty]
  rw [h3, Bool.false_or] at h1
  have h2 := List.all_eq_true.mp h1 c (List.mem_range.mpr hc)
  simpa using h2
theorem fv_val_same {E : fv_E} {M M' : fv_M} {j ci k : Nat} {ss : List fv_Sp} {p : fv_Sp} (h : fv_tab[j]? = some (.inl (ci, ss))) (hk : ss[k]? = some p) (hM : ∀ r i, fv_own r i = (j, k) ∨ (fv_own r i = (j, k + 1000) ∧ p.1 = 2) → M' r i = M r i) : fv_cv E (fv_val M' p) = fv_cv E (fv_val M p) := by
  obtain ⟨t, r, i⟩ := p
  rcases fv_chk_slot h hk with h1 | ⟨h1, h2⟩ | ⟨h1, h2, h3⟩
  · dsimp only at h1; subst h1; rfl
  · dsimp only at h1 h2; subst h1
    unfold fv_val; dsimp only
    rw [hM r i (Or.inl h2)]
    rfl
  · dsimp only at h1 h2 h3; subst h1
    unfold fv_val; dsimp only
    rw [hM r i (Or.inl h2), hM r (i + 1) (Or.inr ⟨h3, rfl⟩)]
theorem fv_cell_other {E : fv_E} {M M' : fv_M} {j : Nat} {t : fv_Tb} (h : fv_tab[j]? = some t) (hM : ∀ r i, (fv_own r i).1 = j → M' r i = M r i) : fv_cell E M' t = fv_cell E M t := by
  cases t with
  | inl o =>
    obtain ⟨ci, ss⟩ := o
    unfold fv_cell
    dsimp only
    have : ss.map (fun p => fv_cv E (fv_val M' p)) = ss.map (fun p => fv_cv E (fv_val M p)) := by
      apply List.map_congr_left
      intro p hp
      obtain ⟨k, hk⟩ := List.getElem?_of_mem hp
      exact fv_val_same h hk (fun r i hri => hM r i (by rcases hri with e | ⟨e, -⟩ <;> rw [e]))
    rw [this]
  | inr a =>
    obtain ⟨ty, n, r, i0⟩ := a
    unfold fv_cell
    dsimp only
    by_cases hty : ty < 2
    · rw [if_pos hty, if_pos hty]
      have : fv_arr M' n r i0 = fv_arr M n r i0 := by
        funext c
        unfold fv_arr
        by_cases hc : c < n
        · rw [if_pos hc, if_pos hc]
          exact hM _ _ (by rw [fv_chk_arr h hty hc])
        · rw [if_neg hc, if_neg hc]
      rw [this]
    · rw [if_neg hty, if_neg hty]
theorem fv_W_ext {E : fv_E} {M M' : fv_M} {q : Nat} {x : Nat × va_E} {t : fv_Tb} (ht : fv_tab[q]? = some t) (hx : x = (E.2.1 q, fv_cell E M' t)) (hM : ∀ r i, (fv_own r i).1 ≠ q → M' r i = M r i) : (fv_W E M).set q x = fv_W E M' := by
  subst hx
  have hl : q < fv_tab.length := (List.getElem?_eq_some_iff.mp ht).1
  apply List.ext_getElem?
  intro j
  by_cases hj : j = q
  · subst hj
    rw [List.getElem?_set_self (by rw [fv_W_len]; exact hl), fv_W_at ht]
  · rw [List.getElem?_set_ne (Ne.symm hj)]
    cases hjt : fv_tab[j]? with
    | none => rw [fv_W_non hjt, fv_W_non hjt]
    | some u =>
      rw [fv_W_at hjt, fv_W_at hjt, fv_cell_other (M := M) (M' := M') hjt (fun r i e => hM r i (by rw [e]; exact hj))]
theorem fv_W_put {E : fv_E} {M : fv_M} {q ci k r i : Nat} {ss : List fv_Sp} {v : Int32} (ht : fv_tab[q]? = some (.inl (ci, ss))) (hk : ss[k]? = some (0, r, i)) :
    (fv_W E M).set q (E.2.1 q, .inr (ci, (ss.map (fun p => fv_cv E (fv_val M p))).set k (.int v))) = fv_W E (fv_s M r (fv_u (M r) i v)) := by
  have ho : fv_own r i = (q, k) := by
    rcases fv_chk_slot ht hk with h1 | ⟨h1, h2⟩ | ⟨h1, h2, h3⟩
    · cases h1
    · exact h2
    · cases h1
  have hM : ∀ r' i', fv_own r' i' ≠ (q, k) → fv_s M r (fv_u (M r) i v) r' i' = M r' i' := by
    intro r' i' hne
    unfold fv_s fv_u
    by_cases h1 : r' = r
    · subst h1
      rw [if_pos rfl]
      exact if_neg (fun e => hne (by rw [e]; exact ho))
    · rw [if_neg h1]
  refine fv_W_ext ht ?_ (fun r' i' h => hM r' i' (fun e => h (by rw [e])))
  unfold fv_cell
  dsimp only
  congr 2
  congr 1
  apply List.ext_getElem?
  intro j
  by_cases hj : j = k
  · subst hj
    rw [List.getElem?_set_self (by rw [List.length_map]; exact (List.getElem?_eq_some_iff.mp hk).1), List.getElem?_map, hk]
    show some (Value.int v) = some (Value.int (fv_s M r (fv_u (M r) i v) r i))
    rw [fv_s_same, fv_u_same]
  · rw [List.getElem?_set_ne (Ne.symm hj), List.getElem?_map, List.getElem?_map]
    cases hp : ss[j]? with
    | none => rfl
    | some p =>
      show some _ = some _
      refine congrArg some (fv_val_same (M := fv_s M r (fv_u (M r) i v)) (M' := M) ht hp (fun r' i' e => (hM r' i' (fun e2 => ?_)).symm))
      rcases e with e | ⟨e, e3⟩
      · rw [e] at e2
        exact hj (Prod.mk.inj e2).2
      · rw [e] at e2
        have h9 := (Prod.mk.inj e2).2
        have h8 := fv_chk_k ht hk
        omega
theorem fv_W_putl {E : fv_E} {M : fv_M} {q ci k r i : Nat} {ss : List fv_Sp} {v : Int64} (ht : fv_tab[q]? = some (.inl (ci, ss))) (hk : ss[k]? = some (2, r, i)) :
    (fv_W E M).set q (E.2.1 q, .inr (ci, (ss.map (fun p => fv_cv E (fv_val M p))).set k (.long v))) = fv_W E (fv_s M r (fv_u (fv_u (M r) i (fv_hi v)) (i + 1) (fv_lo v))) := by
  obtain ⟨ho, ho2⟩ : fv_own r i = (q, k) ∧ fv_own r (i + 1) = (q, k + 1000) := by
    rcases fv_chk_slot ht hk with h1 | ⟨h1, h2⟩ | ⟨h1, h2, h3⟩
    · cases h1
    · cases h1
    · exact ⟨h2, h3⟩
  have hM : ∀ r' i', fv_own r' i' ≠ (q, k) → fv_own r' i' ≠ (q, k + 1000) → fv_s M r (fv_u (fv_u (M r) i (fv_hi v)) (i + 1) (fv_lo v)) r' i' = M r' i' := by
    intro r' i' hne hne2
    unfold fv_s fv_u
    by_cases h1 : r' = r
    · subst h1
      rw [if_pos rfl]
      rw [if_neg (fun e => hne2 (by rw [e]; exact ho2))]
      exact if_neg (fun e => hne (by rw [e]; exact ho))
    · rw [if_neg h1]
  refine fv_W_ext ht ?_ (fun r' i' h => hM r' i' (fun e => h (by rw [e])) (fun e => h (by rw [e])))
  unfold fv_cell
  dsimp only
  congr 2
  congr 1
  apply List.ext_getElem?
  intro j
  by_cases hj : j = k
  · subst hj
    rw [List.getElem?_set_self (by rw [List.length_map]; exact (List.getElem?_eq_some_iff.mp hk).1), List.getElem?_map, hk]
    show some (Value.long v) = some (Value.long (fv_comb (fv_s M r (fv_u (fv_u (M r) i (fv_hi v)) (i + 1) (fv_lo v)) r i) (fv_s M r (fv_u (fv_u (M r) i (fv_hi v)) (i + 1) (fv_lo v)) r (i + 1))))
    rw [fv_s_same, fv_u_same, fv_u_ne _ _ (by omega), fv_u_same, fv_comb_eq]
  · rw [List.getElem?_set_ne (Ne.symm hj), List.getElem?_map, List.getElem?_map]
    cases hp : ss[j]? with
    | none => rfl
    | some p =>
      show some _ = some _
      have h8 := fv_chk_k ht hk
      have h7 := fv_chk_k ht hp
      refine congrArg some (fv_val_same (M := fv_s M r (fv_u (fv_u (M r) i (fv_hi v)) (i + 1) (fv_lo v))) (M' := M) ht hp (fun r' i' e => (hM r' i' (fun e2 => ?_) (fun e2 => ?_)).symm))
      · rcases e with e | ⟨e, e3⟩
        · rw [e] at e2
          exact hj (Prod.mk.inj e2).2
        · rw [e] at e2
          have h9 := (Prod.mk.inj e2).2
          omega
      · rcases e with e | ⟨e, e3⟩
        · rw [e] at e2
          have h9 := (Prod.mk.inj e2).2
          omega
        · rw [e] at e2
          have h9 := (Prod.mk.inj e2).2
          omega
theorem fv_W_ast {E : fv_E} {M : fv_M} {q ty n r i0 c : Nat} {v : Int32} (ht : fv_tab[q]? = some (.inr (ty, n, r, i0))) (hty : ty < 2) (hc : c < n) :
    (fv_W E M).set q (E.2.1 q, .inl (E.2.2.2 ty, n, .inl (upd (fv_arr M n r i0) c v))) = fv_W E (fv_s M r (fv_u (M r) (i0 + c) v)) := by
  refine fv_W_ext ht ?_ (fun r' i' h => ?_)
  · unfold fv_cell
    dsimp only
    rw [if_pos hty]
    congr 4
    refine congrArg Sum.inl (funext fun j => ?_)
    unfold upd fv_arr
    by_cases h1 : j = c
    · subst h1
      rw [if_pos rfl, if_pos hc, fv_s_same, fv_u_same]
    · rw [if_neg h1]
      by_cases h2 : j < n
      · rw [if_pos h2, if_pos h2, fv_s_same, fv_u_ne _ _ (by omega)]
      · rw [if_neg h2, if_neg h2]
  · unfold fv_s fv_u
    by_cases h1 : r' = r
    · subst h1
      rw [if_pos rfl]
      exact if_neg (fun e => h (by rw [e, fv_chk_arr ht hty hc]))
    · rw [if_neg h1]
theorem fv_D_any {E : fv_E} {A : Nat → Prop} {M M' : fv_M} (h : va_D A (fv_W E M)) : va_D A (fv_W E M') := by
  have key : ∀ (k : Nat) (x : Nat × va_E), (fv_W E M')[k]? = some x → ∃ y, (fv_W E M)[k]? = some y ∧ y.1 = x.1 := by
    intro k x hx
    cases hk : fv_tab[k]? with
    | none => rw [fv_W_non hk] at hx; cases hx
    | some t =>
      rw [fv_W_at hk] at hx
      cases hx
      exact ⟨_, fv_W_at hk, rfl⟩
  refine ⟨fun i j x y hi hj e => ?_, fun k x hk => ?_⟩
  · obtain ⟨x', h1, e1⟩ := key i x hi
    obtain ⟨y', h2, e2⟩ := key j y hj
    exact h.1 i j x' y' h1 h2 (by rw [e1, e2, e])
  · obtain ⟨x', h1, e1⟩ := key k x hk
    rw [← e1]
    exact h.2 k x' h1
end
section
/-! THE JUDGEMENT fv_X: from this place of this method, with these locals, this stack and this memory, the method returns with Φ. fv_C: a method's contract in it. -/
def fv_A (E : fv_E) : Nat → Prop := fun q => E.1 ≤ q
def fv_tys (E : fv_E) : List (ClassId × FieldType) := [(E.2.2.2 0, .int), (E.2.2.2 1, .char), (E.2.2.2 2, .object RX0), (E.2.2.2 3, .object RX1), (E.2.2.2 4, .object RX3)]
def fv_g : List Cond := lw_tbl.filter goodWord
def fv_rm (d : Nat) : Room := { frames := d, cells := 0, slots := 0, locals := 38 * d }
abbrev fv_Y : Type := MethodName × ByteArray × Nat × Option FieldType
def fv_ws (y : fv_Y) : List Cond := Cond.code y.1 y.2.1 y.2.2.1 y.2.2.2 :: fv_g
def fv_nm : List (String × Nat × MethodName) := [(RX4, 43, yX0_init), (RX4, 44, yX1_init), (RX6, 28, yX5_init), (RX6, 41, yX2_init), (RX6, 50, yX3_init), (RX4, 64, yX6_isUpTo), (RX0, 45, yX6_isUpTo), (RX3, 28, yX6_isUpTo)]
def fv_kI : List Nat := [111, 99, 101, 103, 105, 107, 109, 134, 126, 132, 82, 166, 172, 174, 87]
def fv_kT : List String := ["bird", "swan", "crow", "raven", "tern", "wren", "gull", "has", "keeps", "grows", "motion", "quorum", "wants", "effect", "season"]
def fv_kB : List (List Int32) := [[98, 105, 114, 100], [115, 119, 97, 110], [99, 114, 111, 119], [114, 97, 118, 101, 110], [116, 101, 114, 110], [119, 114, 101, 110], [103, 117, 108, 108], [104, 97, 115], [107, 101, 101, 112, 115], [103, 114, 111, 119, 115], [109, 111, 116, 105, 111, 110], [113, 117, 111, 114, 117, 109], [119, 97, 110, 116, 115], [101, 102, 102, 101, 99, 116], [115, 101, 97, 115, 111, 110]]
def fv_kL : List Nat := [4, 4, 4, 5, 4, 4, 4, 3, 5, 5, 6, 6, 5, 6, 6]
def fv_ab : List Int32 := [-1, 0, 0, 2, 3, 0, 5]
def fv_Z (E : fv_E) (s : State) (H : Heap) : Prop :=
  (∀ q ∈ fv_nm, va_Nw (.methodLinkNest q.1 q.2.1 q.2.2 "FeatherVotes") s) ∧ va_Nw (.fieldLinkNest RX0 49 "FeatherVotes" "ABOVE" "[I" "FeatherVotes") s ∧
  va_Z "FeatherVotes" "ABOVE" "[I" (.ref (E.2.1 2000)) (fv_A E) s H ∧ va_T .int (E.2.1 2000) 7 (fun j => .int (fv_ab.getD j 0)) (fv_A E) s H ∧
  va_Z "java/lang/String" "COMPACT_STRINGS" "Z" (.int 1) (fv_A E) s H ∧ va_Zq "jdk/internal/util/Preconditions" "SIOOBE_FORMATTER" "Ljava/util/function/BiFunction;" (fv_A E) s H ∧
  vk_S 15 fv_kL fv_kB (fun i => E.2.1 (1000 + i)) (fun i => E.2.1 (1500 + i)) (fv_A E) s H ∧ ∀ i, i < 15 → vk_R RX5 (fv_kI.getD i 0) (fv_kT.getD i "") (E.2.1 (1000 + i)) s
theorem fv_Z.warm {E : fv_E} {s U : State} {H : Heap} (hW : s.WarmedH U.vm) (h : fv_Z E s H) : fv_Z E U H := by
  obtain ⟨h1, h2, h3, h4, h5, h6, h7, h8⟩ := h
  exact ⟨fun q hq => va_Nw.warmM hW (h1 q hq), va_Nw.warmF hW h2, va_Z.moved hW.alike h3, va_T.moved hW.alike h4, va_Z.moved hW.alike h5, va_Zq.moved hW.alike h6, vk_S.moved hW.alike h7, fun i hi => vk_R.warm hW (h8 i hi)⟩
theorem fv_Z.kept {E : fv_E} {s : State} {H H1 : Heap} (h : fv_Z E s H) (hq : ∀ a : Nat, a < H.size → ¬ fv_A E a → H1[a]? = H[a]?) : fv_Z E s H1 := by
  obtain ⟨h1, h2, h3, h4, h5, h6, h7, h8⟩ := h
  exact ⟨h1, h2, h3.kept hq, h4.kept hq, h5.kept hq, h6.kept hq, h7.kept hq, h8⟩
def fv_SF (E : fv_E) (s : State) : Prop := va_K E.2.2.1 vwCl (fv_tys E) s ∧ va_D (fv_A E) (fv_W E (fun _ _ => 0)) ∧ fv_Z E s s.heap
theorem fv_SF.at {E : fv_E} {s U : State} {locs : List Loc} (h : fv_SF E s) (hW : s.WarmedH U.vm) (hS : va_S (fv_A E) s.heap U.heap locs) : fv_SF E U :=
  ⟨va_K.moved hW.alike h.1, h.2.1, (h.2.2.warm hW).kept hS.2.1⟩
theorem fv_SF.calling {E : fv_E} {U : State} (h : fv_SF E U) (g : JFrame) (mk : MethodId) (a : Array Value) : fv_SF E (U.calling g mk a) :=
  ⟨va_K.moved (u := U) (U := U.calling g mk a) (Vm.Alike.refl U.vm) h.1, h.2.1, h.2.2.warm (U := U.calling g mk a) (State.WarmedH.refl U)⟩
def fv_Fix (E : fv_E) (y : fv_Y) (p : Program) (s : State) (m : MethodId) (args : Array Value) (meth : Method) (c : Code) : Prop :=
  p.tables.exec = Jvm.exec ∧ c.code = y.2.1 ∧ c.maxLocals = y.2.2.1 ∧ s.vm.findClass y.1.cls = some m.cls ∧ (∀ w ∈ fv_g, w.before args s = true) ∧ meth.locks = false ∧ meth.sig.returnType = y.2.2.2 ∧ fv_SF E s
def fv_L (E : fv_E) (lsA : Array Slot) (ls : List (Option Value)) : Prop := lsA.size = ls.length ∧ lv_wf lsA ∧ ∀ (i : Nat) (v : Value), ls[i]? = some (some v) → lsA[i]? = some (.val (fv_cv E v))
def fv_Q (E : fv_E) (Φ : Option Value → fv_M → Prop) : Array Value → State → Outcome → State → Prop := fun _ st oc t => (∃ (r : Option Value) (M' : fv_M), oc = .returned (r.map (fv_cv E)) ∧ Φ r M' ∧ va_P E.2.2.1 vwCl (fv_W E M') t.heap) ∧ va_F (fv_A E) st t
def fv_X (E : fv_E) (y : fv_Y) (d : Nat) (Φ : Option Value → fv_M → Prop) (pc : Nat) (ls : List (Option Value)) (st : List Value) (M : fv_M) : Prop :=
  ∀ (p : Program) (l : Launch) (e : Env) (s : State) (m : MethodId) (args : Array Value) (below : List Frame) (meth : Method) (c : Code) (H : Heap) (locs : List Loc) (lsA : Array Slot),
    fv_Fix E y p s m args meth c → va_P E.2.2.1 vwCl (fv_W E M) H → va_S (fv_A E) s.heap H locs → fv_L E lsA ls →
    W p l e (fv_rm d) s m args below meth c H locs 0 0 (MQ below (fv_Q E Φ) args s 0 0 (fv_A E)) (F0 m pc lsA (st.map (fv_cv E)))
def fv_Pc (E : fv_E) (M : fv_M) (args : List Value) : Array Value → State → Prop := va_Pc (args.map (fv_cv E)) (fun U => fv_SF E U ∧ va_P E.2.2.1 vwCl (fv_W E M) U.heap)
def fv_C (E : fv_E) (d : Nat) (y : fv_Y) (args : List Value) (M : fv_M) (Φ : Option Value → fv_M → Prop) : Prop :=
  ∀ l : Launch, Met l y.1 (fv_ws y) (fv_rm d) (fv_Pc E M args) (fv_Q E Φ) 0 0 (fv_A E)
theorem fv_cat (E : fv_E) (v : Value) : (fv_cv E v).category = v.category := by cases v <;> rfl
theorem fv_sum (E : fv_E) (st : List Value) : ((st.map (fv_cv E)).map fun v => v.category) = st.map fun v => v.category := by
  rw [List.map_map]
  exact List.map_congr_left (fun v _ => fv_cat E v)
/-- the locals at the entry -/
def fv_ent : List Value → List (Option Value)
  | [] => []
  | v :: vs => if v.category = 2 then some v :: none :: fv_ent vs else some v :: fv_ent vs
theorem fv_ent_len (E : fv_E) (vs : List Value) : (lg_sl (vs.map (fv_cv E))).length = (fv_ent vs).length := by
  induction vs with
  | nil => rfl
  | cons v vs ih =>
    unfold lg_sl at ih ⊢
    rw [List.map_cons, List.flatMap_cons, List.length_append, ih, fv_cat]
    rw [show fv_ent (v :: vs) = if v.category = 2 then some v :: none :: fv_ent vs else some v :: fv_ent vs from rfl]
    by_cases h : v.category = 2
    · rw [if_pos h, if_pos h]; simp only [List.length_cons, List.length_nil]; omega
    · rw [if_neg h, if_neg h]; simp only [List.length_cons, List.length_nil]; omega
theorem fv_ent_at (E : fv_E) (vs : List Value) : ∀ (k i : Nat) (v : Value), (fv_ent vs)[i]? = some (some v) → (k + i, fv_cv E v) ∈ lv_args k (vs.map (fv_cv E)) := by
  induction vs with
  | nil => intro k i v h; simp [fv_ent] at h
  | cons w vs ih =>
    intro k i v h
    unfold fv_ent at h
    rw [List.map_cons]
    unfold lv_args
    by_cases hc : w.category = 2
    · rw [if_pos hc] at h
      rw [if_pos (by rw [fv_cat]; exact hc)]
      match i with
      | 0 => simp at h; subst h; exact List.mem_cons_self
      | 1 => simp at h
      | i + 2 =>
        have h2 := ih (k + 2) i v (by simpa using h)
        rw [show k + (i + 2) = k + 2 + i by omega]
        exact List.mem_cons_of_mem _ h2
    · rw [if_neg hc] at h
      rw [if_neg (by rw [fv_cat]; exact hc)]
      match i with
      | 0 => simp at h; subst h; exact List.mem_cons_self
      | i + 1 =>
        have h2 := ih (k + 1) i v (by simpa using h)
        rw [show k + (i + 1) = k + 1 + i by omega]
        exact List.mem_cons_of_mem _ h2
/-- a contract out of the walk of its body -/
theorem fv_C.of {E : fv_E} {d : Nat} {y : fv_Y} {args : List Value} {M : fv_M} {Φ : Option Value → fv_M → Prop} {ls : List (Option Value)} (hy : plainName y.1.cls = true) (hle : (fv_ent args).length ≤ y.2.2.1)
    (hls : fv_ent args ++ List.replicate (y.2.2.1 - (fv_ent args).length) none = ls) (h : fv_X E y d Φ 0 ls [] M) : fv_C E d y args M Φ := by
  intro l
  refine Met.ofW (cc := y.2.1) (maxL := y.2.2.1) (ret := y.2.2.2) hy rfl ?_
  intro p e s m args' below meth c s₁ B hml hv
  obtain ⟨rfl, hSF, hP⟩ := hv
  have hts := atoms_spec (ws := fv_ws y) B.pre
  have hown : s.vm.findClass y.1.cls = some m.cls := findClass_of_methodNamed B.named
  have hle' : (lg_sl (args.map (fv_cv E))).length ≤ y.2.2.1 := by rw [fv_ent_len]; exact hle
  rw [lg_entry_eq]
  have hl := lv_entry (args.map (fv_cv E)) (n := y.2.2.1) hle'
  refine h p l e s m _ below meth c s.heap [] _ ⟨B.exec, B.bytes, hml, hown, fun w hw => hts w (List.mem_cons_of_mem _ hw), B.notSynchronized, B.returns, hSF⟩ hP va_S.rf ⟨?_, hl.2.1, ?_⟩
  · rw [hl.1, ← hls, List.length_append, List.length_replicate]; omega
  · intro i v hv
    rw [← hls] at hv
    by_cases hi : i < (fv_ent args).length
    · rw [List.getElem?_append_left hi] at hv
      have := fv_ent_at E args 0 i v hv
      rw [Nat.zero_add] at this
      exact hl.2.2 _ this
    · rw [List.getElem?_append_right (by omega)] at hv
      rw [List.getElem?_replicate] at hv
      split at hv <;> simp at hv
/-- behind a call -/
theorem fv_run {p : Program} {l : Launch} {e : Env} {s : State} {m : MethodId} {args : Array Value} {below : List Frame} {meth : Method} {c : Code} {H : Heap} {locs : List Loc} {lsA : Array Slot} {pc d : Nat} {st0 rest : List Value} {a : Array Value} {E : fv_E} {Φ' : Option Value → fv_M → Prop} {Q : State → Prop}
    (hr : va_Run p l e (fv_rm d) s m args below meth c H locs 0 0 0 0 (F0 m pc lsA st0) rest (fv_Q E Φ' a) (fv_A E)) (hS : va_S (fv_A E) s.heap H locs)
    (kk : ∀ (r : Option Value) (M' : fv_M) (H1 : Heap) (locs1 : List Loc), Φ' r M' → va_P E.2.2.1 vwCl (fv_W E M') H1 → va_S (fv_A E) s.heap H1 locs1 → W p l e (fv_rm d) s m args below meth c H1 locs1 0 0 Q (F0 m (pc + 3) lsA ((r.map (fv_cv E)).toList ++ rest))) :
    W p l e (fv_rm d) s m args below meth c H locs 0 0 Q (F0 m pc lsA st0) := by
  intro T hT X
  obtain ⟨v, st₀, t, T', L, h0, X', hL, e1, e2, ⟨⟨r, M', hv, hp, hb⟩, hz, hk⟩, st⟩ := hr T hT X
  cases hv
  rw [h0] at hz hk
  obtain ⟨t2, a1, b1⟩ := kk r M' T'.heap (locs ++ L) hp (by rw [e1]; exact hb)
    ⟨Nat.le_trans hS.1 (by rw [e1]; exact hz), fun q h1 h2 => by rw [e1, hk q (Nat.lt_of_lt_of_le h1 hS.1) h2]; exact hS.2.1 q h1 h2, fun q hq => by
      rcases List.mem_append.mp hq with h | h
      · exact hS.2.2 q h
      · exact hL q h⟩ T' rfl X'
  exact ⟨t2, st t2 a1, b1⟩
theorem fv_mem {w : Cond} (i : Nat) (h : lw_tbl[i]? = some w) (hg : goodWord w = true) : w ∈ fv_g := List.mem_filter.mpr ⟨List.mem_of_getElem? h, hg⟩
theorem fv_good {y : fv_Y} (h : Cond.code y.1 y.2.1 y.2.2.1 y.2.2.2 ∈ fv_g) : GoodIn fv_g (fv_ws y) := by
  intro w hw
  have hm : w ∈ fv_g := by
    rcases List.mem_cons.mp hw with e | e
    · rw [e]; exact h
    · exact e
  exact ⟨hm, good_of_word (List.mem_filter.mp hm).2⟩
def fv_ar (y : fv_Y) (n : Nat) : Prop := (y.1.cls ≠ "java/lang/invoke/MethodHandle" ∧ y.1.cls ≠ "java/lang/invoke/VarHandle" ∧ (parseMethodDescriptor y.1.desc).map (fun d => d.parameters.length) = some n) ∧ y.2.2.1 ≤ 19
/-- what the tables say of a call: static, virtual, a nest mate's static -/
def fv_kS (own : String) (idx : Nat) (y : fv_Y) (n : Nat) : Prop := Cond.methodLink own idx y.1 ∈ fv_g ∧ Cond.static y.1 ∈ fv_g ∧ Cond.initialized y.1.cls ∈ fv_g ∧ Cond.code y.1 y.2.1 y.2.2.1 y.2.2.2 ∈ fv_g ∧ fv_ar y n
def fv_kV (own : String) (idx : Nat) (y : fv_Y) (n : Nat) : Prop := Cond.methodLink own idx y.1 ∈ fv_g ∧ Cond.instanceMethod y.1 ∈ fv_g ∧ Cond.selects y.1.cls y.1 y.1 ∈ fv_g ∧ Cond.initialized y.1.cls ∈ fv_g ∧ Cond.code y.1 y.2.1 y.2.2.1 y.2.2.2 ∈ fv_g ∧ fv_ar y n
def fv_kN (own : String) (idx : Nat) (y : fv_Y) (n : Nat) : Prop := (own, idx, y.1) ∈ fv_nm ∧ Cond.static y.1 ∈ fv_g ∧ Cond.initialized y.1.cls ∈ fv_g ∧ Cond.code y.1 y.2.1 y.2.2.1 y.2.2.2 ∈ fv_g ∧ fv_ar y n
theorem fv_blind (E : fv_E) (M : fv_M) (as : List Value) : FrameBlind (fv_Pc E M as) := fun a U g mk q => ⟨q.1, q.2.1.calling g mk a, q.2.2⟩
theorem fv_pre {E : fv_E} {M : fv_M} {as : List Value} {s : State} {H : Heap} {locs : List Loc} (h : fv_SF E s) (hP : va_P E.2.2.1 vwCl (fv_W E M) H) (hS : va_S (fv_A E) s.heap H locs) : PreS s H (fv_Pc E M as) (as.map (fv_cv E)) :=
  ⟨fv_blind E M as, fun U hU hW => ⟨rfl, h.at hW (by rw [hU]; exact hS), by rw [hU]; exact hP⟩⟩
section FVX
variable {E : fv_E} {y y' : fv_Y} {d pc idx n : Nat} {Φ Φ' : Option Value → fv_M → Prop} {ls : List (Option Value)} {st As rest : List Value} {M : fv_M}
theorem x_callS (hk : fv_kS y.1.cls idx y' n) (hdg : decode y.2.1 pc = .ok (.invokestatic idx, 3)) (hC : fv_C E d y' As M Φ') (hst : st = As.reverse ++ rest) (hn : As.length = n) (hlen : ls.length = y.2.2.1) (hroom : (rest.map fun v => v.category).sum ≤ 8)
    (kk : ∀ (r : Option Value) (M' : fv_M), Φ' r M' → fv_X E y (d + 1) Φ (pc + 3) ls (r.toList ++ rest) M') : fv_X E y (d + 1) Φ pc ls st M := by
  intro p l e s m args below meth c H locs lsA F hP hS hL
  obtain ⟨hx, hb, hml, hown, hts, hlk, hret, hSF⟩ := id F
  obtain ⟨k1, k2, k3, k4, k5, k6⟩ := hk
  have hr := va_runS (As := As.map (fv_cv E)) (rest := rest.map (fv_cv E)) (g := F0 m pc lsA (st.map (fv_cv E))) (below := below) (e := e) (meth := meth) (locs := locs) (cells := 0) (slots := 0) ⟨hx, hb, hml, hown, hts⟩ (hC l)
    ⟨callB_of n hts (fv_good k4) rfl rfl rfl (hts _ k3) (hts _ k1) k5 (R := fv_rm (d + 1)) ⟨Nat.le_refl _, by show 8 + (y'.2.2.1 + 11) + 38 * d ≤ 38 * (d + 1); omega⟩, hts _ k2⟩ (fv_pre hSF hP hS)
    rfl (by rw [List.length_map]; exact hn) (hL.1.trans hlen) (by show st.map _ = _; rw [hst, List.map_append, List.map_reverse]) (lv_room (by rw [fv_sum]; exact hroom)) hdg ⟨Nat.zero_le _, Nat.zero_le _⟩
  refine fv_run hr hS (fun r M' H1 locs1 hΦ hP1 hS1 => ?_)
  have := kk r M' hΦ p l e s m args below meth c H1 locs1 lsA F hP1 hS1 hL
  cases r <;> exact this
theorem x_callN (hk : fv_kN y.1.cls idx y' n) (hdg : decode y.2.1 pc = .ok (.invokestatic idx, 3)) (hC : fv_C E d y' As M Φ') (hst : st = As.reverse ++ rest) (hn : As.length = n) (hlen : ls.length = y.2.2.1) (hroom : (rest.map fun v => v.category).sum ≤ 8)
    (kk : ∀ (r : Option Value) (M' : fv_M), Φ' r M' → fv_X E y (d + 1) Φ (pc + 3) ls (r.toList ++ rest) M') : fv_X E y (d + 1) Φ pc ls st M := by
  intro p l e s m args below meth c H locs lsA F hP hS hL
  obtain ⟨hx, hb, hml, hown, hts, hlk, hret, hSF⟩ := id F
  obtain ⟨k1, k2, k3, k4, k5, k6⟩ := hk
  have hr := va_runSN (As := As.map (fv_cv E)) (rest := rest.map (fv_cv E)) (g := F0 m pc lsA (st.map (fv_cv E))) (below := below) (e := e) (meth := meth) (locs := locs) (cells := 0) (slots := 0) ⟨hx, hb, hml, hown, hts⟩ (hC l)
    ⟨va_cnB n hts (fv_good k4) rfl rfl rfl (hSF.2.2.1 _ k1) (hts _ k3) k5 (R := fv_rm (d + 1)) ⟨Nat.le_refl _, by show 8 + (y'.2.2.1 + 11) + 38 * d ≤ 38 * (d + 1); omega⟩, hts _ k2, trivial⟩ (fv_pre hSF hP hS)
    rfl (by rw [List.length_map]; exact hn) (hL.1.trans hlen) (by show st.map _ = _; rw [hst, List.map_append, List.map_reverse]) (lv_room (by rw [fv_sum]; exact hroom)) hdg ⟨Nat.zero_le _, Nat.zero_le _⟩
  refine fv_run hr hS (fun r M' H1 locs1 hΦ hP1 hS1 => ?_)
  have := kk r M' hΦ p l e s m args below meth c H1 locs1 lsA F hP1 hS1 hL
  cases r <;> exact this
theorem x_callV {b ci : Nat} {ss : List fv_Sp} {q : vw_C} (hk : fv_kV y.1.cls idx y' n) (hdg : decode y.2.1 pc = .ok (.invokevirtual idx, 3)) (htb : fv_tab[b]? = some (.inl (ci, ss))) (hci : vwCl[ci]? = some q) (hq : q.1 = y'.1.cls) (hC : fv_C E d y' (.ref b :: As) M Φ') (hst : st = As.reverse ++ .ref b :: rest) (hn : As.length = n) (hlen : ls.length = y.2.2.1) (hroom : (rest.map fun v => v.category).sum ≤ 8)
    (kk : ∀ (r : Option Value) (M' : fv_M), Φ' r M' → fv_X E y (d + 1) Φ (pc + 3) ls (r.toList ++ rest) M') : fv_X E y (d + 1) Φ pc ls st M := by
  intro p l e s m args below meth c H locs lsA F hP hS hL
  obtain ⟨hx, hb, hml, hown, hts, hlk, hret, hSF⟩ := id F
  obtain ⟨k1, k2, k2', k3, k4, k5, k6⟩ := hk
  have hpre := fv_pre (as := .ref b :: As) hSF hP hS
  have hr := va_runV (As := As.map (fv_cv E)) (rest := rest.map (fv_cv E)) (b := E.2.1 b) (C := y'.1.cls) (g := F0 m pc lsA (st.map (fv_cv E))) (below := below) (e := e) (meth := meth) (locs := locs) (cells := 0) (slots := 0) ⟨hx, hb, hml, hown, hts⟩ (hC l)
    ⟨callB_of n hts (fv_good k4) rfl rfl rfl (hts _ k3) (hts _ k1) k5 (R := fv_rm (d + 1)) ⟨Nat.le_refl _, by show 8 + (y'.2.2.1 + 11) + 38 * d ≤ 38 * (d + 1); omega⟩, hts _ k2, hts _ k2'⟩
    ⟨hpre.1, by rw [← hq]; exact va_recv hSF.1 hP hci (fv_W_at htb), hpre.2⟩
    rfl (by rw [List.length_map]; exact hn) (hL.1.trans hlen) (by show st.map _ = _; rw [hst, List.map_append, List.map_reverse]; rfl) (lv_room (by rw [fv_sum]; exact hroom)) hdg ⟨Nat.zero_le _, Nat.zero_le _⟩
  refine fv_run hr hS (fun r M' H1 locs1 hΦ hP1 hS1 => ?_)
  have := kk r M' hΦ p l e s m args below meth c H1 locs1 lsA F hP1 hS1 hL
  cases r <;> exact this
end FVX
end
section
section FVR
variable {E : fv_E} {y : fv_Y} {d pc : Nat} {Φ : Option Value → fv_M → Prop} {ls : List (Option Value)} {st : List Value} {M : fv_M}
theorem x_iconst {n : Int} {v : Int32} (hdg : decode y.2.1 pc = .ok (.iconst n, 1)) (hv : Int32.ofInt n = v) (k : fv_X E y d Φ (pc + 1) (ls) (.int v :: st) M) : fv_X E y d Φ (pc) (ls) (st) M := by
  intro p l e s m args below meth c H locs lsA F hP hS hL
  exact lv_iconst F.1 F.2.1 hdg hv (k p l e s m args below meth c H locs lsA F hP hS hL)
theorem x_bipush {n : Int} {v : Int32} (hdg : decode y.2.1 pc = .ok (.bipush n, 2)) (hv : (Int8.ofInt n).toInt32 = v) (k : fv_X E y d Φ (pc + 2) (ls) (.int v :: st) M) : fv_X E y d Φ (pc) (ls) (st) M := by
  intro p l e s m args below meth c H locs lsA F hP hS hL
  exact lv_bipush F.1 F.2.1 hdg hv (k p l e s m args below meth c H locs lsA F hP hS hL)
theorem x_sipush {n : Int} {v : Int32} (hdg : decode y.2.1 pc = .ok (.sipush n, 3)) (hv : (Int16.ofInt n).toInt32 = v) (k : fv_X E y d Φ (pc + 3) (ls) (.int v :: st) M) : fv_X E y d Φ (pc) (ls) (st) M := by
  intro p l e s m args below meth c H locs lsA F hP hS hL
  exact lv_sipush F.1 F.2.1 hdg hv (k p l e s m args below meth c H locs lsA F hP hS hL)
theorem x_lconst {n : Fin 2} {v : Int64} (hdg : decode y.2.1 pc = .ok (.lconst n, 1)) (hv : Int64.ofNat (n : Nat) = v) (k : fv_X E y d Φ (pc + 1) (ls) (.long v :: st) M) : fv_X E y d Φ (pc) (ls) (st) M := by
  intro p l e s m args below meth c H locs lsA F hP hS hL
  exact lv_lconst F.1 F.2.1 hdg hv (k p l e s m args below meth c H locs lsA F hP hS hL)
theorem x_ldc {idx : Nat} {v : Int32} (hw : Cond.constant y.1.cls idx v ∈ fv_g) (hdg : decode y.2.1 pc = .ok (.ldc idx, 2)) (k : fv_X E y d Φ (pc + 2) (ls) (.int v :: st) M) : fv_X E y d Φ (pc) (ls) (st) M := by
  intro p l e s m args below meth c H locs lsA F hP hS hL
  exact lv_ldc F.1 F.2.1 F.2.2.2.1 (F.2.2.2.2.1 _ hw) hdg (k p l e s m args below meth c H locs lsA F hP hS hL)
theorem x_ldcw {idx : Nat} {v : Int32} (hw : Cond.constant y.1.cls idx v ∈ fv_g) (hdg : decode y.2.1 pc = .ok (.ldc_w idx, 3)) (k : fv_X E y d Φ (pc + 3) (ls) (.int v :: st) M) : fv_X E y d Φ (pc) (ls) (st) M := by
  intro p l e s m args below meth c H locs lsA F hP hS hL
  exact lv_ldcw F.1 F.2.1 F.2.2.2.1 (F.2.2.2.2.1 _ hw) hdg (k p l e s m args below meth c H locs lsA F hP hS hL)
theorem x_ldc2 {idx : Nat} {v : Int64} (hw : Cond.constantLong y.1.cls idx v ∈ fv_g) (hdg : decode y.2.1 pc = .ok (.ldc2_w idx, 3)) (k : fv_X E y d Φ (pc + 3) (ls) (.long v :: st) M) : fv_X E y d Φ (pc) (ls) (st) M := by
  intro p l e s m args below meth c H locs lsA F hP hS hL
  exact lv_ldc2 F.1 F.2.1 F.2.2.2.1 (F.2.2.2.2.1 _ hw) hdg (k p l e s m args below meth c H locs lsA F hP hS hL)
theorem x_iload_n {j : Fin 4} {i : Nat} {x : Int32} (hdg : decode y.2.1 pc = .ok (.iload_n j, 1)) (hi : (j : Nat) = i) (hl : ls[i]? = some (some (.int x))) (k : fv_X E y d Φ (pc + 1) (ls) (.int x :: st) M) : fv_X E y d Φ (pc) (ls) (st) M := by
  intro p l e s m args below meth c H locs lsA F hP hS hL
  exact lv_iload_n F.1 F.2.1 hdg hi (hL.2.2 _ _ hl) (k p l e s m args below meth c H locs lsA F hP hS hL)
theorem x_iload {i : Nat} {x : Int32} (hdg : decode y.2.1 pc = .ok (.iload i, 2)) (hl : ls[i]? = some (some (.int x))) (k : fv_X E y d Φ (pc + 2) (ls) (.int x :: st) M) : fv_X E y d Φ (pc) (ls) (st) M := by
  intro p l e s m args below meth c H locs lsA F hP hS hL
  exact lv_iload F.1 F.2.1 hdg (hL.2.2 _ _ hl) (k p l e s m args below meth c H locs lsA F hP hS hL)
theorem x_lload_n {j : Fin 4} {i : Nat} {x : Int64} (hdg : decode y.2.1 pc = .ok (.lload_n j, 1)) (hi : (j : Nat) = i) (hl : ls[i]? = some (some (.long x))) (k : fv_X E y d Φ (pc + 1) (ls) (.long x :: st) M) : fv_X E y d Φ (pc) (ls) (st) M := by
  intro p l e s m args below meth c H locs lsA F hP hS hL
  exact lv_lload_n F.1 F.2.1 hdg hi (hL.2.2 _ _ hl) (k p l e s m args below meth c H locs lsA F hP hS hL)
theorem x_lload {i : Nat} {x : Int64} (hdg : decode y.2.1 pc = .ok (.lload i, 2)) (hl : ls[i]? = some (some (.long x))) (k : fv_X E y d Φ (pc + 2) (ls) (.long x :: st) M) : fv_X E y d Φ (pc) (ls) (st) M := by
  intro p l e s m args below meth c H locs lsA F hP hS hL
  exact lv_lload F.1 F.2.1 hdg (hL.2.2 _ _ hl) (k p l e s m args below meth c H locs lsA F hP hS hL)
theorem x_aload_n {j : Fin 4} {i : Nat} {x : Nat} (hdg : decode y.2.1 pc = .ok (.aload_n j, 1)) (hi : (j : Nat) = i) (hl : ls[i]? = some (some (.ref x))) (k : fv_X E y d Φ (pc + 1) (ls) (.ref x :: st) M) : fv_X E y d Φ (pc) (ls) (st) M := by
  intro p l e s m args below meth c H locs lsA F hP hS hL
  exact lv_aload_n F.1 F.2.1 hdg hi (hL.2.2 _ _ hl) (k p l e s m args below meth c H locs lsA F hP hS hL)
theorem x_aload {i : Nat} {x : Nat} (hdg : decode y.2.1 pc = .ok (.aload i, 2)) (hl : ls[i]? = some (some (.ref x))) (k : fv_X E y d Φ (pc + 2) (ls) (.ref x :: st) M) : fv_X E y d Φ (pc) (ls) (st) M := by
  intro p l e s m args below meth c H locs lsA F hP hS hL
  exact lv_aload F.1 F.2.1 hdg (hL.2.2 _ _ hl) (k p l e s m args below meth c H locs lsA F hP hS hL)
def fv_lv (E : fv_E) (ls : List (Option Value)) : List (Nat × Value) := (ls.mapIdx fun j o => o.map fun v => (j, fv_cv E v)).filterMap id
theorem fv_lv_mem {E : fv_E} {ls : List (Option Value)} {q : Nat × Value} : q ∈ fv_lv E ls ↔ ∃ v, ls[q.1]? = some (some v) ∧ q.2 = fv_cv E v := by
  unfold fv_lv
  rw [List.mem_filterMap]
  constructor
  · rintro ⟨o, ho, hq⟩
    obtain ⟨j, hj⟩ := List.getElem?_of_mem ho
    rw [List.getElem?_mapIdx] at hj
    cases h : ls[j]? with
    | none => rw [h] at hj; cases hj
    | some o' =>
      rw [h] at hj
      cases o' with
      | none => simp at hj; subst hj; cases hq
      | some v =>
        simp at hj; subst hj; cases hq
        exact ⟨v, h, rfl⟩
  · rintro ⟨v, hv, hq⟩
    obtain ⟨j, z⟩ := q
    dsimp only at hv hq
    subst hq
    exact ⟨some (j, fv_cv E v), List.mem_of_getElem? (i := j) (by rw [List.getElem?_mapIdx, hv]; rfl), rfl⟩
theorem fv_L.has {E : fv_E} {lsA : Array Slot} {ls : List (Option Value)} (h : fv_L E lsA ls) : lv_has lsA ls.length (fv_lv E ls) := by
  refine ⟨h.1, h.2.1, fun q hq => ?_⟩
  obtain ⟨v, h1, h2⟩ := fv_lv_mem.mp hq
  rw [h2]
  exact h.2.2 _ _ h1
def fv_c1 (o : Option Value) : Bool := match o with
  | some v => v.category == 1
  | none => true
/-- the locals behind a store of one word -/
theorem fv_L.st1 {E : fv_E} {lsA : Array Slot} {ls : List (Option Value)} {i n : Nat} {v : Value} (hn : n = ls.length) (hc : ∀ o, 0 < i → ls[i - 1]? = some o → fv_c1 o = true) (h : lv_has lsA n ((i, fv_cv E v) :: (fv_lv E ls).filter (fun q => !(q.1 == i) && !(q.1 + 1 == i && q.2.category == 2)))) : fv_L E lsA (ls.set i (some v)) := by
  refine ⟨by rw [h.1, hn, List.length_set], h.2.1, fun j w hj => ?_⟩
  by_cases hji : j = i
  · subst hji
    rw [List.getElem?_set] at hj
    simp only [if_true] at hj
    split at hj
    · cases hj
      exact h.2.2 _ List.mem_cons_self
    · cases hj
  · rw [List.getElem?_set_ne (Ne.symm hji)] at hj
    refine h.2.2 (j, fv_cv E w) (List.mem_cons_of_mem _ (List.mem_filter.mpr ⟨fv_lv_mem.mpr ⟨w, hj, rfl⟩, ?_⟩))
    have h1 : (j == i) = false := by simpa using hji
    rw [h1]
    by_cases h2 : j + 1 = i
    · have h3 := hc (some w) (by omega) (by rw [show i - 1 = j by omega]; exact hj)
      have h4 : w.category = 1 := by simpa [fv_c1] using h3
      simp [fv_cat, h4]
    · simp [h2]
/-- the locals behind a store of a long -/
theorem fv_L.st2 {E : fv_E} {lsA : Array Slot} {ls : List (Option Value)} {i n : Nat} {v : Value} (hn : n = ls.length) (hc : ∀ o, 0 < i → ls[i - 1]? = some o → fv_c1 o = true) (h : lv_has lsA n ((i, fv_cv E v) :: (fv_lv E ls).filter (fun q => !(q.1 == i) && (!(q.1 == i + 1) && !(q.1 + 1 == i && q.2.category == 2))))) : fv_L E lsA ((ls.set i (some v)).set (i + 1) none) := by
  refine ⟨by rw [h.1, hn, List.length_set, List.length_set], h.2.1, fun j w hj => ?_⟩
  by_cases hj1 : j = i + 1
  · subst hj1
    rw [List.getElem?_set] at hj
    simp only [if_true] at hj
    split at hj <;> cases hj
  rw [List.getElem?_set_ne (Ne.symm hj1)] at hj
  by_cases hji : j = i
  · subst hji
    rw [List.getElem?_set] at hj
    simp only [if_true] at hj
    split at hj
    · cases hj
      exact h.2.2 _ List.mem_cons_self
    · cases hj
  · rw [List.getElem?_set_ne (Ne.symm hji)] at hj
    refine h.2.2 (j, fv_cv E w) (List.mem_cons_of_mem _ (List.mem_filter.mpr ⟨fv_lv_mem.mpr ⟨w, hj, rfl⟩, ?_⟩))
    have h1 : (j == i) = false := by simpa using hji
    have h0 : (j == i + 1) = false := by simpa using hj1
    rw [h1, h0]
    by_cases h2 : j + 1 = i
    · have h3 := hc (some w) (by omega) (by rw [show i - 1 = j by omega]; exact hj)
      have h4 : w.category = 1 := by simpa [fv_c1] using h3
      simp [fv_cat, h4]
    · simp [h2]
theorem xg_istore_n {j : Fin 4} {i : Nat} {x : Int32} (hdg : decode y.2.1 pc = .ok (.istore_n j, 1)) (hi : (j : Nat) = i) (hn : i < ls.length) (hc : ∀ o, 0 < i → ls[i - 1]? = some o → fv_c1 o = true) (k : fv_X E y d Φ (pc + 1) (ls.set i (some (.int x))) (st) M) : fv_X E y d Φ (pc) (ls) (.int x :: st) M := by
  intro p l e s m args below meth c H locs lsA F hP hS hL
  exact lv_istore_n F.1 F.2.1 hdg hi hL.has hn rfl (fun ls2 h2 => k p l e s m args below meth c H locs ls2 F hP hS (fv_L.st1 (v := .int x) rfl hc h2))
theorem xg_istore {i : Nat} {x : Int32} (hdg : decode y.2.1 pc = .ok (.istore i, 2)) (hn : i < ls.length) (hc : ∀ o, 0 < i → ls[i - 1]? = some o → fv_c1 o = true) (k : fv_X E y d Φ (pc + 2) (ls.set i (some (.int x))) (st) M) : fv_X E y d Φ (pc) (ls) (.int x :: st) M := by
  intro p l e s m args below meth c H locs lsA F hP hS hL
  exact lv_istore F.1 F.2.1 hdg hL.has hn rfl (fun ls2 h2 => k p l e s m args below meth c H locs ls2 F hP hS (fv_L.st1 (v := .int x) rfl hc h2))
theorem xg_astore_n {j : Fin 4} {i : Nat} {x : Nat} (hdg : decode y.2.1 pc = .ok (.astore_n j, 1)) (hi : (j : Nat) = i) (hn : i < ls.length) (hc : ∀ o, 0 < i → ls[i - 1]? = some o → fv_c1 o = true) (k : fv_X E y d Φ (pc + 1) (ls.set i (some (.ref x))) (st) M) : fv_X E y d Φ (pc) (ls) (.ref x :: st) M := by
  intro p l e s m args below meth c H locs lsA F hP hS hL
  exact lv_astore_n F.1 F.2.1 hdg hi hL.has hn rfl (fun ls2 h2 => k p l e s m args below meth c H locs ls2 F hP hS (fv_L.st1 (v := .ref x) rfl hc h2))
theorem xg_astore {i : Nat} {x : Nat} (hdg : decode y.2.1 pc = .ok (.astore i, 2)) (hn : i < ls.length) (hc : ∀ o, 0 < i → ls[i - 1]? = some o → fv_c1 o = true) (k : fv_X E y d Φ (pc + 2) (ls.set i (some (.ref x))) (st) M) : fv_X E y d Φ (pc) (ls) (.ref x :: st) M := by
  intro p l e s m args below meth c H locs lsA F hP hS hL
  exact lv_astore F.1 F.2.1 hdg hL.has hn rfl (fun ls2 h2 => k p l e s m args below meth c H locs ls2 F hP hS (fv_L.st1 (v := .ref x) rfl hc h2))
theorem xg_lstore_n {j : Fin 4} {i : Nat} {x : Int64} (hdg : decode y.2.1 pc = .ok (.lstore_n j, 1)) (hi : (j : Nat) = i) (hn : i + 1 < ls.length) (hc : ∀ o, 0 < i → ls[i - 1]? = some o → fv_c1 o = true) (k : fv_X E y d Φ (pc + 1) ((ls.set i (some (.long x))).set (i + 1) none) (st) M) : fv_X E y d Φ (pc) (ls) (.long x :: st) M := by
  intro p l e s m args below meth c H locs lsA F hP hS hL
  exact lv_lstore_n F.1 F.2.1 hdg hi hL.has hn rfl (fun ls2 h2 => k p l e s m args below meth c H locs ls2 F hP hS (fv_L.st2 (v := .long x) rfl hc h2))
theorem xg_lstore {i : Nat} {x : Int64} (hdg : decode y.2.1 pc = .ok (.lstore i, 2)) (hn : i + 1 < ls.length) (hc : ∀ o, 0 < i → ls[i - 1]? = some o → fv_c1 o = true) (k : fv_X E y d Φ (pc + 2) ((ls.set i (some (.long x))).set (i + 1) none) (st) M) : fv_X E y d Φ (pc) (ls) (.long x :: st) M := by
  intro p l e s m args below meth c H locs lsA F hP hS hL
  exact lv_lstore F.1 F.2.1 hdg hL.has hn rfl (fun ls2 h2 => k p l e s m args below meth c H locs ls2 F hP hS (fv_L.st2 (v := .long x) rfl hc h2))
theorem xg_iinc {i : Nat} {n : Int} {x v : Int32} (hdg : decode y.2.1 pc = .ok (.iinc i n, 3)) (hx : ls[i]? = some (some (.int x))) (hv : x + Int32.ofInt n = v) (hc : ∀ o, 0 < i → ls[i - 1]? = some o → fv_c1 o = true) (k : fv_X E y d Φ (pc + 3) (ls.set i (some (.int v))) (st) M) : fv_X E y d Φ (pc) (ls) (st) M := by
  intro p l e s m args below meth c H locs lsA F hP hS hL
  have hm : (i, Value.int x) ∈ fv_lv E ls := fv_lv_mem.mpr ⟨.int x, hx, rfl⟩
  obtain ⟨kk, hk⟩ := List.getElem?_of_mem hm
  exact lv_iinc F.1 F.2.1 hdg hL.has hk hv (List.getElem?_eq_some_iff.mp hx).1 rfl (fun ls2 h2 => k p l e s m args below meth c H locs ls2 F hP hS (fv_L.st1 (v := .int v) rfl hc h2))
theorem x_istore_n0 {v0 : Option Value} {t : List (Option Value)} {x : Int32} (hdg : decode y.2.1 pc = .ok (.istore_n 0, 1))  (k : fv_X E y d Φ (pc + 1) (some (.int x) :: t) (st) M) : fv_X E y d Φ (pc) (v0 :: t) (.int x :: st) M := xg_istore_n (i := 0) hdg rfl (by simp only [List.length_cons]; omega) (fun _ h _ => absurd h (Nat.lt_irrefl 0)) k
theorem x_astore_n0 {v0 : Option Value} {t : List (Option Value)} {x : Nat} (hdg : decode y.2.1 pc = .ok (.astore_n 0, 1))  (k : fv_X E y d Φ (pc + 1) (some (.ref x) :: t) (st) M) : fv_X E y d Φ (pc) (v0 :: t) (.ref x :: st) M := xg_astore_n (i := 0) hdg rfl (by simp only [List.length_cons]; omega) (fun _ h _ => absurd h (Nat.lt_irrefl 0)) k
theorem x_iinc0 {t : List (Option Value)} {x v : Int32} {n : Int} (hdg : decode y.2.1 pc = .ok (.iinc 0 n, 3)) (hv : x + Int32.ofInt n = v)  (k : fv_X E y d Φ (pc + 3) (some (.int v) :: t) (st) M) : fv_X E y d Φ (pc) (some (.int x) :: t) (st) M := xg_iinc (i := 0) hdg rfl hv (fun _ h _ => absurd h (Nat.lt_irrefl 0)) k
theorem x_lstore_n0 {v0 z : Option Value} {t : List (Option Value)} {x : Int64} (hdg : decode y.2.1 pc = .ok (.lstore_n 0, 1))  (k : fv_X E y d Φ (pc + 1) (some (.long x) :: none :: t) (st) M) : fv_X E y d Φ (pc) (v0 :: z :: t) (.long x :: st) M := xg_lstore_n (i := 0) hdg rfl (by simp only [List.length_cons]; omega) (fun _ h _ => absurd h (Nat.lt_irrefl 0)) k
theorem x_istore_n1 {v0 v1 : Option Value} {t : List (Option Value)} {x : Int32} (hdg : decode y.2.1 pc = .ok (.istore_n 1, 1)) (hc : fv_c1 v0 = true) (k : fv_X E y d Φ (pc + 1) (v0 :: some (.int x) :: t) (st) M) : fv_X E y d Φ (pc) (v0 :: v1 :: t) (.int x :: st) M := xg_istore_n (i := 1) hdg rfl (by simp only [List.length_cons]; omega) (fun o _ h => by cases h; exact hc) k
theorem x_astore_n1 {v0 v1 : Option Value} {t : List (Option Value)} {x : Nat} (hdg : decode y.2.1 pc = .ok (.astore_n 1, 1)) (hc : fv_c1 v0 = true) (k : fv_X E y d Φ (pc + 1) (v0 :: some (.ref x) :: t) (st) M) : fv_X E y d Φ (pc) (v0 :: v1 :: t) (.ref x :: st) M := xg_astore_n (i := 1) hdg rfl (by simp only [List.length_cons]; omega) (fun o _ h => by cases h; exact hc) k
theorem x_iinc1 {v0 : Option Value} {t : List (Option Value)} {x v : Int32} {n : Int} (hdg : decode y.2.1 pc = .ok (.iinc 1 n, 3)) (hv : x + Int32.ofInt n = v) (hc : fv_c1 v0 = true) (k : fv_X E y d Φ (pc + 3) (v0 :: some (.int v) :: t) (st) M) : fv_X E y d Φ (pc) (v0 :: some (.int x) :: t) (st) M := xg_iinc (i := 1) hdg rfl hv (fun o _ h => by cases h; exact hc) k
theorem x_lstore_n1 {v0 v1 z : Option Value} {t : List (Option Value)} {x : Int64} (hdg : decode y.2.1 pc = .ok (.lstore_n 1, 1)) (hc : fv_c1 v0 = true) (k : fv_X E y d Φ (pc + 1) (v0 :: some (.long x) :: none :: t) (st) M) : fv_X E y d Φ (pc) (v0 :: v1 :: z :: t) (.long x :: st) M := xg_lstore_n (i := 1) hdg rfl (by simp only [List.length_cons]; omega) (fun o _ h => by cases h; exact hc) k
theorem x_istore_n2 {v0 v1 v2 : Option Value} {t : List (Option Value)} {x : Int32} (hdg : decode y.2.1 pc = .ok (.istore_n 2, 1)) (hc : fv_c1 v1 = true) (k : fv_X E y d Φ (pc + 1) (v0 :: v1 :: some (.int x) :: t) (st) M) : fv_X E y d Φ (pc) (v0 :: v1 :: v2 :: t) (.int x :: st) M := xg_istore_n (i := 2) hdg rfl (by simp only [List.length_cons]; omega) (fun o _ h => by cases h; exact hc) k
theorem x_astore_n2 {v0 v1 v2 : Option Value} {t : List (Option Value)} {x : Nat} (hdg : decode y.2.1 pc = .ok (.astore_n 2, 1)) (hc : fv_c1 v1 = true) (k : fv_X E y d Φ (pc + 1) (v0 :: v1 :: some (.ref x) :: t) (st) M) : fv_X E y d Φ (pc) (v0 :: v1 :: v2 :: t) (.ref x :: st) M := xg_astore_n (i := 2) hdg rfl (by simp only [List.length_cons]; omega) (fun o _ h => by cases h; exact hc) k
theorem x_iinc2 {v0 v1 : Option Value} {t : List (Option Value)} {x v : Int32} {n : Int} (hdg : decode y.2.1 pc = .ok (.iinc 2 n, 3)) (hv : x + Int32.ofInt n = v) (hc : fv_c1 v1 = true) (k : fv_X E y d Φ (pc + 3) (v0 :: v1 :: some (.int v) :: t) (st) M) : fv_X E y d Φ (pc) (v0 :: v1 :: some (.int x) :: t) (st) M := xg_iinc (i := 2) hdg rfl hv (fun o _ h => by cases h; exact hc) k
theorem x_lstore_n2 {v0 v1 v2 z : Option Value} {t : List (Option Value)} {x : Int64} (hdg : decode y.2.1 pc = .ok (.lstore_n 2, 1)) (hc : fv_c1 v1 = true) (k : fv_X E y d Φ (pc + 1) (v0 :: v1 :: some (.long x) :: none :: t) (st) M) : fv_X E y d Φ (pc) (v0 :: v1 :: v2 :: z :: t) (.long x :: st) M := xg_lstore_n (i := 2) hdg rfl (by simp only [List.length_cons]; omega) (fun o _ h => by cases h; exact hc) k
theorem x_istore_n3 {v0 v1 v2 v3 : Option Value} {t : List (Option Value)} {x : Int32} (hdg : decode y.2.1 pc = .ok (.istore_n 3, 1)) (hc : fv_c1 v2 = true) (k : fv_X E y d Φ (pc + 1) (v0 :: v1 :: v2 :: some (.int x) :: t) (st) M) : fv_X E y d Φ (pc) (v0 :: v1 :: v2 :: v3 :: t) (.int x :: st) M := xg_istore_n (i := 3) hdg rfl (by simp only [List.length_cons]; omega) (fun o _ h => by cases h; exact hc) k
theorem x_astore_n3 {v0 v1 v2 v3 : Option Value} {t : List (Option Value)} {x : Nat} (hdg : decode y.2.1 pc = .ok (.astore_n 3, 1)) (hc : fv_c1 v2 = true) (k : fv_X E y d Φ (pc + 1) (v0 :: v1 :: v2 :: some (.ref x) :: t) (st) M) : fv_X E y d Φ (pc) (v0 :: v1 :: v2 :: v3 :: t) (.ref x :: st) M := xg_astore_n (i := 3) hdg rfl (by simp only [List.length_cons]; omega) (fun o _ h => by cases h; exact hc) k
theorem x_iinc3 {v0 v1 v2 : Option Value} {t : List (Option Value)} {x v : Int32} {n : Int} (hdg : decode y.2.1 pc = .ok (.iinc 3 n, 3)) (hv : x + Int32.ofInt n = v) (hc : fv_c1 v2 = true) (k : fv_X E y d Φ (pc + 3) (v0 :: v1 :: v2 :: some (.int v) :: t) (st) M) : fv_X E y d Φ (pc) (v0 :: v1 :: v2 :: some (.int x) :: t) (st) M := xg_iinc (i := 3) hdg rfl hv (fun o _ h => by cases h; exact hc) k
theorem x_lstore_n3 {v0 v1 v2 v3 z : Option Value} {t : List (Option Value)} {x : Int64} (hdg : decode y.2.1 pc = .ok (.lstore_n 3, 1)) (hc : fv_c1 v2 = true) (k : fv_X E y d Φ (pc + 1) (v0 :: v1 :: v2 :: some (.long x) :: none :: t) (st) M) : fv_X E y d Φ (pc) (v0 :: v1 :: v2 :: v3 :: z :: t) (.long x :: st) M := xg_lstore_n (i := 3) hdg rfl (by simp only [List.length_cons]; omega) (fun o _ h => by cases h; exact hc) k
theorem x_istore4 {v0 v1 v2 v3 v4 : Option Value} {t : List (Option Value)} {x : Int32} (hdg : decode y.2.1 pc = .ok (.istore 4, 2)) (hc : fv_c1 v3 = true) (k : fv_X E y d Φ (pc + 2) (v0 :: v1 :: v2 :: v3 :: some (.int x) :: t) (st) M) : fv_X E y d Φ (pc) (v0 :: v1 :: v2 :: v3 :: v4 :: t) (.int x :: st) M := xg_istore (i := 4) hdg (by simp only [List.length_cons]; omega) (fun o _ h => by cases h; exact hc) k
theorem x_astore4 {v0 v1 v2 v3 v4 : Option Value} {t : List (Option Value)} {x : Nat} (hdg : decode y.2.1 pc = .ok (.astore 4, 2)) (hc : fv_c1 v3 = true) (k : fv_X E y d Φ (pc + 2) (v0 :: v1 :: v2 :: v3 :: some (.ref x) :: t) (st) M) : fv_X E y d Φ (pc) (v0 :: v1 :: v2 :: v3 :: v4 :: t) (.ref x :: st) M := xg_astore (i := 4) hdg (by simp only [List.length_cons]; omega) (fun o _ h => by cases h; exact hc) k
theorem x_iinc4 {v0 v1 v2 v3 : Option Value} {t : List (Option Value)} {x v : Int32} {n : Int} (hdg : decode y.2.1 pc = .ok (.iinc 4 n, 3)) (hv : x + Int32.ofInt n = v) (hc : fv_c1 v3 = true) (k : fv_X E y d Φ (pc + 3) (v0 :: v1 :: v2 :: v3 :: some (.int v) :: t) (st) M) : fv_X E y d Φ (pc) (v0 :: v1 :: v2 :: v3 :: some (.int x) :: t) (st) M := xg_iinc (i := 4) hdg rfl hv (fun o _ h => by cases h; exact hc) k
theorem x_lstore4 {v0 v1 v2 v3 v4 z : Option Value} {t : List (Option Value)} {x : Int64} (hdg : decode y.2.1 pc = .ok (.lstore 4, 2)) (hc : fv_c1 v3 = true) (k : fv_X E y d Φ (pc + 2) (v0 :: v1 :: v2 :: v3 :: some (.long x) :: none :: t) (st) M) : fv_X E y d Φ (pc) (v0 :: v1 :: v2 :: v3 :: v4 :: z :: t) (.long x :: st) M := xg_lstore (i := 4) hdg (by simp only [List.length_cons]; omega) (fun o _ h => by cases h; exact hc) k
theorem x_istore5 {v0 v1 v2 v3 v4 v5 : Option Value} {t : List (Option Value)} {x : Int32} (hdg : decode y.2.1 pc = .ok (.istore 5, 2)) (hc : fv_c1 v4 = true) (k : fv_X E y d Φ (pc + 2) (v0 :: v1 :: v2 :: v3 :: v4 :: some (.int x) :: t) (st) M) : fv_X E y d Φ (pc) (v0 :: v1 :: v2 :: v3 :: v4 :: v5 :: t) (.int x :: st) M := xg_istore (i := 5) hdg (by simp only [List.length_cons]; omega) (fun o _ h => by cases h; exact hc) k
theorem x_astore5 {v0 v1 v2 v3 v4 v5 : Option Value} {t : List (Option Value)} {x : Nat} (hdg : decode y.2.1 pc = .ok (.astore 5, 2)) (hc : fv_c1 v4 = true) (k : fv_X E y d Φ (pc + 2) (v0 :: v1 :: v2 :: v3 :: v4 :: some (.ref x) :: t) (st) M) : fv_X E y d Φ (pc) (v0 :: v1 :: v2 :: v3 :: v4 :: v5 :: t) (.ref x :: st) M := xg_astore (i := 5) hdg (by simp only [List.length_cons]; omega) (fun o _ h => by cases h; exact hc) k
theorem x_iinc5 {v0 v1 v2 v3 v4 : Option Value} {t : List (Option Value)} {x v : Int32} {n : Int} (hdg : decode y.2.1 pc = .ok (.iinc 5 n, 3)) (hv : x + Int32.ofInt n = v) (hc : fv_c1 v4 = true) (k : fv_X E y d Φ (pc + 3) (v0 :: v1 :: v2 :: v3 :: v4 :: some (.int v) :: t) (st) M) : fv_X E y d Φ (pc) (v0 :: v1 :: v2 :: v3 :: v4 :: some (.int x) :: t) (st) M := xg_iinc (i := 5) hdg rfl hv (fun o _ h => by cases h; exact hc) k
theorem x_lstore5 {v0 v1 v2 v3 v4 v5 z : Option Value} {t : List (Option Value)} {x : Int64} (hdg : decode y.2.1 pc = .ok (.lstore 5, 2)) (hc : fv_c1 v4 = true) (k : fv_X E y d Φ (pc + 2) (v0 :: v1 :: v2 :: v3 :: v4 :: some (.long x) :: none :: t) (st) M) : fv_X E y d Φ (pc) (v0 :: v1 :: v2 :: v3 :: v4 :: v5 :: z :: t) (.long x :: st) M := xg_lstore (i := 5) hdg (by simp only [List.length_cons]; omega) (fun o _ h => by cases h; exact hc) k
theorem x_istore6 {v0 v1 v2 v3 v4 v5 v6 : Option Value} {t : List (Option Value)} {x : Int32} (hdg : decode y.2.1 pc = .ok (.istore 6, 2)) (hc : fv_c1 v5 = true) (k : fv_X E y d Φ (pc + 2) (v0 :: v1 :: v2 :: v3 :: v4 :: v5 :: some (.int x) :: t) (st) M) : fv_X E y d Φ (pc) (v0 :: v1 :: v2 :: v3 :: v4 :: v5 :: v6 :: t) (.int x :: st) M := xg_istore (i := 6) hdg (by simp only [List.length_cons]; omega) (fun o _ h => by cases h; exact hc) k
theorem x_astore6 {v0 v1 v2 v3 v4 v5 v6 : Option Value} {t : List (Option Value)} {x : Nat} (hdg : decode y.2.1 pc = .ok (.astore 6, 2)) (hc : fv_c1 v5 = true) (k : fv_X E y d Φ (pc + 2) (v0 :: v1 :: v2 :: v3 :: v4 :: v5 :: some (.ref x) :: t) (st) M) : fv_X E y d Φ (pc) (v0 :: v1 :: v2 :: v3 :: v4 :: v5 :: v6 :: t) (.ref x :: st) M := xg_astore (i := 6) hdg (by simp only [List.length_cons]; omega) (fun o _ h => by cases h; exact hc) k
theorem x_iinc6 {v0 v1 v2 v3 v4 v5 : Option Value} {t : List (Option Value)} {x v : Int32} {n : Int} (hdg : decode y.2.1 pc = .ok (.iinc 6 n, 3)) (hv : x + Int32.ofInt n = v) (hc : fv_c1 v5 = true) (k : fv_X E y d Φ (pc + 3) (v0 :: v1 :: v2 :: v3 :: v4 :: v5 :: some (.int v) :: t) (st) M) : fv_X E y d Φ (pc) (v0 :: v1 :: v2 :: v3 :: v4 :: v5 :: some (.int x) :: t) (st) M := xg_iinc (i := 6) hdg rfl hv (fun o _ h => by cases h; exact hc) k
theorem x_lstore6 {v0 v1 v2 v3 v4 v5 v6 z : Option Value} {t : List (Option Value)} {x : Int64} (hdg : decode y.2.1 pc = .ok (.lstore 6, 2)) (hc : fv_c1 v5 = true) (k : fv_X E y d Φ (pc + 2) (v0 :: v1 :: v2 :: v3 :: v4 :: v5 :: some (.long x) :: none :: t) (st) M) : fv_X E y d Φ (pc) (v0 :: v1 :: v2 :: v3 :: v4 :: v5 :: v6 :: z :: t) (.long x :: st) M := xg_lstore (i := 6) hdg (by simp only [List.length_cons]; omega) (fun o _ h => by cases h; exact hc) k
theorem x_istore7 {v0 v1 v2 v3 v4 v5 v6 v7 : Option Value} {t : List (Option Value)} {x : Int32} (hdg : decode y.2.1 pc = .ok (.istore 7, 2)) (hc : fv_c1 v6 = true) (k : fv_X E y d Φ (pc + 2) (v0 :: v1 :: v2 :: v3 :: v4 :: v5 :: v6 :: some (.int x) :: t) (st) M) : fv_X E y d Φ (pc) (v0 :: v1 :: v2 :: v3 :: v4 :: v5 :: v6 :: v7 :: t) (.int x :: st) M := xg_istore (i := 7) hdg (by simp only [List.length_cons]; omega) (fun o _ h => by cases h; exact hc) k
theorem x_astore7 {v0 v1 v2 v3 v4 v5 v6 v7 : Option Value} {t : List (Option Value)} {x : Nat} (hdg : decode y.2.1 pc = .ok (.astore 7, 2)) (hc : fv_c1 v6 = true) (k : fv_X E y d Φ (pc + 2) (v0 :: v1 :: v2 :: v3 :: v4 :: v5 :: v6 :: some (.ref x) :: t) (st) M) : fv_X E y d Φ (pc) (v0 :: v1 :: v2 :: v3 :: v4 :: v5 :: v6 :: v7 :: t) (.ref x :: st) M := xg_astore (i := 7) hdg (by simp only [List.length_cons]; omega) (fun o _ h => by cases h; exact hc) k
theorem x_iinc7 {v0 v1 v2 v3 v4 v5 v6 : Option Value} {t : List (Option Value)} {x v : Int32} {n : Int} (hdg : decode y.2.1 pc = .ok (.iinc 7 n, 3)) (hv : x + Int32.ofInt n = v) (hc : fv_c1 v6 = true) (k : fv_X E y d Φ (pc + 3) (v0 :: v1 :: v2 :: v3 :: v4 :: v5 :: v6 :: some (.int v) :: t) (st) M) : fv_X E y d Φ (pc) (v0 :: v1 :: v2 :: v3 :: v4 :: v5 :: v6 :: some (.int x) :: t) (st) M := xg_iinc (i := 7) hdg rfl hv (fun o _ h => by cases h; exact hc) k
theorem x_lstore7 {v0 v1 v2 v3 v4 v5 v6 v7 z : Option Value} {t : List (Option Value)} {x : Int64} (hdg : decode y.2.1 pc = .ok (.lstore 7, 2)) (hc : fv_c1 v6 = true) (k : fv_X E y d Φ (pc + 2) (v0 :: v1 :: v2 :: v3 :: v4 :: v5 :: v6 :: some (.long x) :: none :: t) (st) M) : fv_X E y d Φ (pc) (v0 :: v1 :: v2 :: v3 :: v4 :: v5 :: v6 :: v7 :: z :: t) (.long x :: st) M := xg_lstore (i := 7) hdg (by simp only [List.length_cons]; omega) (fun o _ h => by cases h; exact hc) k
theorem x_istore8 {v0 v1 v2 v3 v4 v5 v6 v7 v8 : Option Value} {t : List (Option Value)} {x : Int32} (hdg : decode y.2.1 pc = .ok (.istore 8, 2)) (hc : fv_c1 v7 = true) (k : fv_X E y d Φ (pc + 2) (v0 :: v1 :: v2 :: v3 :: v4 :: v5 :: v6 :: v7 :: some (.int x) :: t) (st) M) : fv_X E y d Φ (pc) (v0 :: v1 :: v2 :: v3 :: v4 :: v5 :: v6 :: v7 :: v8 :: t) (.int x :: st) M := xg_istore (i := 8) hdg (by simp only [List.length_cons]; omega) (fun o _ h => by cases h; exact hc) k
theorem x_astore8 {v0 v1 v2 v3 v4 v5 v6 v7 v8 : Option Value} {t : List (Option Value)} {x : Nat} (hdg : decode y.2.1 pc = .ok (.astore 8, 2)) (hc : fv_c1 v7 = true) (k : fv_X E y d Φ (pc + 2) (v0 :: v1 :: v2 :: v3 :: v4 :: v5 :: v6 :: v7 :: some (.ref x) :: t) (st) M) : fv_X E y d Φ (pc) (v0 :: v1 :: v2 :: v3 :: v4 :: v5 :: v6 :: v7 :: v8 :: t) (.ref x :: st) M := xg_astore (i := 8) hdg (by simp only [List.length_cons]; omega) (fun o _ h => by cases h; exact hc) k
theorem x_iinc8 {v0 v1 v2 v3 v4 v5 v6 v7 : Option Value} {t : List (Option Value)} {x v : Int32} {n : Int} (hdg : decode y.2.1 pc = .ok (.iinc 8 n, 3)) (hv : x + Int32.ofInt n = v) (hc : fv_c1 v7 = true) (k : fv_X E y d Φ (pc + 3) (v0 :: v1 :: v2 :: v3 :: v4 :: v5 :: v6 :: v7 :: some (.int v) :: t) (st) M) : fv_X E y d Φ (pc) (v0 :: v1 :: v2 :: v3 :: v4 :: v5 :: v6 :: v7 :: some (.int x) :: t) (st) M := xg_iinc (i := 8) hdg rfl hv (fun o _ h => by cases h; exact hc) k
theorem x_lstore8 {v0 v1 v2 v3 v4 v5 v6 v7 v8 z : Option Value} {t : List (Option Value)} {x : Int64} (hdg : decode y.2.1 pc = .ok (.lstore 8, 2)) (hc : fv_c1 v7 = true) (k : fv_X E y d Φ (pc + 2) (v0 :: v1 :: v2 :: v3 :: v4 :: v5 :: v6 :: v7 :: some (.long x) :: none :: t) (st) M) : fv_X E y d Φ (pc) (v0 :: v1 :: v2 :: v3 :: v4 :: v5 :: v6 :: v7 :: v8 :: z :: t) (.long x :: st) M := xg_lstore (i := 8) hdg (by simp only [List.length_cons]; omega) (fun o _ h => by cases h; exact hc) k
theorem x_istore9 {v0 v1 v2 v3 v4 v5 v6 v7 v8 v9 : Option Value} {t : List (Option Value)} {x : Int32} (hdg : decode y.2.1 pc = .ok (.istore 9, 2)) (hc : fv_c1 v8 = true) (k : fv_X E y d Φ (pc + 2) (v0 :: v1 :: v2 :: v3 :: v4 :: v5 :: v6 :: v7 :: v8 :: some (.int x) :: t) (st) M) : fv_X E y d Φ (pc) (v0 :: v1 :: v2 :: v3 :: v4 :: v5 :: v6 :: v7 :: v8 :: v9 :: t) (.int x :: st) M := xg_istore (i := 9) hdg (by simp only [List.length_cons]; omega) (fun o _ h => by cases h; exact hc) k
theorem x_astore9 {v0 v1 v2 v3 v4 v5 v6 v7 v8 v9 : Option Value} {t : List (Option Value)} {x : Nat} (hdg : decode y.2.1 pc = .ok (.astore 9, 2)) (hc : fv_c1 v8 = true) (k : fv_X E y d Φ (pc + 2) (v0 :: v1 :: v2 :: v3 :: v4 :: v5 :: v6 :: v7 :: v8 :: some (.ref x) :: t) (st) M) : fv_X E y d Φ (pc) (v0 :: v1 :: v2 :: v3 :: v4 :: v5 :: v6 :: v7 :: v8 :: v9 :: t) (.ref x :: st) M := xg_astore (i := 9) hdg (by simp only [List.length_cons]; omega) (fun o _ h => by cases h; exact hc) k
theorem x_iinc9 {v0 v1 v2 v3 v4 v5 v6 v7 v8 : Option Value} {t : List (Option Value)} {x v : Int32} {n : Int} (hdg : decode y.2.1 pc = .ok (.iinc 9 n, 3)) (hv : x + Int32.ofInt n = v) (hc : fv_c1 v8 = true) (k : fv_X E y d Φ (pc + 3) (v0 :: v1 :: v2 :: v3 :: v4 :: v5 :: v6 :: v7 :: v8 :: some (.int v) :: t) (st) M) : fv_X E y d Φ (pc) (v0 :: v1 :: v2 :: v3 :: v4 :: v5 :: v6 :: v7 :: v8 :: some (.int x) :: t) (st) M := xg_iinc (i := 9) hdg rfl hv (fun o _ h => by cases h; exact hc) k
theorem x_lstore9 {v0 v1 v2 v3 v4 v5 v6 v7 v8 v9 z : Option Value} {t : List (Option Value)} {x : Int64} (hdg : decode y.2.1 pc = .ok (.lstore 9, 2)) (hc : fv_c1 v8 = true) (k : fv_X E y d Φ (pc + 2) (v0 :: v1 :: v2 :: v3 :: v4 :: v5 :: v6 :: v7 :: v8 :: some (.long x) :: none :: t) (st) M) : fv_X E y d Φ (pc) (v0 :: v1 :: v2 :: v3 :: v4 :: v5 :: v6 :: v7 :: v8 :: v9 :: z :: t) (.long x :: st) M := xg_lstore (i := 9) hdg (by simp only [List.length_cons]; omega) (fun o _ h => by cases h; exact hc) k
theorem x_istore10 {v0 v1 v2 v3 v4 v5 v6 v7 v8 v9 v10 : Option Value} {t : List (Option Value)} {x : Int32} (hdg : decode y.2.1 pc = .ok (.istore 10, 2)) (hc : fv_c1 v9 = true) (k : fv_X E y d Φ (pc + 2) (v0 :: v1 :: v2 :: v3 :: v4 :: v5 :: v6 :: v7 :: v8 :: v9 :: some (.int x) :: t) (st) M) : fv_X E y d Φ (pc) (v0 :: v1 :: v2 :: v3 :: v4 :: v5 :: v6 :: v7 :: v8 :: v9 :: v10 :: t) (.int x :: st) M := xg_istore (i := 10) hdg (by simp only [List.length_cons]; omega) (fun o _ h => by cases h; exact hc) k
theorem x_astore10 {v0 v1 v2 v3 v4 v5 v6 v7 v8 v9 v10 : Option Value} {t : List (Option Value)} {x : Nat} (hdg : decode y.2.1 pc = .ok (.astore 10, 2)) (hc : fv_c1 v9 = true) (k : fv_X E y d Φ (pc + 2) (v0 :: v1 :: v2 :: v3 :: v4 :: v5 :: v6 :: v7 :: v8 :: v9 :: some (.ref x) :: t) (st) M) : fv_X E y d Φ (pc) (v0 :: v1 :: v2 :: v3 :: v4 :: v5 :: v6 :: v7 :: v8 :: v9 :: v10 :: t) (.ref x :: st) M := xg_astore (i := 10) hdg (by simp only [List.length_cons]; omega) (fun o _ h => by cases h; exact hc) k
theorem x_iinc10 {v0 v1 v2 v3 v4 v5 v6 v7 v8 v9 : Option Value} {t : List (Option Value)} {x v : Int32} {n : Int} (hdg : decode y.2.1 pc = .ok (.iinc 10 n, 3)) (hv : x + Int32.ofInt n = v) (hc : fv_c1 v9 = true) (k : fv_X E y d Φ (pc + 3) (v0 :: v1 :: v2 :: v3 :: v4 :: v5 :: v6 :: v7 :: v8 :: v9 :: some (.int v) :: t) (st) M) : fv_X E y d Φ (pc) (v0 :: v1 :: v2 :: v3 :: v4 :: v5 :: v6 :: v7 :: v8 :: v9 :: some (.int x) :: t) (st) M := xg_iinc (i := 10) hdg rfl hv (fun o _ h => by cases h; exact hc) k
theorem x_lstore10 {v0 v1 v2 v3 v4 v5 v6 v7 v8 v9 v10 z : Option Value} {t : List (Option Value)} {x : Int64} (hdg : decode y.2.1 pc = .ok (.lstore 10, 2)) (hc : fv_c1 v9 = true) (k : fv_X E y d Φ (pc + 2) (v0 :: v1 :: v2 :: v3 :: v4 :: v5 :: v6 :: v7 :: v8 :: v9 :: some (.long x) :: none :: t) (st) M) : fv_X E y d Φ (pc) (v0 :: v1 :: v2 :: v3 :: v4 :: v5 :: v6 :: v7 :: v8 :: v9 :: v10 :: z :: t) (.long x :: st) M := xg_lstore (i := 10) hdg (by simp only [List.length_cons]; omega) (fun o _ h => by cases h; exact hc) k
theorem x_istore11 {v0 v1 v2 v3 v4 v5 v6 v7 v8 v9 v10 v11 : Option Value} {t : List (Option Value)} {x : Int32} (hdg : decode y.2.1 pc = .ok (.istore 11, 2)) (hc : fv_c1 v10 = true) (k : fv_X E y d Φ (pc + 2) (v0 :: v1 :: v2 :: v3 :: v4 :: v5 :: v6 :: v7 :: v8 :: v9 :: v10 :: some (.int x) :: t) (st) M) : fv_X E y d Φ (pc) (v0 :: v1 :: v2 :: v3 :: v4 :: v5 :: v6 :: v7 :: v8 :: v9 :: v10 :: v11 :: t) (.int x :: st) M := xg_istore (i := 11) hdg (by simp only [List.length_cons]; omega) (fun o _ h => by cases h; exact hc) k
theorem x_astore11 {v0 v1 v2 v3 v4 v5 v6 v7 v8 v9 v10 v11 : Option Value} {t : List (Option Value)} {x : Nat} (hdg : decode y.2.1 pc = .ok (.astore 11, 2)) (hc : fv_c1 v10 = true) (k : fv_X E y d Φ (pc + 2) (v0 :: v1 :: v2 :: v3 :: v4 :: v5 :: v6 :: v7 :: v8 :: v9 :: v10 :: some (.ref x) :: t) (st) M) : fv_X E y d Φ (pc) (v0 :: v1 :: v2 :: v3 :: v4 :: v5 :: v6 :: v7 :: v8 :: v9 :: v10 :: v11 :: t) (.ref x :: st) M := xg_astore (i := 11) hdg (by simp only [List.length_cons]; omega) (fun o _ h => by cases h; exact hc) k
theorem x_iinc11 {v0 v1 v2 v3 v4 v5 v6 v7 v8 v9 v10 : Option Value} {t : List (Option Value)} {x v : Int32} {n : Int} (hdg : decode y.2.1 pc = .ok (.iinc 11 n, 3)) (hv : x + Int32.ofInt n = v) (hc : fv_c1 v10 = true) (k : fv_X E y d Φ (pc + 3) (v0 :: v1 :: v2 :: v3 :: v4 :: v5 :: v6 :: v7 :: v8 :: v9 :: v10 :: some (.int v) :: t) (st) M) : fv_X E y d Φ (pc) (v0 :: v1 :: v2 :: v3 :: v4 :: v5 :: v6 :: v7 :: v8 :: v9 :: v10 :: some (.int x) :: t) (st) M := xg_iinc (i := 11) hdg rfl hv (fun o _ h => by cases h; exact hc) k
theorem x_lstore11 {v0 v1 v2 v3 v4 v5 v6 v7 v8 v9 v10 v11 z : Option Value} {t : List (Option Value)} {x : Int64} (hdg : decode y.2.1 pc = .ok (.lstore 11, 2)) (hc : fv_c1 v10 = true) (k : fv_X E y d Φ (pc + 2) (v0 :: v1 :: v2 :: v3 :: v4 :: v5 :: v6 :: v7 :: v8 :: v9 :: v10 :: some (.long x) :: none :: t) (st) M) : fv_X E y d Φ (pc) (v0 :: v1 :: v2 :: v3 :: v4 :: v5 :: v6 :: v7 :: v8 :: v9 :: v10 :: v11 :: z :: t) (.long x :: st) M := xg_lstore (i := 11) hdg (by simp only [List.length_cons]; omega) (fun o _ h => by cases h; exact hc) k
theorem x_istore12 {v0 v1 v2 v3 v4 v5 v6 v7 v8 v9 v10 v11 v12 : Option Value} {t : List (Option Value)} {x : Int32} (hdg : decode y.2.1 pc = .ok (.istore 12, 2)) (hc : fv_c1 v11 = true) (k : fv_X E y d Φ (pc + 2) (v0 :: v1 :: v2 :: v3 :: v4 :: v5 :: v6 :: v7 :: v8 :: v9 :: v10 :: v11 :: some (.int x) :: t) (st) M) : fv_X E y d Φ (pc) (v0 :: v1 :: v2 :: v3 :: v4 :: v5 :: v6 :: v7 :: v8 :: v9 :: v10 :: v11 :: v12 :: t) (.int x :: st) M := xg_istore (i := 12) hdg (by simp only [List.length_cons]; omega) (fun o _ h => by cases h; exact hc) k
theorem x_astore12 {v0 v1 v2 v3 v4 v5 v6 v7 v8 v9 v10 v11 v12 : Option Value} {t : List (Option Value)} {x : Nat} (hdg : decode y.2.1 pc = .ok (.astore 12, 2)) (hc : fv_c1 v11 = true) (k : fv_X E y d Φ (pc + 2) (v0 :: v1 :: v2 :: v3 :: v4 :: v5 :: v6 :: v7 :: v8 :: v9 :: v10 :: v11 :: some (.ref x) :: t) (st) M) : fv_X E y d Φ (pc) (v0 :: v1 :: v2 :: v3 :: v4 :: v5 :: v6 :: v7 :: v8 :: v9 :: v10 :: v11 :: v12 :: t) (.ref x :: st) M := xg_astore (i := 12) hdg (by simp only [List.length_cons]; omega) (fun o _ h => by cases h; exact hc) k
theorem x_iinc12 {v0 v1 v2 v3 v4 v5 v6 v7 v8 v9 v10 v11 : Option Value} {t : List (Option Value)} {x v : Int32} {n : Int} (hdg : decode y.2.1 pc = .ok (.iinc 12 n, 3)) (hv : x + Int32.ofInt n = v) (hc : fv_c1 v11 = true) (k : fv_X E y d Φ (pc + 3) (v0 :: v1 :: v2 :: v3 :: v4 :: v5 :: v6 :: v7 :: v8 :: v9 :: v10 :: v11 :: some (.int v) :: t) (st) M) : fv_X E y d Φ (pc) (v0 :: v1 :: v2 :: v3 :: v4 :: v5 :: v6 :: v7 :: v8 :: v9 :: v10 :: v11 :: some (.int x) :: t) (st) M := xg_iinc (i := 12) hdg rfl hv (fun o _ h => by cases h; exact hc) k
theorem x_lstore12 {v0 v1 v2 v3 v4 v5 v6 v7 v8 v9 v10 v11 v12 z : Option Value} {t : List (Option Value)} {x : Int64} (hdg : decode y.2.1 pc = .ok (.lstore 12, 2)) (hc : fv_c1 v11 = true) (k : fv_X E y d Φ (pc + 2) (v0 :: v1 :: v2 :: v3 :: v4 :: v5 :: v6 :: v7 :: v8 :: v9 :: v10 :: v11 :: some (.long x) :: none :: t) (st) M) : fv_X E y d Φ (pc) (v0 :: v1 :: v2 :: v3 :: v4 :: v5 :: v6 :: v7 :: v8 :: v9 :: v10 :: v11 :: v12 :: z :: t) (.long x :: st) M := xg_lstore (i := 12) hdg (by simp only [List.length_cons]; omega) (fun o _ h => by cases h; exact hc) k
theorem x_iadd {a b : Int32} (hdg : decode y.2.1 pc = .ok (.iadd, 1))  (k : fv_X E y d Φ (pc + 1) (ls) (.int (a + b) :: st) M) : fv_X E y d Φ (pc) (ls) (.int b :: .int a :: st) M := by
  intro p l e s m args below meth c H locs lsA F hP hS hL
  exact lv_iadd F.1 F.2.1 hdg  (k p l e s m args below meth c H locs lsA F hP hS hL)
theorem x_isub {a b : Int32} (hdg : decode y.2.1 pc = .ok (.isub, 1))  (k : fv_X E y d Φ (pc + 1) (ls) (.int (a - b) :: st) M) : fv_X E y d Φ (pc) (ls) (.int b :: .int a :: st) M := by
  intro p l e s m args below meth c H locs lsA F hP hS hL
  exact lv_isub F.1 F.2.1 hdg  (k p l e s m args below meth c H locs lsA F hP hS hL)
theorem x_imul {a b : Int32} (hdg : decode y.2.1 pc = .ok (.imul, 1))  (k : fv_X E y d Φ (pc + 1) (ls) (.int (a * b) :: st) M) : fv_X E y d Φ (pc) (ls) (.int b :: .int a :: st) M := by
  intro p l e s m args below meth c H locs lsA F hP hS hL
  exact lv_imul F.1 F.2.1 hdg  (k p l e s m args below meth c H locs lsA F hP hS hL)
theorem x_iand {a b : Int32} (hdg : decode y.2.1 pc = .ok (.iand, 1))  (k : fv_X E y d Φ (pc + 1) (ls) (.int (a &&& b) :: st) M) : fv_X E y d Φ (pc) (ls) (.int b :: .int a :: st) M := by
  intro p l e s m args below meth c H locs lsA F hP hS hL
  exact lv_iand F.1 F.2.1 hdg  (k p l e s m args below meth c H locs lsA F hP hS hL)
theorem x_ior {a b : Int32} (hdg : decode y.2.1 pc = .ok (.ior, 1))  (k : fv_X E y d Φ (pc + 1) (ls) (.int (a ||| b) :: st) M) : fv_X E y d Φ (pc) (ls) (.int b :: .int a :: st) M := by
  intro p l e s m args below meth c H locs lsA F hP hS hL
  exact lv_ior F.1 F.2.1 hdg  (k p l e s m args below meth c H locs lsA F hP hS hL)
theorem x_ixor {a b : Int32} (hdg : decode y.2.1 pc = .ok (.ixor, 1))  (k : fv_X E y d Φ (pc + 1) (ls) (.int (a ^^^ b) :: st) M) : fv_X E y d Φ (pc) (ls) (.int b :: .int a :: st) M := by
  intro p l e s m args below meth c H locs lsA F hP hS hL
  exact lv_ixor F.1 F.2.1 hdg  (k p l e s m args below meth c H locs lsA F hP hS hL)
theorem x_ishl {a b : Int32} (hdg : decode y.2.1 pc = .ok (.ishl, 1))  (k : fv_X E y d Φ (pc + 1) (ls) (.int (a <<< (b &&& 31)) :: st) M) : fv_X E y d Φ (pc) (ls) (.int b :: .int a :: st) M := by
  intro p l e s m args below meth c H locs lsA F hP hS hL
  exact lv_ishl F.1 F.2.1 hdg  (k p l e s m args below meth c H locs lsA F hP hS hL)
theorem x_ishr {a b : Int32} (hdg : decode y.2.1 pc = .ok (.ishr, 1))  (k : fv_X E y d Φ (pc + 1) (ls) (.int (a >>> (b &&& 31)) :: st) M) : fv_X E y d Φ (pc) (ls) (.int b :: .int a :: st) M := by
  intro p l e s m args below meth c H locs lsA F hP hS hL
  exact lv_ishr F.1 F.2.1 hdg  (k p l e s m args below meth c H locs lsA F hP hS hL)
theorem x_iushr {a b : Int32} (hdg : decode y.2.1 pc = .ok (.iushr, 1))  (k : fv_X E y d Φ (pc + 1) (ls) (.int ((a.toUInt32 >>> (b.toUInt32 &&& Int32.toUInt32 31)).toInt32) :: st) M) : fv_X E y d Φ (pc) (ls) (.int b :: .int a :: st) M := by
  intro p l e s m args below meth c H locs lsA F hP hS hL
  exact lv_iushr F.1 F.2.1 hdg rfl (k p l e s m args below meth c H locs lsA F hP hS hL)
theorem x_idiv {a b : Int32} (hdg : decode y.2.1 pc = .ok (.idiv, 1)) (hne : ¬ b = 0) (k : fv_X E y d Φ (pc + 1) (ls) (.int (a / b) :: st) M) : fv_X E y d Φ (pc) (ls) (.int b :: .int a :: st) M := by
  intro p l e s m args below meth c H locs lsA F hP hS hL
  exact lv_idiv F.1 F.2.1 hdg hne (k p l e s m args below meth c H locs lsA F hP hS hL)
theorem x_irem {a b : Int32} (hdg : decode y.2.1 pc = .ok (.irem, 1)) (hne : ¬ b = 0) (k : fv_X E y d Φ (pc + 1) (ls) (.int (a - a / b * b) :: st) M) : fv_X E y d Φ (pc) (ls) (.int b :: .int a :: st) M := by
  intro p l e s m args below meth c H locs lsA F hP hS hL
  exact lv_irem F.1 F.2.1 hdg hne (k p l e s m args below meth c H locs lsA F hP hS hL)
theorem x_ladd {a b : Int64} (hdg : decode y.2.1 pc = .ok (.ladd, 1))  (k : fv_X E y d Φ (pc + 1) (ls) (.long (a + b) :: st) M) : fv_X E y d Φ (pc) (ls) (.long b :: .long a :: st) M := by
  intro p l e s m args below meth c H locs lsA F hP hS hL
  exact lv_ladd F.1 F.2.1 hdg  (k p l e s m args below meth c H locs lsA F hP hS hL)
theorem x_lsub {a b : Int64} (hdg : decode y.2.1 pc = .ok (.lsub, 1))  (k : fv_X E y d Φ (pc + 1) (ls) (.long (a - b) :: st) M) : fv_X E y d Φ (pc) (ls) (.long b :: .long a :: st) M := by
  intro p l e s m args below meth c H locs lsA F hP hS hL
  exact lv_lsub F.1 F.2.1 hdg  (k p l e s m args below meth c H locs lsA F hP hS hL)
theorem x_lmul {a b : Int64} (hdg : decode y.2.1 pc = .ok (.lmul, 1))  (k : fv_X E y d Φ (pc + 1) (ls) (.long (a * b) :: st) M) : fv_X E y d Φ (pc) (ls) (.long b :: .long a :: st) M := by
  intro p l e s m args below meth c H locs lsA F hP hS hL
  exact lv_lmul F.1 F.2.1 hdg  (k p l e s m args below meth c H locs lsA F hP hS hL)
theorem x_ldiv {a b : Int64} (hdg : decode y.2.1 pc = .ok (.ldiv, 1)) (hne : ¬ b = 0) (k : fv_X E y d Φ (pc + 1) (ls) (.long (a / b) :: st) M) : fv_X E y d Φ (pc) (ls) (.long b :: .long a :: st) M := by
  intro p l e s m args below meth c H locs lsA F hP hS hL
  exact lv_ldiv F.1 F.2.1 hdg hne (k p l e s m args below meth c H locs lsA F hP hS hL)
theorem x_lrem {a b : Int64} (hdg : decode y.2.1 pc = .ok (.lrem, 1)) (hne : ¬ b = 0) (k : fv_X E y d Φ (pc + 1) (ls) (.long (a - a / b * b) :: st) M) : fv_X E y d Φ (pc) (ls) (.long b :: .long a :: st) M := by
  intro p l e s m args below meth c H locs lsA F hP hS hL
  exact lv_lrem F.1 F.2.1 hdg hne (k p l e s m args below meth c H locs lsA F hP hS hL)
theorem x_lcmp {a b : Int64} (hdg : decode y.2.1 pc = .ok (.lcmp, 1))  (k : fv_X E y d Φ (pc + 1) (ls) (.int (lg_cmp a b) :: st) M) : fv_X E y d Φ (pc) (ls) (.long b :: .long a :: st) M := by
  intro p l e s m args below meth c H locs lsA F hP hS hL
  exact W.lcmp F.1 F.2.1 hdg  (k p l e s m args below meth c H locs lsA F hP hS hL)
theorem x_i2l {a : Int32} (hdg : decode y.2.1 pc = .ok (.i2l, 1))  (k : fv_X E y d Φ (pc + 1) (ls) (.long a.toInt64 :: st) M) : fv_X E y d Φ (pc) (ls) (.int a :: st) M := by
  intro p l e s m args below meth c H locs lsA F hP hS hL
  exact lv_i2l F.1 F.2.1 hdg rfl (k p l e s m args below meth c H locs lsA F hP hS hL)
theorem x_l2i {a : Int64} (hdg : decode y.2.1 pc = .ok (.l2i, 1))  (k : fv_X E y d Φ (pc + 1) (ls) (.int a.toInt32 :: st) M) : fv_X E y d Φ (pc) (ls) (.long a :: st) M := by
  intro p l e s m args below meth c H locs lsA F hP hS hL
  exact lv_l2i F.1 F.2.1 hdg rfl (k p l e s m args below meth c H locs lsA F hP hS hL)
theorem x_i2b {a : Int32} (hdg : decode y.2.1 pc = .ok (.i2b, 1))  (k : fv_X E y d Φ (pc + 1) (ls) (.int a.toInt8.toInt32 :: st) M) : fv_X E y d Φ (pc) (ls) (.int a :: st) M := by
  intro p l e s m args below meth c H locs lsA F hP hS hL
  exact lv_i2b F.1 F.2.1 hdg rfl (k p l e s m args below meth c H locs lsA F hP hS hL)
theorem x_i2s {a : Int32} (hdg : decode y.2.1 pc = .ok (.i2s, 1))  (k : fv_X E y d Φ (pc + 1) (ls) (.int a.toInt16.toInt32 :: st) M) : fv_X E y d Φ (pc) (ls) (.int a :: st) M := by
  intro p l e s m args below meth c H locs lsA F hP hS hL
  exact lv_i2s F.1 F.2.1 hdg rfl (k p l e s m args below meth c H locs lsA F hP hS hL)
theorem x_i2c {a : Int32} (hdg : decode y.2.1 pc = .ok (.i2c, 1))  (k : fv_X E y d Φ (pc + 1) (ls) (.int (a.toUInt32 % 65536).toInt32 :: st) M) : fv_X E y d Φ (pc) (ls) (.int a :: st) M := by
  intro p l e s m args below meth c H locs lsA F hP hS hL
  exact lv_i2c F.1 F.2.1 hdg rfl (k p l e s m args below meth c H locs lsA F hP hS hL)
theorem x_dupi {a : Int32} (hdg : decode y.2.1 pc = .ok (.dup, 1))  (k : fv_X E y d Φ (pc + 1) (ls) (.int a :: .int a :: st) M) : fv_X E y d Φ (pc) (ls) (.int a :: st) M := by
  intro p l e s m args below meth c H locs lsA F hP hS hL
  exact lv_dup F.1 F.2.1 hdg rfl (k p l e s m args below meth c H locs lsA F hP hS hL)
theorem x_dupa {a : Nat} (hdg : decode y.2.1 pc = .ok (.dup, 1))  (k : fv_X E y d Φ (pc + 1) (ls) (.ref a :: .ref a :: st) M) : fv_X E y d Φ (pc) (ls) (.ref a :: st) M := by
  intro p l e s m args below meth c H locs lsA F hP hS hL
  exact lv_dup F.1 F.2.1 hdg rfl (k p l e s m args below meth c H locs lsA F hP hS hL)
theorem x_popi {a : Int32} (hdg : decode y.2.1 pc = .ok (.pop, 1))  (k : fv_X E y d Φ (pc + 1) (ls) (st) M) : fv_X E y d Φ (pc) (ls) (.int a :: st) M := by
  intro p l e s m args below meth c H locs lsA F hP hS hL
  exact lv_pop F.1 F.2.1 hdg rfl (k p l e s m args below meth c H locs lsA F hP hS hL)
theorem x_dup2 {a : Int32} {b : Nat} (hdg : decode y.2.1 pc = .ok (.dup2, 1))  (k : fv_X E y d Φ (pc + 1) (ls) (.int a :: .ref b :: .int a :: .ref b :: st) M) : fv_X E y d Φ (pc) (ls) (.int a :: .ref b :: st) M := by
  intro p l e s m args below meth c H locs lsA F hP hS hL
  exact lv_dup2_11 F.1 F.2.1 hdg rfl rfl (k p l e s m args below meth c H locs lsA F hP hS hL)
theorem x_icmp_eq {a b : Int32} {off : Int} {tgt : Nat} (hdg : decode y.2.1 pc = .ok (.if_icmp .eq off, 3)) (ht : (pc : Int) + off = (tgt : Int)) (kt : a = b → fv_X E y d Φ (tgt) (ls) (st) M) (kf : ¬ (a = b) → fv_X E y d Φ (pc + 3) (ls) (st) M) : fv_X E y d Φ (pc) (ls) (.int b :: .int a :: st) M := by
  intro p l e s m args below meth c H locs lsA F hP hS hL
  exact lv_icmp_eq F.1 F.2.1 hdg ht (fun h => kt h p l e s m args below meth c H locs lsA F hP hS hL) (fun h => kf h p l e s m args below meth c H locs lsA F hP hS hL)
theorem x_if_eq {a : Int32} {off : Int} {tgt : Nat} (hdg : decode y.2.1 pc = .ok (.ifCond .eq off, 3)) (ht : (pc : Int) + off = (tgt : Int)) (kt : a = 0 → fv_X E y d Φ (tgt) (ls) (st) M) (kf : ¬ (a = 0) → fv_X E y d Φ (pc + 3) (ls) (st) M) : fv_X E y d Φ (pc) (ls) (.int a :: st) M := by
  intro p l e s m args below meth c H locs lsA F hP hS hL
  exact lv_if_eq F.1 F.2.1 hdg ht (fun h => kt h p l e s m args below meth c H locs lsA F hP hS hL) (fun h => kf h p l e s m args below meth c H locs lsA F hP hS hL)
theorem x_icmp_ne {a b : Int32} {off : Int} {tgt : Nat} (hdg : decode y.2.1 pc = .ok (.if_icmp .ne off, 3)) (ht : (pc : Int) + off = (tgt : Int)) (kt : a ≠ b → fv_X E y d Φ (tgt) (ls) (st) M) (kf : a = b → fv_X E y d Φ (pc + 3) (ls) (st) M) : fv_X E y d Φ (pc) (ls) (.int b :: .int a :: st) M := by
  intro p l e s m args below meth c H locs lsA F hP hS hL
  exact lv_icmp_ne F.1 F.2.1 hdg ht (fun h => kt h p l e s m args below meth c H locs lsA F hP hS hL) (fun h => kf h p l e s m args below meth c H locs lsA F hP hS hL)
theorem x_if_ne {a : Int32} {off : Int} {tgt : Nat} (hdg : decode y.2.1 pc = .ok (.ifCond .ne off, 3)) (ht : (pc : Int) + off = (tgt : Int)) (kt : a ≠ 0 → fv_X E y d Φ (tgt) (ls) (st) M) (kf : a = 0 → fv_X E y d Φ (pc + 3) (ls) (st) M) : fv_X E y d Φ (pc) (ls) (.int a :: st) M := by
  intro p l e s m args below meth c H locs lsA F hP hS hL
  exact lv_if_ne F.1 F.2.1 hdg ht (fun h => kt h p l e s m args below meth c H locs lsA F hP hS hL) (fun h => kf h p l e s m args below meth c H locs lsA F hP hS hL)
theorem x_icmp_lt {a b : Int32} {off : Int} {tgt : Nat} (hdg : decode y.2.1 pc = .ok (.if_icmp .lt off, 3)) (ht : (pc : Int) + off = (tgt : Int)) (kt : a < b → fv_X E y d Φ (tgt) (ls) (st) M) (kf : ¬ (a < b) → fv_X E y d Φ (pc + 3) (ls) (st) M) : fv_X E y d Φ (pc) (ls) (.int b :: .int a :: st) M := by
  intro p l e s m args below meth c H locs lsA F hP hS hL
  exact lv_icmp_lt F.1 F.2.1 hdg ht (fun h => kt h p l e s m args below meth c H locs lsA F hP hS hL) (fun h => kf h p l e s m args below meth c H locs lsA F hP hS hL)
theorem x_if_lt {a : Int32} {off : Int} {tgt : Nat} (hdg : decode y.2.1 pc = .ok (.ifCond .lt off, 3)) (ht : (pc : Int) + off = (tgt : Int)) (kt : a < 0 → fv_X E y d Φ (tgt) (ls) (st) M) (kf : ¬ (a < 0) → fv_X E y d Φ (pc + 3) (ls) (st) M) : fv_X E y d Φ (pc) (ls) (.int a :: st) M := by
  intro p l e s m args below meth c H locs lsA F hP hS hL
  exact lv_if_lt F.1 F.2.1 hdg ht (fun h => kt h p l e s m args below meth c H locs lsA F hP hS hL) (fun h => kf h p l e s m args below meth c H locs lsA F hP hS hL)
theorem x_icmp_ge {a b : Int32} {off : Int} {tgt : Nat} (hdg : decode y.2.1 pc = .ok (.if_icmp .ge off, 3)) (ht : (pc : Int) + off = (tgt : Int)) (kt : b ≤ a → fv_X E y d Φ (tgt) (ls) (st) M) (kf : ¬ (b ≤ a) → fv_X E y d Φ (pc + 3) (ls) (st) M) : fv_X E y d Φ (pc) (ls) (.int b :: .int a :: st) M := by
  intro p l e s m args below meth c H locs lsA F hP hS hL
  exact lv_icmp_ge F.1 F.2.1 hdg ht (fun h => kt h p l e s m args below meth c H locs lsA F hP hS hL) (fun h => kf h p l e s m args below meth c H locs lsA F hP hS hL)
theorem x_if_ge {a : Int32} {off : Int} {tgt : Nat} (hdg : decode y.2.1 pc = .ok (.ifCond .ge off, 3)) (ht : (pc : Int) + off = (tgt : Int)) (kt : 0 ≤ a → fv_X E y d Φ (tgt) (ls) (st) M) (kf : ¬ (0 ≤ a) → fv_X E y d Φ (pc + 3) (ls) (st) M) : fv_X E y d Φ (pc) (ls) (.int a :: st) M := by
  intro p l e s m args below meth c H locs lsA F hP hS hL
  exact lv_if_ge F.1 F.2.1 hdg ht (fun h => kt h p l e s m args below meth c H locs lsA F hP hS hL) (fun h => kf h p l e s m args below meth c H locs lsA F hP hS hL)
theorem x_icmp_gt {a b : Int32} {off : Int} {tgt : Nat} (hdg : decode y.2.1 pc = .ok (.if_icmp .gt off, 3)) (ht : (pc : Int) + off = (tgt : Int)) (kt : b < a → fv_X E y d Φ (tgt) (ls) (st) M) (kf : ¬ (b < a) → fv_X E y d Φ (pc + 3) (ls) (st) M) : fv_X E y d Φ (pc) (ls) (.int b :: .int a :: st) M := by
  intro p l e s m args below meth c H locs lsA F hP hS hL
  exact lv_icmp_gt F.1 F.2.1 hdg ht (fun h => kt h p l e s m args below meth c H locs lsA F hP hS hL) (fun h => kf h p l e s m args below meth c H locs lsA F hP hS hL)
theorem x_if_gt {a : Int32} {off : Int} {tgt : Nat} (hdg : decode y.2.1 pc = .ok (.ifCond .gt off, 3)) (ht : (pc : Int) + off = (tgt : Int)) (kt : 0 < a → fv_X E y d Φ (tgt) (ls) (st) M) (kf : ¬ (0 < a) → fv_X E y d Φ (pc + 3) (ls) (st) M) : fv_X E y d Φ (pc) (ls) (.int a :: st) M := by
  intro p l e s m args below meth c H locs lsA F hP hS hL
  exact lv_if_gt F.1 F.2.1 hdg ht (fun h => kt h p l e s m args below meth c H locs lsA F hP hS hL) (fun h => kf h p l e s m args below meth c H locs lsA F hP hS hL)
theorem x_icmp_le {a b : Int32} {off : Int} {tgt : Nat} (hdg : decode y.2.1 pc = .ok (.if_icmp .le off, 3)) (ht : (pc : Int) + off = (tgt : Int)) (kt : a ≤ b → fv_X E y d Φ (tgt) (ls) (st) M) (kf : ¬ (a ≤ b) → fv_X E y d Φ (pc + 3) (ls) (st) M) : fv_X E y d Φ (pc) (ls) (.int b :: .int a :: st) M := by
  intro p l e s m args below meth c H locs lsA F hP hS hL
  exact lv_icmp_le F.1 F.2.1 hdg ht (fun h => kt h p l e s m args below meth c H locs lsA F hP hS hL) (fun h => kf h p l e s m args below meth c H locs lsA F hP hS hL)
theorem x_if_le {a : Int32} {off : Int} {tgt : Nat} (hdg : decode y.2.1 pc = .ok (.ifCond .le off, 3)) (ht : (pc : Int) + off = (tgt : Int)) (kt : a ≤ 0 → fv_X E y d Φ (tgt) (ls) (st) M) (kf : ¬ (a ≤ 0) → fv_X E y d Φ (pc + 3) (ls) (st) M) : fv_X E y d Φ (pc) (ls) (.int a :: st) M := by
  intro p l e s m args below meth c H locs lsA F hP hS hL
  exact lv_if_le F.1 F.2.1 hdg ht (fun h => kt h p l e s m args below meth c H locs lsA F hP hS hL) (fun h => kf h p l e s m args below meth c H locs lsA F hP hS hL)
theorem x_goto {off : Int} {tgt : Nat} (hdg : decode y.2.1 pc = .ok (.goto off, 3)) (ht : (pc : Int) + off = (tgt : Int)) (k : fv_X E y d Φ (tgt) (ls) (st) M) : fv_X E y d Φ (pc) (ls) (st) M := by
  intro p l e s m args below meth c H locs lsA F hP hS hL
  exact lv_goto F.1 F.2.1 hdg ht (k p l e s m args below meth c H locs lsA F hP hS hL)
theorem x_tableIn {dflt lo hi : Int} {offs : Array Int} {len : Nat} {x : Int32} {off : Int} {tgt : Nat} (hdg : decode y.2.1 pc = .ok (.tableswitch dflt lo hi offs, len)) (h1 : ¬ x.toInt < lo) (h2 : ¬ hi < x.toInt) (ho : offs[(x.toInt - lo).toNat]? = some off) (ht : (pc : Int) + off = (tgt : Int)) (k : fv_X E y d Φ (tgt) (ls) (st) M) : fv_X E y d Φ (pc) (ls) (.int x :: st) M := by
  intro p l e s m args below meth c H locs lsA F hP hS hL
  exact lv_tableIn F.1 F.2.1 hdg h1 h2 ho ht (k p l e s m args below meth c H locs lsA F hP hS hL)
theorem x_tableOut {dflt lo hi : Int} {offs : Array Int} {len : Nat} {x : Int32} {tgt : Nat} (hdg : decode y.2.1 pc = .ok (.tableswitch dflt lo hi offs, len)) (h : x.toInt < lo ∨ hi < x.toInt) (ht : (pc : Int) + dflt = (tgt : Int)) (k : fv_X E y d Φ (tgt) (ls) (st) M) : fv_X E y d Φ (pc) (ls) (.int x :: st) M := by
  intro p l e s m args below meth c H locs lsA F hP hS hL
  exact lv_tableOut F.1 F.2.1 hdg h ht (k p l e s m args below meth c H locs lsA F hP hS hL)
theorem x_iret {v : Int32} {ty : FieldType} (hdg : decode y.2.1 pc = .ok (.ireturn, 1)) (hr : y.2.2.2 = some ty) (hn : narrow ty (.int v) = .int v) (h : Φ (some (.int v)) M) : fv_X E y d Φ pc ls [.int v] M := by
  intro p l e s m args below meth c H locs lsA F hP hS hL
  exact W.zret F.1 F.2.1 (F.2.2.2.2.2.2.1.trans hr) hn (fun t ht hW => ⟨⟨some (.int v), M, rfl, h, by rw [ht]; exact hP⟩, hS.F ht⟩) hS.2.2 hdg F.2.2.2.2.2.1
theorem x_lret {v : Int64} (hdg : decode y.2.1 pc = .ok (.lreturn, 1)) (hr : y.2.2.2 = some .long) (h : Φ (some (.long v)) M) : fv_X E y d Φ pc ls [.long v] M := by
  intro p l e s m args below meth c H locs lsA F hP hS hL
  exact W.lret F.1 F.2.1 (F.2.2.2.2.2.2.1.trans hr) (fun t ht hW => ⟨⟨some (.long v), M, rfl, h, by rw [ht]; exact hP⟩, hS.F ht⟩) hS.2.2 hdg F.2.2.2.2.2.1
theorem x_ret (hdg : decode y.2.1 pc = .ok (.return_, 1)) (hr : y.2.2.2 = none) (h : Φ none M) : fv_X E y d Φ pc ls [] M := by
  intro p l e s m args below meth c H locs lsA F hP hS hL
  exact W.vret F.1 F.2.1 (F.2.2.2.2.2.2.1.trans hr) (fun t ht hW => ⟨⟨none, M, rfl, h, by rw [ht]; exact hP⟩, hS.F ht⟩) hS.2.2 hdg F.2.2.2.2.2.1
/-- a class of the world: its words are of the tables, its fields -/
theorem fv_uw {ci : Nat} {q : vw_C} (h : vwCl[ci]? = some q) : ∀ w ∈ u_ws q.1 q.2.1 q.2.2, w ∈ fv_g := by
  have key : vwCl.all (fun q => (u_ws q.1 q.2.1 q.2.2).all (fun w => decide (w ∈ lw_tbl) && goodWord w)) = true := by decide +kernel
  intro w hw
  have h1 := List.all_eq_true.mp (List.all_eq_true.mp key q (List.mem_of_getElem? h)) w hw
  rw [Bool.and_eq_true] at h1
  exact List.mem_filter.mpr ⟨of_decide_eq_true h1.1, h1.2⟩
def fv_fl (own : String) (idx ci k : Nat) (ty : FieldType) (fin : Bool) : Prop := ∃ q : vw_C, vwCl[ci]? = some q ∧ k < q.2.2 ∧ Cond.fieldLink own idx (q.2.1 k).1 (q.2.1 k).2.1 (q.2.1 k).2.2.1 ∈ fv_g ∧ parseFieldDescriptor (q.2.1 k).2.2.1 = some ty ∧ (q.2.1 k).2.2.2 = fin
theorem x_get {ty : FieldType} {fin : Bool} {idx ci k a : Nat} {ss : List fv_Sp} {sp : fv_Sp} (hf : fv_fl y.1.cls idx ci k ty fin) (hdg : decode y.2.1 pc = .ok (.getfield idx, 3)) (htb : fv_tab[a]? = some (.inl (ci, ss))) (hk : ss[k]? = some sp) {v : Value} (hv : fv_val M sp = v)
    (kk : fv_X E y d Φ (pc + 3) ls (v :: st) M) : fv_X E y d Φ pc ls (.ref a :: st) M := by
  intro p l e s m args below meth c H locs lsA F hP hS hL
  obtain ⟨q, h1, h2, h3, -, -⟩ := hf
  obtain ⟨C, T, N⟩ := q
  subst hv
  exact va_get F.1 F.2.1 F.2.2.2.2.1 (fv_uw h1) F.2.2.2.1 F.2.2.2.2.2.2.2.1 hP a (fv_W_at htb) h1 k h2 (F.2.2.2.2.1 _ h3) (fun _ h => h) (v := fv_cv E (fv_val M sp)) (by rw [List.getElem?_map, hk]; rfl) hdg (kk p l e s m args below meth c H locs lsA F hP hS hL)
/-- the fields of a class have names apart and types -/
theorem fv_ft {ci : Nat} {q : vw_C} (h : vwCl[ci]? = some q) : ∃ ty0 : Nat → FieldType, (∀ k, k < q.2.2 → parseFieldDescriptor (q.2.1 k).2.2.1 = some (ty0 k)) ∧ (∀ a, a < q.2.2 → ∀ b, b < q.2.2 → a ≠ b → (q.2.1 a).2.1 ≠ (q.2.1 b).2.1) := by
  match ci, h with
  | 0, h => cases h; exact ⟨tyX0, tyX0_ok, nmX0⟩
  | 1, h => cases h; exact ⟨tyX1, tyX1_ok, nmX1⟩
  | 2, h => cases h; exact ⟨tyX2, tyX2_ok, nmX2⟩
  | 3, h => cases h; exact ⟨tyX3, tyX3_ok, nmX3⟩
  | 4, h => cases h; exact ⟨tyX4, tyX4_ok, nmX4⟩
  | 5, h => cases h; exact ⟨tyX5, tyX5_ok, nmX5⟩
  | 6, h => cases h; exact ⟨tyX6, tyX6_ok, nmX6⟩
  | 7, h => cases h; exact ⟨tyX7, tyX7_ok, nmX7⟩
  | n + 8, h => cases h
theorem x_put {ty : FieldType} {idx ci k a r i : Nat} {ss : List fv_Sp} {v : Int32} (hf : fv_fl y.1.cls idx ci k ty false) (hdg : decode y.2.1 pc = .ok (.putfield idx, 3)) (htb : fv_tab[a]? = some (.inl (ci, ss))) (hk : ss[k]? = some (0, r, i)) (hnar : narrow ty (.int v) = .int v) (hfit : fits ty (.int v) = true)
    (kk : fv_X E y d Φ (pc + 3) ls st (fv_s M r (fv_u (M r) i v))) : fv_X E y d Φ pc ls (.int v :: .ref a :: st) M := by
  intro p l e s m args below meth c H locs lsA F hP hS hL
  obtain ⟨q, h1, h2, h3, h4, h5⟩ := hf
  obtain ⟨ty0, t1, t2⟩ := fv_ft h1
  obtain ⟨C, T, N⟩ := q
  refine va_put F.1 F.2.1 F.2.2.2.2.1 (fv_uw h1) ty0 t1 t2 F.2.2.2.1 F.2.2.2.2.2.2.2.1 hP (fv_D_any F.2.2.2.2.2.2.2.2.1) hS a (fv_W_at htb) h1 k h2 (F.2.2.2.2.1 _ h3) (fun _ h => h) h5 h4 hnar hfit (by rw [List.length_map]; exact (List.getElem?_eq_some_iff.mp hk).1) hdg (fun H1 locs1 hP1 hD1 hS1 => ?_)
  exact kk p l e s m args below meth c H1 locs1 lsA F (by rw [← fv_W_put htb hk]; exact hP1) hS1 hL
theorem x_putl {idx ci k a r i : Nat} {ss : List fv_Sp} {v : Int64} (hf : fv_fl y.1.cls idx ci k .long false) (hdg : decode y.2.1 pc = .ok (.putfield idx, 3)) (htb : fv_tab[a]? = some (.inl (ci, ss))) (hk : ss[k]? = some (2, r, i))
    (kk : fv_X E y d Φ (pc + 3) ls st (fv_s M r (fv_u (fv_u (M r) i (fv_hi v)) (i + 1) (fv_lo v)))) : fv_X E y d Φ pc ls (.long v :: .ref a :: st) M := by
  intro p l e s m args below meth c H locs lsA F hP hS hL
  obtain ⟨q, h1, h2, h3, h4, h5⟩ := hf
  obtain ⟨ty0, t1, t2⟩ := fv_ft h1
  obtain ⟨C, T, N⟩ := q
  refine va_put F.1 F.2.1 F.2.2.2.2.1 (fv_uw h1) ty0 t1 t2 F.2.2.2.1 F.2.2.2.2.2.2.2.1 hP (fv_D_any F.2.2.2.2.2.2.2.2.1) hS a (fv_W_at htb) h1 k h2 (F.2.2.2.2.1 _ h3) (fun _ h => h) h5 h4 rfl rfl (by rw [List.length_map]; exact (List.getElem?_eq_some_iff.mp hk).1) hdg (fun H1 locs1 hP1 hD1 hS1 => ?_)
  exact kk p l e s m args below meth c H1 locs1 lsA F (by rw [← fv_W_putl htb hk]; exact hP1) hS1 hL
theorem fv_cell_i {E : fv_E} {M : fv_M} {ty n r i0 : Nat} (h : ty < 2) : fv_cell E M (.inr (ty, n, r, i0)) = .inl (E.2.2.2 ty, n, .inl (fv_arr M n r i0)) := if_pos h
theorem fv_cell_r {E : fv_E} {M : fv_M} {ty n r i0 : Nat} (h : ¬ ty < 2) : fv_cell E M (.inr (ty, n, r, i0)) = .inl (E.2.2.2 ty, n, .inr (.inr (.inr (.inr (fun k => some (E.2.1 (r + i0 * k))))))) := if_neg h
theorem fv_nIc {c n : Nat} (h : c < n) (hn : n ≤ 1000) : (nI c).toNatClampNeg = c := nI_clamp (by omega)
theorem x_iald {a n r i0 c : Nat} {i : Int32} (hdg : decode y.2.1 pc = .ok (.iaload, 1)) (htb : fv_tab[a]? = some (.inr (0, n, r, i0))) (hi : i = nI c) (hc : c < n) (hn : n ≤ 1000)
    (kk : fv_X E y d Φ (pc + 1) ls (.int (M r (i0 + c)) :: st) M) : fv_X E y d Φ pc ls (.int i :: .ref a :: st) M := by
  intro p l e s m args below meth c' H locs lsA F hP hS hL
  subst hi
  have h := fv_W_at (E := E) (M := M) htb
  rw [fv_cell_i (by decide)] at h
  refine va_iald F.1 F.2.1 F.2.2.2.2.2.2.2.1 hP a 0 h rfl (nI_in hc (by omega)) hdg ?_
  rw [fv_nIc hc hn, show fv_arr M n r i0 c = M r (i0 + c) from if_pos hc]
  exact kk p l e s m args below meth c' H locs lsA F hP hS hL
theorem x_cald {a n r i0 c : Nat} {i : Int32} (hdg : decode y.2.1 pc = .ok (.caload, 1)) (htb : fv_tab[a]? = some (.inr (1, n, r, i0))) (hi : i = nI c) (hc : c < n) (hn : n ≤ 1000)
    (kk : fv_X E y d Φ (pc + 1) ls (.int (M r (i0 + c)) :: st) M) : fv_X E y d Φ pc ls (.int i :: .ref a :: st) M := by
  intro p l e s m args below meth c' H locs lsA F hP hS hL
  subst hi
  have h := fv_W_at (E := E) (M := M) htb
  rw [fv_cell_i (by decide)] at h
  refine va_cald F.1 F.2.1 F.2.2.2.2.2.2.2.1 hP a 1 h rfl (nI_in hc (by omega)) hdg ?_
  rw [fv_nIc hc hn, show fv_arr M n r i0 c = M r (i0 + c) from if_pos hc]
  exact kk p l e s m args below meth c' H locs lsA F hP hS hL
theorem x_iast {a n r i0 c : Nat} {i v : Int32} (hdg : decode y.2.1 pc = .ok (.iastore, 1)) (htb : fv_tab[a]? = some (.inr (0, n, r, i0))) (hi : i = nI c) (hc : c < n) (hn : n ≤ 1000)
    (kk : fv_X E y d Φ (pc + 1) ls st (fv_s M r (fv_u (M r) (i0 + c) v))) : fv_X E y d Φ pc ls (.int v :: .int i :: .ref a :: st) M := by
  intro p l e s m args below meth c' H locs lsA F hP hS hL
  subst hi
  have h := fv_W_at (E := E) (M := M) htb
  rw [fv_cell_i (by decide)] at h
  refine va_iast F.1 F.2.1 F.2.2.2.2.2.2.2.1 hP (fv_D_any F.2.2.2.2.2.2.2.2.1) hS a 0 h rfl (nI_in hc (by omega)) hdg (fun H1 locs1 hP1 hD1 hS1 => ?_)
  rw [fv_nIc hc hn, fv_W_ast htb (by decide) hc] at hP1
  exact kk p l e s m args below meth c' H1 locs1 lsA F hP1 hS1 hL
theorem x_aald {ty a n r i0 c : Nat} {C : String} {i : Int32} (hdg : decode y.2.1 pc = .ok (.aaload, 1)) (htb : fv_tab[a]? = some (.inr (ty, n, r, i0))) (hty : ¬ ty < 2) (ht : (fv_tys E)[ty]? = some (E.2.2.2 ty, .object C)) (hi : i = nI c) (hc : c < n) (hn : n ≤ 1000)
    (kk : fv_X E y d Φ (pc + 1) ls (.ref (r + i0 * c) :: st) M) : fv_X E y d Φ pc ls (.int i :: .ref a :: st) M := by
  intro p l e s m args below meth c' H locs lsA F hP hS hL
  subst hi
  have h := fv_W_at (E := E) (M := M) htb
  rw [fv_cell_r hty] at h
  refine va_aldq F.1 F.2.1 F.2.2.2.2.2.2.2.1 hP a ty h ht (nI_in hc (by omega)) hdg ?_
  rw [fv_nIc hc hn]
  exact kk p l e s m args below meth c' H locs lsA F hP hS hL
theorem x_alen {ty a n r i0 : Nat} {T : FieldType} (hdg : decode y.2.1 pc = .ok (.arraylength, 1)) (htb : fv_tab[a]? = some (.inr (ty, n, r, i0))) (hty : ty < 2) (ht : (fv_tys E)[ty]? = some (E.2.2.2 ty, T))
    (kk : fv_X E y d Φ (pc + 1) ls (.int (nI n) :: st) M) : fv_X E y d Φ pc ls (.ref a :: st) M := by
  intro p l e s m args below meth c' H locs lsA F hP hS hL
  have h := fv_W_at (E := E) (M := M) htb
  rw [fv_cell_i hty] at h
  exact va_alen F.1 F.2.1 F.2.2.2.2.2.2.2.1 hP a ty h ht rfl hdg (kk p l e s m args below meth c' H locs lsA F hP hS hL)
end FVR
end
