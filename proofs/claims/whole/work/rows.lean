section
-- ===== PART A: goes FIRST, ahead of the names: the tables' words, and 'selects' of the private methods out of them =====
/-- a private method of a class that the tables say can be made, by its rows of tables_1 -/
def lw_okq (q : MethodName × Nat) : Prop := (q.1.cls ≠ "java/lang/invoke/MethodHandle" ∧ q.1.cls ≠ "java/lang/invoke/VarHandle") ∧ Cond.instantiable q.1.cls q.2 ∈ tables_1 ∧ Cond.privateMethod q.1 ∈ tables_1 ∧ Cond.instanceMethod q.1 ∈ tables_1
theorem lw_p0 : lw_okq (⟨"FeatherVotes", "finding", "(I)I"⟩, 8) := ⟨⟨by decide +kernel, by decide +kernel⟩, List.mem_of_getElem? (i := 18) (by decide +kernel), List.mem_of_getElem? (i := 241) (by decide +kernel), List.mem_of_getElem? (i := 242) (by decide +kernel)⟩
theorem lw_p1 : lw_okq (⟨"FeatherVotes$State", "againstIt", "(LFeatherVotes$Motion;)I"⟩, 8) := ⟨⟨by decide +kernel, by decide +kernel⟩, List.mem_of_getElem? (i := 26) (by decide +kernel), List.mem_of_getElem? (i := 338) (by decide +kernel), List.mem_of_getElem? (i := 339) (by decide +kernel)⟩
theorem lw_p2 : lw_okq (⟨"FeatherVotes$State", "crowsAmong", "(I)I"⟩, 8) := ⟨⟨by decide +kernel, by decide +kernel⟩, List.mem_of_getElem? (i := 26) (by decide +kernel), List.mem_of_getElem? (i := 343) (by decide +kernel), List.mem_of_getElem? (i := 344) (by decide +kernel)⟩
theorem lw_p3 : lw_okq (⟨"FeatherVotes$State", "droppedBy", "(LFeatherVotes$Motion;I)I"⟩, 8) := ⟨⟨by decide +kernel, by decide +kernel⟩, List.mem_of_getElem? (i := 26) (by decide +kernel), List.mem_of_getElem? (i := 368) (by decide +kernel), List.mem_of_getElem? (i := 369) (by decide +kernel)⟩
theorem lw_p4 : lw_okq (⟨"FeatherVotes$State", "letFall", "(LFeatherVotes$Motion;I)I"⟩, 8) := ⟨⟨by decide +kernel, by decide +kernel⟩, List.mem_of_getElem? (i := 26) (by decide +kernel), List.mem_of_getElem? (i := 398) (by decide +kernel), List.mem_of_getElem? (i := 399) (by decide +kernel)⟩
theorem lw_p5 : lw_okq (⟨"FeatherVotes$State", "enact", "(I)V"⟩, 8) := ⟨⟨by decide +kernel, by decide +kernel⟩, List.mem_of_getElem? (i := 26) (by decide +kernel), List.mem_of_getElem? (i := 403) (by decide +kernel), List.mem_of_getElem? (i := 404) (by decide +kernel)⟩
theorem lw_p6 : lw_okq (⟨"FeatherVotes", "tryWants", "(II)Z"⟩, 8) := ⟨⟨by decide +kernel, by decide +kernel⟩, List.mem_of_getElem? (i := 18) (by decide +kernel), List.mem_of_getElem? (i := 480) (by decide +kernel), List.mem_of_getElem? (i := 481) (by decide +kernel)⟩
theorem lw_p7 : lw_okq (⟨"FeatherVotes", "isAgenda", "(I)Z"⟩, 8) := ⟨⟨by decide +kernel, by decide +kernel⟩, List.mem_of_getElem? (i := 18) (by decide +kernel), List.mem_of_getElem? (i := 528) (by decide +kernel), List.mem_of_getElem? (i := 529) (by decide +kernel)⟩
theorem lw_p8 : lw_okq (⟨"FeatherVotes$Orders", "listMembers", "(I)V"⟩, 6) := ⟨⟨by decide +kernel, by decide +kernel⟩, List.mem_of_getElem? (i := 161) (by decide +kernel), List.mem_of_getElem? (i := 540) (by decide +kernel), List.mem_of_getElem? (i := 541) (by decide +kernel)⟩
theorem lw_p9 : lw_okq (⟨"FeatherVotes$Orders", "weigh", "(ILFeatherVotes$State;)V"⟩, 6) := ⟨⟨by decide +kernel, by decide +kernel⟩, List.mem_of_getElem? (i := 161) (by decide +kernel), List.mem_of_getElem? (i := 551) (by decide +kernel), List.mem_of_getElem? (i := 552) (by decide +kernel)⟩
theorem lw_p10 : lw_okq (⟨"FeatherVotes$Orders", "stepOrder", "()Z"⟩, 6) := ⟨⟨by decide +kernel, by decide +kernel⟩, List.mem_of_getElem? (i := 161) (by decide +kernel), List.mem_of_getElem? (i := 557) (by decide +kernel), List.mem_of_getElem? (i := 558) (by decide +kernel)⟩
theorem lw_p11 : lw_okq (⟨"FeatherVotes$Orders", "swap", "(II)V"⟩, 6) := ⟨⟨by decide +kernel, by decide +kernel⟩, List.mem_of_getElem? (i := 161) (by decide +kernel), List.mem_of_getElem? (i := 561) (by decide +kernel), List.mem_of_getElem? (i := 562) (by decide +kernel)⟩
theorem lw_p12 : lw_okq (⟨"FeatherVotes$Tape", "split", "()V"⟩, 7) := ⟨⟨by decide +kernel, by decide +kernel⟩, List.mem_of_getElem? (i := 130) (by decide +kernel), List.mem_of_getElem? (i := 643) (by decide +kernel), List.mem_of_getElem? (i := 644) (by decide +kernel)⟩
theorem lw_p13 : lw_okq (⟨"FeatherVotes$Tape", "sortAt", "(I)I"⟩, 7) := ⟨⟨by decide +kernel, by decide +kernel⟩, List.mem_of_getElem? (i := 130) (by decide +kernel), List.mem_of_getElem? (i := 647) (by decide +kernel), List.mem_of_getElem? (i := 648) (by decide +kernel)⟩
theorem lw_p14 : lw_okq (⟨"FeatherVotes$Tape", "addToken", "(III)V"⟩, 7) := ⟨⟨by decide +kernel, by decide +kernel⟩, List.mem_of_getElem? (i := 130) (by decide +kernel), List.mem_of_getElem? (i := 654) (by decide +kernel), List.mem_of_getElem? (i := 655) (by decide +kernel)⟩
theorem lw_p15 : lw_okq (⟨"FeatherVotes$Tape", "readItem", "(LFeatherVotes$State;)Z"⟩, 7) := ⟨⟨by decide +kernel, by decide +kernel⟩, List.mem_of_getElem? (i := 130) (by decide +kernel), List.mem_of_getElem? (i := 658) (by decide +kernel), List.mem_of_getElem? (i := 659) (by decide +kernel)⟩
def lw_privs_1 : List (MethodName × Nat) := [(⟨"FeatherVotes", "finding", "(I)I"⟩, 8), (⟨"FeatherVotes$State", "againstIt", "(LFeatherVotes$Motion;)I"⟩, 8), (⟨"FeatherVotes$State", "crowsAmong", "(I)I"⟩, 8), (⟨"FeatherVotes$State", "droppedBy", "(LFeatherVotes$Motion;I)I"⟩, 8), (⟨"FeatherVotes$State", "letFall", "(LFeatherVotes$Motion;I)I"⟩, 8), (⟨"FeatherVotes$State", "enact", "(I)V"⟩, 8), (⟨"FeatherVotes", "tryWants", "(II)Z"⟩, 8), (⟨"FeatherVotes", "isAgenda", "(I)Z"⟩, 8), (⟨"FeatherVotes$Orders", "listMembers", "(I)V"⟩, 6), (⟨"FeatherVotes$Orders", "weigh", "(ILFeatherVotes$State;)V"⟩, 6), (⟨"FeatherVotes$Orders", "stepOrder", "()Z"⟩, 6), (⟨"FeatherVotes$Orders", "swap", "(II)V"⟩, 6), (⟨"FeatherVotes$Tape", "split", "()V"⟩, 7), (⟨"FeatherVotes$Tape", "sortAt", "(I)I"⟩, 7), (⟨"FeatherVotes$Tape", "addToken", "(III)V"⟩, 7), (⟨"FeatherVotes$Tape", "readItem", "(LFeatherVotes$State;)Z"⟩, 7)]
theorem lw_r1 : ∀ q ∈ lw_privs_1, lw_okq q := List.forall_mem_cons.mpr ⟨lw_p0, List.forall_mem_cons.mpr ⟨lw_p1, List.forall_mem_cons.mpr ⟨lw_p2, List.forall_mem_cons.mpr ⟨lw_p3, List.forall_mem_cons.mpr ⟨lw_p4, List.forall_mem_cons.mpr ⟨lw_p5, List.forall_mem_cons.mpr ⟨lw_p6, List.forall_mem_cons.mpr ⟨lw_p7, List.forall_mem_cons.mpr ⟨lw_p8, List.forall_mem_cons.mpr ⟨lw_p9, List.forall_mem_cons.mpr ⟨lw_p10, List.forall_mem_cons.mpr ⟨lw_p11, List.forall_mem_cons.mpr ⟨lw_p12, List.forall_mem_cons.mpr ⟨lw_p13, List.forall_mem_cons.mpr ⟨lw_p14, List.forall_mem_cons.mpr ⟨lw_p15, fun _ h => absurd h List.not_mem_nil⟩⟩⟩⟩⟩⟩⟩⟩⟩⟩⟩⟩⟩⟩⟩⟩
theorem lw_p16 : lw_okq (⟨"FeatherVotes$Tape", "kindHere", "()I"⟩, 7) := ⟨⟨by decide +kernel, by decide +kernel⟩, List.mem_of_getElem? (i := 130) (by decide +kernel), List.mem_of_getElem? (i := 662) (by decide +kernel), List.mem_of_getElem? (i := 663) (by decide +kernel)⟩
theorem lw_p17 : lw_okq (⟨"FeatherVotes$Tape", "isWord", "(Ljava/lang/String;)Z"⟩, 7) := ⟨⟨by decide +kernel, by decide +kernel⟩, List.mem_of_getElem? (i := 130) (by decide +kernel), List.mem_of_getElem? (i := 676) (by decide +kernel), List.mem_of_getElem? (i := 677) (by decide +kernel)⟩
theorem lw_p18 : lw_okq (⟨"FeatherVotes$Tape", "readBird", "(LFeatherVotes$State;I)Z"⟩, 7) := ⟨⟨by decide +kernel, by decide +kernel⟩, List.mem_of_getElem? (i := 130) (by decide +kernel), List.mem_of_getElem? (i := 728) (by decide +kernel), List.mem_of_getElem? (i := 729) (by decide +kernel)⟩
theorem lw_p19 : lw_okq (⟨"FeatherVotes$Tape", "advance", "()V"⟩, 7) := ⟨⟨by decide +kernel, by decide +kernel⟩, List.mem_of_getElem? (i := 130) (by decide +kernel), List.mem_of_getElem? (i := 733) (by decide +kernel), List.mem_of_getElem? (i := 734) (by decide +kernel)⟩
theorem lw_p20 : lw_okq (⟨"FeatherVotes$Tape", "readFeathers", "(LFeatherVotes$Bird;)Z"⟩, 7) := ⟨⟨by decide +kernel, by decide +kernel⟩, List.mem_of_getElem? (i := 130) (by decide +kernel), List.mem_of_getElem? (i := 737) (by decide +kernel), List.mem_of_getElem? (i := 738) (by decide +kernel)⟩
theorem lw_p21 : lw_okq (⟨"FeatherVotes$Tape", "takeWord", "(Ljava/lang/String;)Z"⟩, 7) := ⟨⟨by decide +kernel, by decide +kernel⟩, List.mem_of_getElem? (i := 130) (by decide +kernel), List.mem_of_getElem? (i := 742) (by decide +kernel), List.mem_of_getElem? (i := 743) (by decide +kernel)⟩
theorem lw_p22 : lw_okq (⟨"FeatherVotes$Tape", "takeNumber", "(I)I"⟩, 7) := ⟨⟨by decide +kernel, by decide +kernel⟩, List.mem_of_getElem? (i := 130) (by decide +kernel), List.mem_of_getElem? (i := 746) (by decide +kernel), List.mem_of_getElem? (i := 747) (by decide +kernel)⟩
theorem lw_p23 : lw_okq (⟨"FeatherVotes$Tape", "readBirdFeature", "(LFeatherVotes$Bird;Ljava/lang/String;I)Z"⟩, 7) := ⟨⟨by decide +kernel, by decide +kernel⟩, List.mem_of_getElem? (i := 130) (by decide +kernel), List.mem_of_getElem? (i := 752) (by decide +kernel), List.mem_of_getElem? (i := 753) (by decide +kernel)⟩
theorem lw_p24 : lw_okq (⟨"FeatherVotes$Tape", "readMotion", "(LFeatherVotes$State;)Z"⟩, 7) := ⟨⟨by decide +kernel, by decide +kernel⟩, List.mem_of_getElem? (i := 130) (by decide +kernel), List.mem_of_getElem? (i := 760) (by decide +kernel), List.mem_of_getElem? (i := 761) (by decide +kernel)⟩
theorem lw_p25 : lw_okq (⟨"FeatherVotes$Tape", "readMotionFeature", "(LFeatherVotes$Motion;Ljava/lang/String;II)Z"⟩, 7) := ⟨⟨by decide +kernel, by decide +kernel⟩, List.mem_of_getElem? (i := 130) (by decide +kernel), List.mem_of_getElem? (i := 767) (by decide +kernel), List.mem_of_getElem? (i := 768) (by decide +kernel)⟩
theorem lw_p26 : lw_okq (⟨"FeatherVotes$Tape", "readSeason", "(LFeatherVotes$State;)Z"⟩, 7) := ⟨⟨by decide +kernel, by decide +kernel⟩, List.mem_of_getElem? (i := 130) (by decide +kernel), List.mem_of_getElem? (i := 776) (by decide +kernel), List.mem_of_getElem? (i := 777) (by decide +kernel)⟩
theorem lw_p27 : lw_okq (⟨"FeatherVotesModel", "no", "(I)I"⟩, 25) := ⟨⟨by decide +kernel, by decide +kernel⟩, List.mem_of_getElem? (i := 853) (by decide +kernel), List.mem_of_getElem? (i := 943) (by decide +kernel), List.mem_of_getElem? (i := 944) (by decide +kernel)⟩
theorem lw_p28 : lw_okq (⟨"FeatherVotesModel", "addsBird", "(I)V"⟩, 25) := ⟨⟨by decide +kernel, by decide +kernel⟩, List.mem_of_getElem? (i := 853) (by decide +kernel), List.mem_of_getElem? (i := 948) (by decide +kernel), List.mem_of_getElem? (i := 949) (by decide +kernel)⟩
theorem lw_p29 : lw_okq (⟨"FeatherVotesModel", "puts", "(III)V"⟩, 25) := ⟨⟨by decide +kernel, by decide +kernel⟩, List.mem_of_getElem? (i := 853) (by decide +kernel), List.mem_of_getElem? (i := 952) (by decide +kernel), List.mem_of_getElem? (i := 953) (by decide +kernel)⟩
theorem lw_p30 : lw_okq (⟨"FeatherVotesModel", "isBird", "(I)Z"⟩, 25) := ⟨⟨by decide +kernel, by decide +kernel⟩, List.mem_of_getElem? (i := 853) (by decide +kernel), List.mem_of_getElem? (i := 960) (by decide +kernel), List.mem_of_getElem? (i := 961) (by decide +kernel)⟩
theorem lw_p31 : lw_okq (⟨"FeatherVotesModel", "get", "(II)I"⟩, 25) := ⟨⟨by decide +kernel, by decide +kernel⟩, List.mem_of_getElem? (i := 853) (by decide +kernel), List.mem_of_getElem? (i := 964) (by decide +kernel), List.mem_of_getElem? (i := 965) (by decide +kernel)⟩
def lw_privs_2 : List (MethodName × Nat) := [(⟨"FeatherVotes$Tape", "kindHere", "()I"⟩, 7), (⟨"FeatherVotes$Tape", "isWord", "(Ljava/lang/String;)Z"⟩, 7), (⟨"FeatherVotes$Tape", "readBird", "(LFeatherVotes$State;I)Z"⟩, 7), (⟨"FeatherVotes$Tape", "advance", "()V"⟩, 7), (⟨"FeatherVotes$Tape", "readFeathers", "(LFeatherVotes$Bird;)Z"⟩, 7), (⟨"FeatherVotes$Tape", "takeWord", "(Ljava/lang/String;)Z"⟩, 7), (⟨"FeatherVotes$Tape", "takeNumber", "(I)I"⟩, 7), (⟨"FeatherVotes$Tape", "readBirdFeature", "(LFeatherVotes$Bird;Ljava/lang/String;I)Z"⟩, 7), (⟨"FeatherVotes$Tape", "readMotion", "(LFeatherVotes$State;)Z"⟩, 7), (⟨"FeatherVotes$Tape", "readMotionFeature", "(LFeatherVotes$Motion;Ljava/lang/String;II)Z"⟩, 7), (⟨"FeatherVotes$Tape", "readSeason", "(LFeatherVotes$State;)Z"⟩, 7), (⟨"FeatherVotesModel", "no", "(I)I"⟩, 25), (⟨"FeatherVotesModel", "addsBird", "(I)V"⟩, 25), (⟨"FeatherVotesModel", "puts", "(III)V"⟩, 25), (⟨"FeatherVotesModel", "isBird", "(I)Z"⟩, 25), (⟨"FeatherVotesModel", "get", "(II)I"⟩, 25)]
theorem lw_r2 : ∀ q ∈ lw_privs_2, lw_okq q := List.forall_mem_cons.mpr ⟨lw_p16, List.forall_mem_cons.mpr ⟨lw_p17, List.forall_mem_cons.mpr ⟨lw_p18, List.forall_mem_cons.mpr ⟨lw_p19, List.forall_mem_cons.mpr ⟨lw_p20, List.forall_mem_cons.mpr ⟨lw_p21, List.forall_mem_cons.mpr ⟨lw_p22, List.forall_mem_cons.mpr ⟨lw_p23, List.forall_mem_cons.mpr ⟨lw_p24, List.forall_mem_cons.mpr ⟨lw_p25, List.forall_mem_cons.mpr ⟨lw_p26, List.forall_mem_cons.mpr ⟨lw_p27, List.forall_mem_cons.mpr ⟨lw_p28, List.forall_mem_cons.mpr ⟨lw_p29, List.forall_mem_cons.mpr ⟨lw_p30, List.forall_mem_cons.mpr ⟨lw_p31, fun _ h => absurd h List.not_mem_nil⟩⟩⟩⟩⟩⟩⟩⟩⟩⟩⟩⟩⟩⟩⟩⟩
theorem lw_p32 : lw_okq (⟨"FeatherVotesModel", "feathers", "(I)I"⟩, 25) := ⟨⟨by decide +kernel, by decide +kernel⟩, List.mem_of_getElem? (i := 853) (by decide +kernel), List.mem_of_getElem? (i := 968) (by decide +kernel), List.mem_of_getElem? (i := 969) (by decide +kernel)⟩
theorem lw_p33 : lw_okq (⟨"FeatherVotesModel", "doesFly", "(I)Z"⟩, 25) := ⟨⟨by decide +kernel, by decide +kernel⟩, List.mem_of_getElem? (i := 853) (by decide +kernel), List.mem_of_getElem? (i := 972) (by decide +kernel), List.mem_of_getElem? (i := 973) (by decide +kernel)⟩
theorem lw_p34 : lw_okq (⟨"FeatherVotesModel", "addsMotion", "(I)V"⟩, 25) := ⟨⟨by decide +kernel, by decide +kernel⟩, List.mem_of_getElem? (i := 853) (by decide +kernel), List.mem_of_getElem? (i := 984) (by decide +kernel), List.mem_of_getElem? (i := 985) (by decide +kernel)⟩
theorem lw_p35 : lw_okq (⟨"FeatherVotesModel", "puts1", "(III)V"⟩, 25) := ⟨⟨by decide +kernel, by decide +kernel⟩, List.mem_of_getElem? (i := 853) (by decide +kernel), List.mem_of_getElem? (i := 988) (by decide +kernel), List.mem_of_getElem? (i := 989) (by decide +kernel)⟩
theorem lw_p36 : lw_okq (⟨"FeatherVotesModel", "isMotion", "(I)Z"⟩, 25) := ⟨⟨by decide +kernel, by decide +kernel⟩, List.mem_of_getElem? (i := 853) (by decide +kernel), List.mem_of_getElem? (i := 996) (by decide +kernel), List.mem_of_getElem? (i := 997) (by decide +kernel)⟩
theorem lw_p37 : lw_okq (⟨"FeatherVotesModel", "of1", "(II)I"⟩, 25) := ⟨⟨by decide +kernel, by decide +kernel⟩, List.mem_of_getElem? (i := 853) (by decide +kernel), List.mem_of_getElem? (i := 1000) (by decide +kernel), List.mem_of_getElem? (i := 1001) (by decide +kernel)⟩
theorem lw_p38 : lw_okq (⟨"FeatherVotesModel", "greatest", "(I)I"⟩, 25) := ⟨⟨by decide +kernel, by decide +kernel⟩, List.mem_of_getElem? (i := 853) (by decide +kernel), List.mem_of_getElem? (i := 1008) (by decide +kernel), List.mem_of_getElem? (i := 1009) (by decide +kernel)⟩
theorem lw_p39 : lw_okq (⟨"FeatherVotesModel", "allBirds", "()I"⟩, 25) := ⟨⟨by decide +kernel, by decide +kernel⟩, List.mem_of_getElem? (i := 853) (by decide +kernel), List.mem_of_getElem? (i := 1012) (by decide +kernel), List.mem_of_getElem? (i := 1013) (by decide +kernel)⟩
theorem lw_p40 : lw_okq (⟨"FeatherVotesModel", "dropsBy", "(III)I"⟩, 25) := ⟨⟨by decide +kernel, by decide +kernel⟩, List.mem_of_getElem? (i := 853) (by decide +kernel), List.mem_of_getElem? (i := 1020) (by decide +kernel), List.mem_of_getElem? (i := 1021) (by decide +kernel)⟩
theorem lw_p41 : lw_okq (⟨"FeatherVotesModel", "crowsBeside", "(II)I"⟩, 25) := ⟨⟨by decide +kernel, by decide +kernel⟩, List.mem_of_getElem? (i := 853) (by decide +kernel), List.mem_of_getElem? (i := 1024) (by decide +kernel), List.mem_of_getElem? (i := 1025) (by decide +kernel)⟩
theorem lw_p42 : lw_okq (⟨"FeatherVotesModel", "sideBy", "(IIZ)I"⟩, 25) := ⟨⟨by decide +kernel, by decide +kernel⟩, List.mem_of_getElem? (i := 853) (by decide +kernel), List.mem_of_getElem? (i := 1038) (by decide +kernel), List.mem_of_getElem? (i := 1039) (by decide +kernel)⟩
theorem lw_p43 : lw_okq (⟨"FeatherVotesModel", "passesNow", "(I)Z"⟩, 25) := ⟨⟨by decide +kernel, by decide +kernel⟩, List.mem_of_getElem? (i := 853) (by decide +kernel), List.mem_of_getElem? (i := 1046) (by decide +kernel), List.mem_of_getElem? (i := 1047) (by decide +kernel)⟩
theorem lw_p44 : lw_okq (⟨"FeatherVotesModel", "passesBy", "(II)Z"⟩, 25) := ⟨⟨by decide +kernel, by decide +kernel⟩, List.mem_of_getElem? (i := 853) (by decide +kernel), List.mem_of_getElem? (i := 1050) (by decide +kernel), List.mem_of_getElem? (i := 1051) (by decide +kernel)⟩
theorem lw_p45 : lw_okq (⟨"FeatherVotesModel", "votes", "(I)Z"⟩, 25) := ⟨⟨by decide +kernel, by decide +kernel⟩, List.mem_of_getElem? (i := 853) (by decide +kernel), List.mem_of_getElem? (i := 1058) (by decide +kernel), List.mem_of_getElem? (i := 1059) (by decide +kernel)⟩
theorem lw_p46 : lw_okq (⟨"FeatherVotesModel", "comesEffect", "(I)V"⟩, 25) := ⟨⟨by decide +kernel, by decide +kernel⟩, List.mem_of_getElem? (i := 853) (by decide +kernel), List.mem_of_getElem? (i := 1062) (by decide +kernel), List.mem_of_getElem? (i := 1063) (by decide +kernel)⟩
theorem lw_p47 : lw_okq (⟨"FeatherVotesModel", "goesSeason", "()V"⟩, 25) := ⟨⟨by decide +kernel, by decide +kernel⟩, List.mem_of_getElem? (i := 853) (by decide +kernel), List.mem_of_getElem? (i := 1071) (by decide +kernel), List.mem_of_getElem? (i := 1072) (by decide +kernel)⟩
def lw_privs_3 : List (MethodName × Nat) := [(⟨"FeatherVotesModel", "feathers", "(I)I"⟩, 25), (⟨"FeatherVotesModel", "doesFly", "(I)Z"⟩, 25), (⟨"FeatherVotesModel", "addsMotion", "(I)V"⟩, 25), (⟨"FeatherVotesModel", "puts1", "(III)V"⟩, 25), (⟨"FeatherVotesModel", "isMotion", "(I)Z"⟩, 25), (⟨"FeatherVotesModel", "of1", "(II)I"⟩, 25), (⟨"FeatherVotesModel", "greatest", "(I)I"⟩, 25), (⟨"FeatherVotesModel", "allBirds", "()I"⟩, 25), (⟨"FeatherVotesModel", "dropsBy", "(III)I"⟩, 25), (⟨"FeatherVotesModel", "crowsBeside", "(II)I"⟩, 25), (⟨"FeatherVotesModel", "sideBy", "(IIZ)I"⟩, 25), (⟨"FeatherVotesModel", "passesNow", "(I)Z"⟩, 25), (⟨"FeatherVotesModel", "passesBy", "(II)Z"⟩, 25), (⟨"FeatherVotesModel", "votes", "(I)Z"⟩, 25), (⟨"FeatherVotesModel", "comesEffect", "(I)V"⟩, 25), (⟨"FeatherVotesModel", "goesSeason", "()V"⟩, 25)]
theorem lw_r3 : ∀ q ∈ lw_privs_3, lw_okq q := List.forall_mem_cons.mpr ⟨lw_p32, List.forall_mem_cons.mpr ⟨lw_p33, List.forall_mem_cons.mpr ⟨lw_p34, List.forall_mem_cons.mpr ⟨lw_p35, List.forall_mem_cons.mpr ⟨lw_p36, List.forall_mem_cons.mpr ⟨lw_p37, List.forall_mem_cons.mpr ⟨lw_p38, List.forall_mem_cons.mpr ⟨lw_p39, List.forall_mem_cons.mpr ⟨lw_p40, List.forall_mem_cons.mpr ⟨lw_p41, List.forall_mem_cons.mpr ⟨lw_p42, List.forall_mem_cons.mpr ⟨lw_p43, List.forall_mem_cons.mpr ⟨lw_p44, List.forall_mem_cons.mpr ⟨lw_p45, List.forall_mem_cons.mpr ⟨lw_p46, List.forall_mem_cons.mpr ⟨lw_p47, fun _ h => absurd h List.not_mem_nil⟩⟩⟩⟩⟩⟩⟩⟩⟩⟩⟩⟩⟩⟩⟩⟩
theorem lw_p48 : lw_okq (⟨"FeatherVotesModel", "allFeathers", "()I"⟩, 25) := ⟨⟨by decide +kernel, by decide +kernel⟩, List.mem_of_getElem? (i := 853) (by decide +kernel), List.mem_of_getElem? (i := 1075) (by decide +kernel), List.mem_of_getElem? (i := 1076) (by decide +kernel)⟩
theorem lw_p49 : lw_okq (⟨"FeatherVotesModel", "laws", "()I"⟩, 25) := ⟨⟨by decide +kernel, by decide +kernel⟩, List.mem_of_getElem? (i := 853) (by decide +kernel), List.mem_of_getElem? (i := 1083) (by decide +kernel), List.mem_of_getElem? (i := 1084) (by decide +kernel)⟩
theorem lw_p50 : lw_okq (⟨"FeatherVotesModel", "flying", "()I"⟩, 25) := ⟨⟨by decide +kernel, by decide +kernel⟩, List.mem_of_getElem? (i := 853) (by decide +kernel), List.mem_of_getElem? (i := 1087) (by decide +kernel), List.mem_of_getElem? (i := 1088) (by decide +kernel)⟩
theorem lw_p51 : lw_okq (⟨"FeatherVotesModel", "setsAside", "()V"⟩, 25) := ⟨⟨by decide +kernel, by decide +kernel⟩, List.mem_of_getElem? (i := 853) (by decide +kernel), List.mem_of_getElem? (i := 1099) (by decide +kernel), List.mem_of_getElem? (i := 1100) (by decide +kernel)⟩
theorem lw_p52 : lw_okq (⟨"FeatherVotesModel", "laysBack", "()V"⟩, 25) := ⟨⟨by decide +kernel, by decide +kernel⟩, List.mem_of_getElem? (i := 853) (by decide +kernel), List.mem_of_getElem? (i := 1103) (by decide +kernel), List.mem_of_getElem? (i := 1104) (by decide +kernel)⟩
theorem lw_p53 : lw_okq (⟨"FeatherVotesModel", "droppedAll", "(I)I"⟩, 25) := ⟨⟨by decide +kernel, by decide +kernel⟩, List.mem_of_getElem? (i := 853) (by decide +kernel), List.mem_of_getElem? (i := 1138) (by decide +kernel), List.mem_of_getElem? (i := 1139) (by decide +kernel)⟩
theorem lw_p54 : lw_okq (⟨"FeatherVotesModel", "isSet", "(I)Z"⟩, 25) := ⟨⟨by decide +kernel, by decide +kernel⟩, List.mem_of_getElem? (i := 853) (by decide +kernel), List.mem_of_getElem? (i := 1154) (by decide +kernel), List.mem_of_getElem? (i := 1155) (by decide +kernel)⟩
theorem lw_p55 : lw_okq (⟨"FeatherVotesModel", "findsOrder", "(I)V"⟩, 25) := ⟨⟨by decide +kernel, by decide +kernel⟩, List.mem_of_getElem? (i := 853) (by decide +kernel), List.mem_of_getElem? (i := 1158) (by decide +kernel), List.mem_of_getElem? (i := 1159) (by decide +kernel)⟩
theorem lw_p56 : lw_okq (⟨"FeatherVotesModel", "laysOrder", "(I)I"⟩, 25) := ⟨⟨by decide +kernel, by decide +kernel⟩, List.mem_of_getElem? (i := 853) (by decide +kernel), List.mem_of_getElem? (i := 1162) (by decide +kernel), List.mem_of_getElem? (i := 1163) (by decide +kernel)⟩
theorem lw_p57 : lw_okq (⟨"FeatherVotesModel", "nextOrder", "(I)Z"⟩, 25) := ⟨⟨by decide +kernel, by decide +kernel⟩, List.mem_of_getElem? (i := 853) (by decide +kernel), List.mem_of_getElem? (i := 1166) (by decide +kernel), List.mem_of_getElem? (i := 1167) (by decide +kernel)⟩
theorem lw_p58 : lw_okq (⟨"FeatherVotesModel", "swaps", "(II)V"⟩, 25) := ⟨⟨by decide +kernel, by decide +kernel⟩, List.mem_of_getElem? (i := 853) (by decide +kernel), List.mem_of_getElem? (i := 1170) (by decide +kernel), List.mem_of_getElem? (i := 1171) (by decide +kernel)⟩
theorem lw_p59 : lw_okq (⟨"FeatherVotesModel", "wrongSheet", "(I)I"⟩, 25) := ⟨⟨by decide +kernel, by decide +kernel⟩, List.mem_of_getElem? (i := 853) (by decide +kernel), List.mem_of_getElem? (i := 1198) (by decide +kernel), List.mem_of_getElem? (i := 1199) (by decide +kernel)⟩
theorem lw_p60 : lw_okq (⟨"FeatherVotesModel", "isTold", "(III)Z"⟩, 25) := ⟨⟨by decide +kernel, by decide +kernel⟩, List.mem_of_getElem? (i := 853) (by decide +kernel), List.mem_of_getElem? (i := 1205) (by decide +kernel), List.mem_of_getElem? (i := 1206) (by decide +kernel)⟩
theorem lw_p61 : lw_okq (⟨"FeatherVotesModel", "draw", "()I"⟩, 25) := ⟨⟨by decide +kernel, by decide +kernel⟩, List.mem_of_getElem? (i := 853) (by decide +kernel), List.mem_of_getElem? (i := 1217) (by decide +kernel), List.mem_of_getElem? (i := 1218) (by decide +kernel)⟩
theorem lw_p62 : lw_okq (⟨"FeatherVotesModel", "nextToken", "()V"⟩, 25) := ⟨⟨by decide +kernel, by decide +kernel⟩, List.mem_of_getElem? (i := 853) (by decide +kernel), List.mem_of_getElem? (i := 1238) (by decide +kernel), List.mem_of_getElem? (i := 1239) (by decide +kernel)⟩
theorem lw_p63 : lw_okq (⟨"FeatherVotesModel", "readsItem", "()Z"⟩, 25) := ⟨⟨by decide +kernel, by decide +kernel⟩, List.mem_of_getElem? (i := 853) (by decide +kernel), List.mem_of_getElem? (i := 1253) (by decide +kernel), List.mem_of_getElem? (i := 1254) (by decide +kernel)⟩
def lw_privs_4 : List (MethodName × Nat) := [(⟨"FeatherVotesModel", "allFeathers", "()I"⟩, 25), (⟨"FeatherVotesModel", "laws", "()I"⟩, 25), (⟨"FeatherVotesModel", "flying", "()I"⟩, 25), (⟨"FeatherVotesModel", "setsAside", "()V"⟩, 25), (⟨"FeatherVotesModel", "laysBack", "()V"⟩, 25), (⟨"FeatherVotesModel", "droppedAll", "(I)I"⟩, 25), (⟨"FeatherVotesModel", "isSet", "(I)Z"⟩, 25), (⟨"FeatherVotesModel", "findsOrder", "(I)V"⟩, 25), (⟨"FeatherVotesModel", "laysOrder", "(I)I"⟩, 25), (⟨"FeatherVotesModel", "nextOrder", "(I)Z"⟩, 25), (⟨"FeatherVotesModel", "swaps", "(II)V"⟩, 25), (⟨"FeatherVotesModel", "wrongSheet", "(I)I"⟩, 25), (⟨"FeatherVotesModel", "isTold", "(III)Z"⟩, 25), (⟨"FeatherVotesModel", "draw", "()I"⟩, 25), (⟨"FeatherVotesModel", "nextToken", "()V"⟩, 25), (⟨"FeatherVotesModel", "readsItem", "()Z"⟩, 25)]
theorem lw_r4 : ∀ q ∈ lw_privs_4, lw_okq q := List.forall_mem_cons.mpr ⟨lw_p48, List.forall_mem_cons.mpr ⟨lw_p49, List.forall_mem_cons.mpr ⟨lw_p50, List.forall_mem_cons.mpr ⟨lw_p51, List.forall_mem_cons.mpr ⟨lw_p52, List.forall_mem_cons.mpr ⟨lw_p53, List.forall_mem_cons.mpr ⟨lw_p54, List.forall_mem_cons.mpr ⟨lw_p55, List.forall_mem_cons.mpr ⟨lw_p56, List.forall_mem_cons.mpr ⟨lw_p57, List.forall_mem_cons.mpr ⟨lw_p58, List.forall_mem_cons.mpr ⟨lw_p59, List.forall_mem_cons.mpr ⟨lw_p60, List.forall_mem_cons.mpr ⟨lw_p61, List.forall_mem_cons.mpr ⟨lw_p62, List.forall_mem_cons.mpr ⟨lw_p63, fun _ h => absurd h List.not_mem_nil⟩⟩⟩⟩⟩⟩⟩⟩⟩⟩⟩⟩⟩⟩⟩⟩
theorem lw_p64 : lw_okq (⟨"FeatherVotesModel", "wordOf", "([C)I"⟩, 25) := ⟨⟨by decide +kernel, by decide +kernel⟩, List.mem_of_getElem? (i := 853) (by decide +kernel), List.mem_of_getElem? (i := 1257) (by decide +kernel), List.mem_of_getElem? (i := 1258) (by decide +kernel)⟩
theorem lw_p65 : lw_okq (⟨"FeatherVotesModel", "readsBird", "(I)Z"⟩, 25) := ⟨⟨by decide +kernel, by decide +kernel⟩, List.mem_of_getElem? (i := 853) (by decide +kernel), List.mem_of_getElem? (i := 1261) (by decide +kernel), List.mem_of_getElem? (i := 1262) (by decide +kernel)⟩
theorem lw_p66 : lw_okq (⟨"FeatherVotesModel", "takesNumber", "(II)I"⟩, 25) := ⟨⟨by decide +kernel, by decide +kernel⟩, List.mem_of_getElem? (i := 853) (by decide +kernel), List.mem_of_getElem? (i := 1265) (by decide +kernel), List.mem_of_getElem? (i := 1266) (by decide +kernel)⟩
theorem lw_p67 : lw_okq (⟨"FeatherVotesModel", "readsMotion", "()Z"⟩, 25) := ⟨⟨by decide +kernel, by decide +kernel⟩, List.mem_of_getElem? (i := 853) (by decide +kernel), List.mem_of_getElem? (i := 1269) (by decide +kernel), List.mem_of_getElem? (i := 1270) (by decide +kernel)⟩
def lw_privs_5 : List (MethodName × Nat) := [(⟨"FeatherVotesModel", "wordOf", "([C)I"⟩, 25), (⟨"FeatherVotesModel", "readsBird", "(I)Z"⟩, 25), (⟨"FeatherVotesModel", "takesNumber", "(II)I"⟩, 25), (⟨"FeatherVotesModel", "readsMotion", "()Z"⟩, 25)]
theorem lw_r5 : ∀ q ∈ lw_privs_5, lw_okq q := List.forall_mem_cons.mpr ⟨lw_p64, List.forall_mem_cons.mpr ⟨lw_p65, List.forall_mem_cons.mpr ⟨lw_p66, List.forall_mem_cons.mpr ⟨lw_p67, fun _ h => absurd h List.not_mem_nil⟩⟩⟩⟩
def lw_privs : List (MethodName × Nat) := lw_privs_1 ++ (lw_privs_2 ++ (lw_privs_3 ++ (lw_privs_4 ++ (lw_privs_5))))
def lw_tbl : List Cond := k2_sels lw_privs ++ tables_1
theorem lw_privs_ok : ∀ q ∈ lw_privs, lw_okq q := by
  show ∀ q ∈ lw_privs_1 ++ (lw_privs_2 ++ (lw_privs_3 ++ (lw_privs_4 ++ (lw_privs_5)))), lw_okq q
  exact List.forall_mem_append.mpr ⟨lw_r1, List.forall_mem_append.mpr ⟨lw_r2, List.forall_mem_append.mpr ⟨lw_r3, List.forall_mem_append.mpr ⟨lw_r4, lw_r5⟩⟩⟩⟩
end
section
def RX0 : String := "FeatherVotes$Bird"
def TX0 : u_T := fun k => match k with
  | 0 => ("FeatherVotes$Bird", "kind", "I", false)
  | 1 => ("FeatherVotes$Bird", "keeps", "I", false)
  | 2 => ("FeatherVotes$Bird", "grows", "I", false)
  | _ => ("FeatherVotes$Bird", "feathers", "[I", true)
def tyX0 : Nat → FieldType := fun k => match k with
  | 0 => .int
  | 1 => .int
  | 2 => .int
  | _ => .array .int
theorem nmX0 : ∀ a, a < 4 → ∀ b, b < 4 → a ≠ b → (TX0 a).2.1 ≠ (TX0 b).2.1 := by decide +kernel
theorem tyX0_ok : ∀ k, k < 4 → parseFieldDescriptor (TX0 k).2.2.1 = some (tyX0 k) := by decide +kernel
abbrev cX0_init : ByteArray := prog_2_method_1_code
def yX0_init : MethodName := ⟨RX0, "<init>", "()V"⟩
abbrev cX0_hatch : ByteArray := prog_2_method_2_code
def yX0_hatch : MethodName := ⟨RX0, "hatch", "(I)V"⟩
abbrev cX0_become : ByteArray := prog_2_method_3_code
def yX0_become : MethodName := ⟨RX0, "become", "(LFeatherVotes$Bird;)V"⟩
abbrev cX0_mostOf : ByteArray := prog_2_method_4_code
def yX0_mostOf : MethodName := ⟨RX0, "mostOf", "(I)I"⟩
abbrev cX0_feature : ByteArray := prog_2_method_5_code
def yX0_feature : MethodName := ⟨RX0, "feature", "(I)I"⟩
abbrev cX0_setFeature : ByteArray := prog_2_method_6_code
def yX0_setFeature : MethodName := ⟨RX0, "setFeature", "(II)V"⟩
abbrev cX0_allFeathers : ByteArray := prog_2_method_7_code
def yX0_allFeathers : MethodName := ⟨RX0, "allFeathers", "()I"⟩
abbrev cX0_canFly : ByteArray := prog_2_method_8_code
def yX0_canFly : MethodName := ⟨RX0, "canFly", "()Z"⟩
abbrev cX0_isA : ByteArray := prog_2_method_9_code
def yX0_isA : MethodName := ⟨RX0, "isA", "(I)Z"⟩
abbrev cX0_grow : ByteArray := prog_2_method_10_code
def yX0_grow : MethodName := ⟨RX0, "grow", "(I)V"⟩
abbrev cX0_dropFor : ByteArray := prog_2_method_11_code
def yX0_dropFor : MethodName := ⟨RX0, "dropFor", "(LFeatherVotes$Motion;I)I"⟩
def RX1 : String := "FeatherVotes$Motion"
def TX1 : u_T := fun k => match k with
  | 0 => ("FeatherVotes$Motion", "colour", "I", false)
  | 1 => ("FeatherVotes$Motion", "quorum", "I", false)
  | 2 => ("FeatherVotes$Motion", "wants", "I", false)
  | 3 => ("FeatherVotes$Motion", "effect", "I", false)
  | _ => ("FeatherVotes$Motion", "law", "I", false)
def tyX1 : Nat → FieldType := fun k => match k with
  | 0 => .int
  | 1 => .int
  | 2 => .int
  | 3 => .int
  | _ => .int
theorem nmX1 : ∀ a, a < 5 → ∀ b, b < 5 → a ≠ b → (TX1 a).2.1 ≠ (TX1 b).2.1 := by decide +kernel
theorem tyX1_ok : ∀ k, k < 5 → parseFieldDescriptor (TX1 k).2.2.1 = some (tyX1 k) := by decide +kernel
abbrev cX1_init : ByteArray := prog_3_method_1_code
def yX1_init : MethodName := ⟨RX1, "<init>", "()V"⟩
abbrev cX1_begin : ByteArray := prog_3_method_2_code
def yX1_begin : MethodName := ⟨RX1, "begin", "(I)V"⟩
abbrev cX1_become : ByteArray := prog_3_method_3_code
def yX1_become : MethodName := ⟨RX1, "become", "(LFeatherVotes$Motion;)V"⟩
abbrev cX1_mostOf : ByteArray := prog_3_method_4_code
def yX1_mostOf : MethodName := ⟨RX1, "mostOf", "(II)I"⟩
abbrev cX1_feature : ByteArray := prog_3_method_5_code
def yX1_feature : MethodName := ⟨RX1, "feature", "(I)I"⟩
abbrev cX1_setFeature : ByteArray := prog_3_method_6_code
def yX1_setFeature : MethodName := ⟨RX1, "setFeature", "(II)V"⟩
abbrev cX1_isCarriedBy : ByteArray := prog_3_method_7_code
def yX1_isCarriedBy : MethodName := ⟨RX1, "isCarriedBy", "(II)Z"⟩
def RX2 : String := "FeatherVotes$Orders"
def TX2 : u_T := fun k => match k with
  | 0 => ("FeatherVotes$Orders", "best", "[I", true)
  | 1 => ("FeatherVotes$Orders", "mostPassing", "I", false)
  | 2 => ("FeatherVotes$Orders", "bestCount", "I", false)
  | 3 => ("FeatherVotes$Orders", "feathersLeft", "I", false)
  | 4 => ("FeatherVotes$Orders", "order", "[I", true)
  | _ => ("FeatherVotes$Orders", "size", "I", false)
def tyX2 : Nat → FieldType := fun k => match k with
  | 0 => .array .int
  | 1 => .int
  | 2 => .int
  | 3 => .int
  | 4 => .array .int
  | _ => .int
theorem nmX2 : ∀ a, a < 6 → ∀ b, b < 6 → a ≠ b → (TX2 a).2.1 ≠ (TX2 b).2.1 := by decide +kernel
theorem tyX2_ok : ∀ k, k < 6 → parseFieldDescriptor (TX2 k).2.2.1 = some (tyX2 k) := by decide +kernel
abbrev cX2_init : ByteArray := prog_4_method_1_code
def yX2_init : MethodName := ⟨RX2, "<init>", "()V"⟩
abbrev cX2_seek : ByteArray := prog_4_method_2_code
def yX2_seek : MethodName := ⟨RX2, "seek", "(LFeatherVotes$State;LFeatherVotes$State;I)V"⟩
abbrev cX2_listMembers : ByteArray := prog_4_method_3_code
def yX2_listMembers : MethodName := ⟨RX2, "listMembers", "(I)V"⟩
abbrev cX2_weigh : ByteArray := prog_4_method_4_code
def yX2_weigh : MethodName := ⟨RX2, "weigh", "(ILFeatherVotes$State;)V"⟩
abbrev cX2_stepOrder : ByteArray := prog_4_method_5_code
def yX2_stepOrder : MethodName := ⟨RX2, "stepOrder", "()Z"⟩
abbrev cX2_swap : ByteArray := prog_4_method_6_code
def yX2_swap : MethodName := ⟨RX2, "swap", "(II)V"⟩
def RX3 : String := "FeatherVotes$Sheet"
def TX3 : u_T := fun k => match k with
  | 0 => ("FeatherVotes$Sheet", "bits", "I", false)
  | 1 => ("FeatherVotes$Sheet", "size", "I", false)
  | _ => ("FeatherVotes$Sheet", "numbers", "[I", true)
def tyX3 : Nat → FieldType := fun k => match k with
  | 0 => .int
  | 1 => .int
  | _ => .array .int
theorem nmX3 : ∀ a, a < 3 → ∀ b, b < 3 → a ≠ b → (TX3 a).2.1 ≠ (TX3 b).2.1 := by decide +kernel
theorem tyX3_ok : ∀ k, k < 3 → parseFieldDescriptor (TX3 k).2.2.1 = some (tyX3 k) := by decide +kernel
abbrev cX3_init : ByteArray := prog_5_method_1_code
def yX3_init : MethodName := ⟨RX3, "<init>", "()V"⟩
abbrev cX3_hasBits : ByteArray := prog_5_method_2_code
def yX3_hasBits : MethodName := ⟨RX3, "hasBits", "(I)Z"⟩
abbrev cX3_begin : ByteArray := prog_5_method_3_code
def yX3_begin : MethodName := ⟨RX3, "begin", "(II)V"⟩
abbrev cX3_isMissing : ByteArray := prog_5_method_4_code
def yX3_isMissing : MethodName := ⟨RX3, "isMissing", "()Z"⟩
abbrev cX3_put : ByteArray := prog_5_method_5_code
def yX3_put : MethodName := ⟨RX3, "put", "(II)V"⟩
abbrev cX3_allows : ByteArray := prog_5_method_6_code
def yX3_allows : MethodName := ⟨RX3, "allows", "(II)Z"⟩
abbrev cX3_hasRange : ByteArray := prog_5_method_7_code
def yX3_hasRange : MethodName := ⟨RX3, "hasRange", "(II)Z"⟩
def RX4 : String := "FeatherVotes$State"
def TX4 : u_T := fun k => match k with
  | 0 => ("FeatherVotes$State", "birds", "[LFeatherVotes$Bird;", true)
  | 1 => ("FeatherVotes$State", "motions", "[LFeatherVotes$Motion;", true)
  | 2 => ("FeatherVotes$State", "foot", "[I", true)
  | 3 => ("FeatherVotes$State", "spots", "[I", true)
  | 4 => ("FeatherVotes$State", "birdCount", "I", false)
  | 5 => ("FeatherVotes$State", "motionCount", "I", false)
  | 6 => ("FeatherVotes$State", "season", "I", false)
  | _ => ("FeatherVotes$State", "z", "I", false)
def tyX4 : Nat → FieldType := fun k => match k with
  | 0 => .array (.object "FeatherVotes$Bird")
  | 1 => .array (.object "FeatherVotes$Motion")
  | 2 => .array .int
  | 3 => .array .int
  | 4 => .int
  | 5 => .int
  | 6 => .int
  | _ => .int
theorem nmX4 : ∀ a, a < 8 → ∀ b, b < 8 → a ≠ b → (TX4 a).2.1 ≠ (TX4 b).2.1 := by decide +kernel
theorem tyX4_ok : ∀ k, k < 8 → parseFieldDescriptor (TX4 k).2.2.1 = some (tyX4 k) := by decide +kernel
abbrev cX4_init : ByteArray := prog_6_method_1_code
def yX4_init : MethodName := ⟨RX4, "<init>", "()V"⟩
abbrev cX4_become : ByteArray := prog_6_method_2_code
def yX4_become : MethodName := ⟨RX4, "become", "(LFeatherVotes$State;)V"⟩
abbrev cX4_hasBird : ByteArray := prog_6_method_3_code
def yX4_hasBird : MethodName := ⟨RX4, "hasBird", "(I)Z"⟩
abbrev cX4_hasMotion : ByteArray := prog_6_method_4_code
def yX4_hasMotion : MethodName := ⟨RX4, "hasMotion", "(I)Z"⟩
abbrev cX4_allBirds : ByteArray := prog_6_method_5_code
def yX4_allBirds : MethodName := ⟨RX4, "allBirds", "()I"⟩
abbrev cX4_allMotions : ByteArray := prog_6_method_6_code
def yX4_allMotions : MethodName := ⟨RX4, "allMotions", "()I"⟩
abbrev cX4_addBird : ByteArray := prog_6_method_7_code
def yX4_addBird : MethodName := ⟨RX4, "addBird", "(I)I"⟩
abbrev cX4_addMotion : ByteArray := prog_6_method_8_code
def yX4_addMotion : MethodName := ⟨RX4, "addMotion", "(I)I"⟩
abbrev cX4_allFeathers : ByteArray := prog_6_method_9_code
def yX4_allFeathers : MethodName := ⟨RX4, "allFeathers", "()I"⟩
abbrev cX4_laws : ByteArray := prog_6_method_10_code
def yX4_laws : MethodName := ⟨RX4, "laws", "()I"⟩
abbrev cX4_flyers : ByteArray := prog_6_method_11_code
def yX4_flyers : MethodName := ⟨RX4, "flyers", "()I"⟩
abbrev cX4_spotsTaken : ByteArray := prog_6_method_12_code
def yX4_spotsTaken : MethodName := ⟨RX4, "spotsTaken", "()I"⟩
abbrev cX4_passSeason : ByteArray := prog_6_method_13_code
def yX4_passSeason : MethodName := ⟨RX4, "passSeason", "()V"⟩
abbrev cX4_draw : ByteArray := prog_6_method_14_code
def yX4_draw : MethodName := ⟨RX4, "draw", "()I"⟩
abbrev cX4_crowsAmong : ByteArray := prog_6_method_15_code
def yX4_crowsAmong : MethodName := ⟨RX4, "crowsAmong", "(I)I"⟩
abbrev cX4_isIn : ByteArray := prog_6_method_16_code
def yX4_isIn : MethodName := ⟨RX4, "isIn", "(II)Z"⟩
abbrev cX4_againstIt : ByteArray := prog_6_method_17_code
def yX4_againstIt : MethodName := ⟨RX4, "againstIt", "(LFeatherVotes$Motion;)I"⟩
abbrev cX4_dropOf : ByteArray := prog_6_method_18_code
def yX4_dropOf : MethodName := ⟨RX4, "dropOf", "(ILFeatherVotes$Motion;)I"⟩
abbrev cX4_droppedFor : ByteArray := prog_6_method_19_code
def yX4_droppedFor : MethodName := ⟨RX4, "droppedFor", "(LFeatherVotes$Motion;)I"⟩
abbrev cX4_droppedAgainst : ByteArray := prog_6_method_20_code
def yX4_droppedAgainst : MethodName := ⟨RX4, "droppedAgainst", "(LFeatherVotes$Motion;)I"⟩
abbrev cX4_droppedInAll : ByteArray := prog_6_method_21_code
def yX4_droppedInAll : MethodName := ⟨RX4, "droppedInAll", "(LFeatherVotes$Motion;)I"⟩
abbrev cX4_droppedBy : ByteArray := prog_6_method_22_code
def yX4_droppedBy : MethodName := ⟨RX4, "droppedBy", "(LFeatherVotes$Motion;I)I"⟩
abbrev cX4_wouldPass : ByteArray := prog_6_method_23_code
def yX4_wouldPass : MethodName := ⟨RX4, "wouldPass", "(LFeatherVotes$Motion;)Z"⟩
abbrev cX4_passingNow : ByteArray := prog_6_method_24_code
def yX4_passingNow : MethodName := ⟨RX4, "passingNow", "()I"⟩
abbrev cX4_castVote : ByteArray := prog_6_method_25_code
def yX4_castVote : MethodName := ⟨RX4, "castVote", "(LFeatherVotes$Motion;)Z"⟩
abbrev cX4_letFall : ByteArray := prog_6_method_26_code
def yX4_letFall : MethodName := ⟨RX4, "letFall", "(LFeatherVotes$Motion;I)I"⟩
abbrev cX4_enact : ByteArray := prog_6_method_27_code
def yX4_enact : MethodName := ⟨RX4, "enact", "(I)V"⟩
abbrev cX4_castVotes : ByteArray := prog_6_method_28_code
def yX4_castVotes : MethodName := ⟨RX4, "castVotes", "([II)I"⟩
def RX5 : String := "FeatherVotes$Tape"
def TX5 : u_T := fun k => match k with
  | 0 => ("FeatherVotes$Tape", "length", "I", false)
  | 1 => ("FeatherVotes$Tape", "bytes", "[I", true)
  | 2 => ("FeatherVotes$Tape", "sorts", "[I", true)
  | 3 => ("FeatherVotes$Tape", "starts", "[I", true)
  | 4 => ("FeatherVotes$Tape", "ends", "[I", true)
  | 5 => ("FeatherVotes$Tape", "tokens", "I", false)
  | _ => ("FeatherVotes$Tape", "at", "I", false)
def tyX5 : Nat → FieldType := fun k => match k with
  | 0 => .int
  | 1 => .array .int
  | 2 => .array .int
  | 3 => .array .int
  | 4 => .array .int
  | 5 => .int
  | _ => .int
theorem nmX5 : ∀ a, a < 7 → ∀ b, b < 7 → a ≠ b → (TX5 a).2.1 ≠ (TX5 b).2.1 := by decide +kernel
theorem tyX5_ok : ∀ k, k < 7 → parseFieldDescriptor (TX5 k).2.2.1 = some (tyX5 k) := by decide +kernel
abbrev cX5_init : ByteArray := prog_7_method_1_code
def yX5_init : MethodName := ⟨RX5, "<init>", "()V"⟩
abbrev cX5_add : ByteArray := prog_7_method_2_code
def yX5_add : MethodName := ⟨RX5, "add", "(I)V"⟩
abbrev cX5_readInto : ByteArray := prog_7_method_3_code
def yX5_readInto : MethodName := ⟨RX5, "readInto", "(LFeatherVotes$State;)I"⟩
abbrev cX5_split : ByteArray := prog_7_method_4_code
def yX5_split : MethodName := ⟨RX5, "split", "()V"⟩
abbrev cX5_addToken : ByteArray := prog_7_method_5_code
def yX5_addToken : MethodName := ⟨RX5, "addToken", "(III)V"⟩
abbrev cX5_sortAt : ByteArray := prog_7_method_6_code
def yX5_sortAt : MethodName := ⟨RX5, "sortAt", "(I)I"⟩
abbrev cX5_isLong : ByteArray := prog_7_method_7_code
def yX5_isLong : MethodName := ⟨RX5, "isLong", "(I)Z"⟩
abbrev cX5_advance : ByteArray := prog_7_method_8_code
def yX5_advance : MethodName := ⟨RX5, "advance", "()V"⟩
abbrev cX5_isWord : ByteArray := prog_7_method_9_code
def yX5_isWord : MethodName := ⟨RX5, "isWord", "(Ljava/lang/String;)Z"⟩
abbrev cX5_takeWord : ByteArray := prog_7_method_10_code
def yX5_takeWord : MethodName := ⟨RX5, "takeWord", "(Ljava/lang/String;)Z"⟩
abbrev cX5_takeNumber : ByteArray := prog_7_method_11_code
def yX5_takeNumber : MethodName := ⟨RX5, "takeNumber", "(I)I"⟩
abbrev cX5_readItem : ByteArray := prog_7_method_12_code
def yX5_readItem : MethodName := ⟨RX5, "readItem", "(LFeatherVotes$State;)Z"⟩
abbrev cX5_kindHere : ByteArray := prog_7_method_13_code
def yX5_kindHere : MethodName := ⟨RX5, "kindHere", "()I"⟩
abbrev cX5_nameOf : ByteArray := prog_7_method_14_code
def yX5_nameOf : MethodName := ⟨RX5, "nameOf", "(I)Ljava/lang/String;"⟩
abbrev cX5_readBird : ByteArray := prog_7_method_15_code
def yX5_readBird : MethodName := ⟨RX5, "readBird", "(LFeatherVotes$State;I)Z"⟩
abbrev cX5_readFeathers : ByteArray := prog_7_method_16_code
def yX5_readFeathers : MethodName := ⟨RX5, "readFeathers", "(LFeatherVotes$Bird;)Z"⟩
abbrev cX5_readBirdFeature : ByteArray := prog_7_method_17_code
def yX5_readBirdFeature : MethodName := ⟨RX5, "readBirdFeature", "(LFeatherVotes$Bird;Ljava/lang/String;I)Z"⟩
abbrev cX5_readMotion : ByteArray := prog_7_method_18_code
def yX5_readMotion : MethodName := ⟨RX5, "readMotion", "(LFeatherVotes$State;)Z"⟩
abbrev cX5_readMotionFeature : ByteArray := prog_7_method_19_code
def yX5_readMotionFeature : MethodName := ⟨RX5, "readMotionFeature", "(LFeatherVotes$Motion;Ljava/lang/String;II)Z"⟩
abbrev cX5_readSeason : ByteArray := prog_7_method_20_code
def yX5_readSeason : MethodName := ⟨RX5, "readSeason", "(LFeatherVotes$State;)Z"⟩
def RX6 : String := "FeatherVotes"
def TX6 : u_T := fun k => match k with
  | 0 => ("FeatherVotes", "here", "LFeatherVotes$State;", true)
  | 1 => ("FeatherVotes", "trial", "LFeatherVotes$State;", true)
  | 2 => ("FeatherVotes", "kept", "LFeatherVotes$State;", true)
  | 3 => ("FeatherVotes", "isKept", "Z", false)
  | 4 => ("FeatherVotes", "tape", "LFeatherVotes$Tape;", true)
  | 5 => ("FeatherVotes", "sheets", "[LFeatherVotes$Sheet;", true)
  | 6 => ("FeatherVotes", "orders", "LFeatherVotes$Orders;", true)
  | _ => ("FeatherVotes", "findings", "[I", true)
def tyX6 : Nat → FieldType := fun k => match k with
  | 0 => .object "FeatherVotes$State"
  | 1 => .object "FeatherVotes$State"
  | 2 => .object "FeatherVotes$State"
  | 3 => .boolean
  | 4 => .object "FeatherVotes$Tape"
  | 5 => .array (.object "FeatherVotes$Sheet")
  | 6 => .object "FeatherVotes$Orders"
  | _ => .array .int
theorem nmX6 : ∀ a, a < 8 → ∀ b, b < 8 → a ≠ b → (TX6 a).2.1 ≠ (TX6 b).2.1 := by decide +kernel
theorem tyX6_ok : ∀ k, k < 8 → parseFieldDescriptor (TX6 k).2.2.1 = some (tyX6 k) := by decide +kernel
abbrev cX6_init : ByteArray := prog_1_method_1_code
def yX6_init : MethodName := ⟨RX6, "<init>", "()V"⟩
abbrev cX6_bird : ByteArray := prog_1_method_2_code
def yX6_bird : MethodName := ⟨RX6, "bird", "(I)I"⟩
abbrev cX6_of : ByteArray := prog_1_method_3_code
def yX6_of : MethodName := ⟨RX6, "of", "(II)I"⟩
abbrev cX6_change : ByteArray := prog_1_method_4_code
def yX6_change : MethodName := ⟨RX6, "change", "(III)I"⟩
abbrev cX6_motion : ByteArray := prog_1_method_5_code
def yX6_motion : MethodName := ⟨RX6, "motion", "(I)I"⟩
abbrev cX6_told : ByteArray := prog_1_method_6_code
def yX6_told : MethodName := ⟨RX6, "told", "(II)I"⟩
abbrev cX6_tell : ByteArray := prog_1_method_7_code
def yX6_tell : MethodName := ⟨RX6, "tell", "(III)I"⟩
abbrev cX6_drops : ByteArray := prog_1_method_8_code
def yX6_drops : MethodName := ⟨RX6, "drops", "(II)I"⟩
abbrev cX6_side : ByteArray := prog_1_method_9_code
def yX6_side : MethodName := ⟨RX6, "side", "(II)I"⟩
abbrev cX6_passes : ByteArray := prog_1_method_10_code
def yX6_passes : MethodName := ⟨RX6, "passes", "(I)I"⟩
abbrev cX6_vote : ByteArray := prog_1_method_11_code
def yX6_vote : MethodName := ⟨RX6, "vote", "(I)I"⟩
abbrev cX6_seasons : ByteArray := prog_1_method_12_code
def yX6_seasons : MethodName := ⟨RX6, "seasons", "(I)I"⟩
abbrev cX6_now : ByteArray := prog_1_method_13_code
def yX6_now : MethodName := ⟨RX6, "now", "(I)I"⟩
abbrev cX6_clears : ByteArray := prog_1_method_14_code
def yX6_clears : MethodName := ⟨RX6, "clears", "()I"⟩
abbrev cX6_when : ByteArray := prog_1_method_15_code
def yX6_when : MethodName := ⟨RX6, "when", "(I)I"⟩
abbrev cX6_flies : ByteArray := prog_1_method_16_code
def yX6_flies : MethodName := ⟨RX6, "flies", "(I)I"⟩
abbrev cX6_plucked : ByteArray := prog_1_method_17_code
def yX6_plucked : MethodName := ⟨RX6, "plucked", "(I)I"⟩
abbrev cX6_hinges : ByteArray := prog_1_method_18_code
def yX6_hinges : MethodName := ⟨RX6, "hinges", "(I)I"⟩
abbrev cX6_sets : ByteArray := prog_1_method_19_code
def yX6_sets : MethodName := ⟨RX6, "sets", "(I)I"⟩
abbrev cX6_power : ByteArray := prog_1_method_20_code
def yX6_power : MethodName := ⟨RX6, "power", "(II)I"⟩
abbrev cX6_won : ByteArray := prog_1_method_21_code
def yX6_won : MethodName := ⟨RX6, "won", "(I)I"⟩
abbrev cX6_colour : ByteArray := prog_1_method_22_code
def yX6_colour : MethodName := ⟨RX6, "colour", "(I)I"⟩
abbrev cX6_kindFor : ByteArray := prog_1_method_23_code
def yX6_kindFor : MethodName := ⟨RX6, "kindFor", "(I)I"⟩
abbrev cX6_quorum : ByteArray := prog_1_method_24_code
def yX6_quorum : MethodName := ⟨RX6, "quorum", "(I)I"⟩
abbrev cX6_agenda : ByteArray := prog_1_method_25_code
def yX6_agenda : MethodName := ⟨RX6, "agenda", "(I)I"⟩
abbrev cX6_ith : ByteArray := prog_1_method_26_code
def yX6_ith : MethodName := ⟨RX6, "ith", "(II)I"⟩
abbrev cX6_ways : ByteArray := prog_1_method_27_code
def yX6_ways : MethodName := ⟨RX6, "ways", "(I)I"⟩
abbrev cX6_left : ByteArray := prog_1_method_28_code
def yX6_left : MethodName := ⟨RX6, "left", "(I)I"⟩
abbrev cX6_wind : ByteArray := prog_1_method_29_code
def yX6_wind : MethodName := ⟨RX6, "wind", "(III)J"⟩
abbrev cX6_fits : ByteArray := prog_1_method_30_code
def yX6_fits : MethodName := ⟨RX6, "fits", "(I)I"⟩
abbrev cX6_stolen : ByteArray := prog_1_method_31_code
def yX6_stolen : MethodName := ⟨RX6, "stolen", "(II)I"⟩
abbrev cX6_years : ByteArray := prog_1_method_32_code
def yX6_years : MethodName := ⟨RX6, "years", "(I)I"⟩
abbrev cX6_seed : ByteArray := prog_1_method_33_code
def yX6_seed : MethodName := ⟨RX6, "seed", "(I)I"⟩
abbrev cX6_feed : ByteArray := prog_1_method_34_code
def yX6_feed : MethodName := ⟨RX6, "feed", "(II)I"⟩
abbrev cX6_wipe : ByteArray := prog_1_method_35_code
def yX6_wipe : MethodName := ⟨RX6, "wipe", "()I"⟩
abbrev cX6_text : ByteArray := prog_1_method_36_code
def yX6_text : MethodName := ⟨RX6, "text", "()I"⟩
abbrev cX6_hold : ByteArray := prog_1_method_37_code
def yX6_hold : MethodName := ⟨RX6, "hold", "(II)I"⟩
abbrev cX6_as : ByteArray := prog_1_method_38_code
def yX6_as : MethodName := ⟨RX6, "as", "(II)I"⟩
abbrev cX6_sheet : ByteArray := prog_1_method_39_code
def yX6_sheet : MethodName := ⟨RX6, "sheet", "(III)I"⟩
abbrev cX6_write : ByteArray := prog_1_method_40_code
def yX6_write : MethodName := ⟨RX6, "write", "(III)I"⟩
abbrev cX6_copy : ByteArray := prog_1_method_41_code
def yX6_copy : MethodName := ⟨RX6, "copy", "(IIIII)I"⟩
abbrev cX6_load : ByteArray := prog_1_method_42_code
def yX6_load : MethodName := ⟨RX6, "load", "(I)I"⟩
abbrev cX6_judge : ByteArray := prog_1_method_43_code
def yX6_judge : MethodName := ⟨RX6, "judge", "(I)I"⟩
abbrev cX6_image : ByteArray := prog_1_method_44_code
def yX6_image : MethodName := ⟨RX6, "image", "()I"⟩
abbrev cX6_undo : ByteArray := prog_1_method_45_code
def yX6_undo : MethodName := ⟨RX6, "undo", "()I"⟩
abbrev cX6_tear : ByteArray := prog_1_method_46_code
def yX6_tear : MethodName := ⟨RX6, "tear", "()I"⟩
abbrev cX6_count : ByteArray := prog_1_method_47_code
def yX6_count : MethodName := ⟨RX6, "count", "(I)I"⟩
abbrev cX6_status : ByteArray := prog_1_method_48_code
def yX6_status : MethodName := ⟨RX6, "status", "(I)I"⟩
abbrev cX6_finding : ByteArray := prog_1_method_49_code
def yX6_finding : MethodName := ⟨RX6, "finding", "(I)I"⟩
abbrev cX6_isUpTo : ByteArray := prog_1_method_50_code
def yX6_isUpTo : MethodName := ⟨RX6, "isUpTo", "(II)Z"⟩
abbrev cX6_isAgenda : ByteArray := prog_1_method_51_code
def yX6_isAgenda : MethodName := ⟨RX6, "isAgenda", "(I)Z"⟩
abbrev cX6_tryWants : ByteArray := prog_1_method_52_code
def yX6_tryWants : MethodName := ⟨RX6, "tryWants", "(II)Z"⟩
abbrev cX6_isRobbed : ByteArray := prog_1_method_53_code
def yX6_isRobbed : MethodName := ⟨RX6, "isRobbed", "(LFeatherVotes$Bird;ILFeatherVotes$Sheet;)Z"⟩
abbrev cX6_commonDivisor : ByteArray := prog_1_method_54_code
def yX6_commonDivisor : MethodName := ⟨RX6, "commonDivisor", "(II)I"⟩
abbrev cX6_powerOf : ByteArray := prog_1_method_55_code
def yX6_powerOf : MethodName := ⟨RX6, "powerOf", "(II)J"⟩
def RX7 : String := "FeatherVotesModel"
def TX7 : u_T := fun k => match k with
  | 0 => ("FeatherVotesModel", "s", "[I", true)
  | 1 => ("FeatherVotesModel", "kept", "[I", true)
  | 2 => ("FeatherVotesModel", "aside", "[I", true)
  | 3 => ("FeatherVotesModel", "isKept", "Z", false)
  | 4 => ("FeatherVotesModel", "found", "[I", true)
  | 5 => ("FeatherVotesModel", "dropped", "[I", true)
  | 6 => ("FeatherVotesModel", "order", "[I", true)
  | 7 => ("FeatherVotesModel", "best", "[I", true)
  | 8 => ("FeatherVotesModel", "bestMany", "I", false)
  | 9 => ("FeatherVotesModel", "bestWays", "I", false)
  | 10 => ("FeatherVotesModel", "bestLeft", "I", false)
  | 11 => ("FeatherVotesModel", "tape", "[I", true)
  | 12 => ("FeatherVotesModel", "taped", "I", false)
  | 13 => ("FeatherVotesModel", "token", "I", false)
  | 14 => ("FeatherVotesModel", "begun", "I", false)
  | 15 => ("FeatherVotesModel", "ended", "I", false)
  | 16 => ("FeatherVotesModel", "value", "J", false)
  | 17 => ("FeatherVotesModel", "letters", "[C", true)
  | 18 => ("FeatherVotesModel", "more1", "[C", true)
  | 19 => ("FeatherVotesModel", "others", "[C", true)
  | 20 => ("FeatherVotesModel", "more2", "[C", true)
  | 21 => ("FeatherVotesModel", "widths", "[I", true)
  | 22 => ("FeatherVotesModel", "sizes", "[I", true)
  | 23 => ("FeatherVotesModel", "cells", "[I", true)
  | _ => ("FeatherVotesModel", "carried", "[I", true)
def tyX7 : Nat → FieldType := fun k => match k with
  | 0 => .array .int
  | 1 => .array .int
  | 2 => .array .int
  | 3 => .boolean
  | 4 => .array .int
  | 5 => .array .int
  | 6 => .array .int
  | 7 => .array .int
  | 8 => .int
  | 9 => .int
  | 10 => .int
  | 11 => .array .int
  | 12 => .int
  | 13 => .int
  | 14 => .int
  | 15 => .int
  | 16 => .long
  | 17 => .array .char
  | 18 => .array .char
  | 19 => .array .char
  | 20 => .array .char
  | 21 => .array .int
  | 22 => .array .int
  | 23 => .array .int
  | _ => .array .int
theorem nmX7 : ∀ a, a < 25 → ∀ b, b < 25 → a ≠ b → (TX7 a).2.1 ≠ (TX7 b).2.1 := by decide +kernel
theorem tyX7_ok : ∀ k, k < 25 → parseFieldDescriptor (TX7 k).2.2.1 = some (tyX7 k) := by decide +kernel
abbrev cX7_init : ByteArray := prog_9_method_1_code
def yX7_init : MethodName := ⟨RX7, "<init>", "()V"⟩
abbrev cX7_no : ByteArray := prog_9_method_2_code
def yX7_no : MethodName := ⟨RX7, "no", "(I)I"⟩
abbrev cX7_in1 : ByteArray := prog_9_method_3_code
def yX7_in1 : MethodName := ⟨RX7, "in1", "(III)Z"⟩
abbrev cX7_less : ByteArray := prog_9_method_4_code
def yX7_less : MethodName := ⟨RX7, "less", "(II)I"⟩
abbrev cX7_bits : ByteArray := prog_9_method_5_code
def yX7_bits : MethodName := ⟨RX7, "bits", "(I)I"⟩
abbrev cX7_isIn : ByteArray := prog_9_method_6_code
def yX7_isIn : MethodName := ⟨RX7, "isIn", "(II)Z"⟩
abbrev cX7_isBird : ByteArray := prog_9_method_7_code
def yX7_isBird : MethodName := ⟨RX7, "isBird", "(I)Z"⟩
abbrev cX7_isMotion : ByteArray := prog_9_method_8_code
def yX7_isMotion : MethodName := ⟨RX7, "isMotion", "(I)Z"⟩
abbrev cX7_get : ByteArray := prog_9_method_9_code
def yX7_get : MethodName := ⟨RX7, "get", "(II)I"⟩
abbrev cX7_puts : ByteArray := prog_9_method_10_code
def yX7_puts : MethodName := ⟨RX7, "puts", "(III)V"⟩
abbrev cX7_of1 : ByteArray := prog_9_method_11_code
def yX7_of1 : MethodName := ⟨RX7, "of1", "(II)I"⟩
abbrev cX7_puts1 : ByteArray := prog_9_method_12_code
def yX7_puts1 : MethodName := ⟨RX7, "puts1", "(III)V"⟩
abbrev cX7_allBirds : ByteArray := prog_9_method_13_code
def yX7_allBirds : MethodName := ⟨RX7, "allBirds", "()I"⟩
abbrev cX7_setsAside : ByteArray := prog_9_method_14_code
def yX7_setsAside : MethodName := ⟨RX7, "setsAside", "()V"⟩
abbrev cX7_laysBack : ByteArray := prog_9_method_15_code
def yX7_laysBack : MethodName := ⟨RX7, "laysBack", "()V"⟩
abbrev cX7_feathers : ByteArray := prog_9_method_16_code
def yX7_feathers : MethodName := ⟨RX7, "feathers", "(I)I"⟩
abbrev cX7_allFeathers : ByteArray := prog_9_method_17_code
def yX7_allFeathers : MethodName := ⟨RX7, "allFeathers", "()I"⟩
abbrev cX7_doesFly : ByteArray := prog_9_method_18_code
def yX7_doesFly : MethodName := ⟨RX7, "doesFly", "(I)Z"⟩
abbrev cX7_flying : ByteArray := prog_9_method_19_code
def yX7_flying : MethodName := ⟨RX7, "flying", "()I"⟩
abbrev cX7_crowsBeside : ByteArray := prog_9_method_20_code
def yX7_crowsBeside : MethodName := ⟨RX7, "crowsBeside", "(II)I"⟩
abbrev cX7_dropsBy : ByteArray := prog_9_method_21_code
def yX7_dropsBy : MethodName := ⟨RX7, "dropsBy", "(III)I"⟩
abbrev cX7_sideBy : ByteArray := prog_9_method_22_code
def yX7_sideBy : MethodName := ⟨RX7, "sideBy", "(IIZ)I"⟩
abbrev cX7_passesBy : ByteArray := prog_9_method_23_code
def yX7_passesBy : MethodName := ⟨RX7, "passesBy", "(II)Z"⟩
abbrev cX7_passesNow : ByteArray := prog_9_method_24_code
def yX7_passesNow : MethodName := ⟨RX7, "passesNow", "(I)Z"⟩
abbrev cX7_droppedAll : ByteArray := prog_9_method_25_code
def yX7_droppedAll : MethodName := ⟨RX7, "droppedAll", "(I)I"⟩
abbrev cX7_comesEffect : ByteArray := prog_9_method_26_code
def yX7_comesEffect : MethodName := ⟨RX7, "comesEffect", "(I)V"⟩
abbrev cX7_votes : ByteArray := prog_9_method_27_code
def yX7_votes : MethodName := ⟨RX7, "votes", "(I)Z"⟩
abbrev cX7_goesSeason : ByteArray := prog_9_method_28_code
def yX7_goesSeason : MethodName := ⟨RX7, "goesSeason", "()V"⟩
abbrev cX7_addsBird : ByteArray := prog_9_method_29_code
def yX7_addsBird : MethodName := ⟨RX7, "addsBird", "(I)V"⟩
abbrev cX7_addsMotion : ByteArray := prog_9_method_30_code
def yX7_addsMotion : MethodName := ⟨RX7, "addsMotion", "(I)V"⟩
abbrev cX7_bird : ByteArray := prog_9_method_31_code
def yX7_bird : MethodName := ⟨RX7, "bird", "(I)I"⟩
abbrev cX7_of : ByteArray := prog_9_method_32_code
def yX7_of : MethodName := ⟨RX7, "of", "(II)I"⟩
abbrev cX7_change : ByteArray := prog_9_method_33_code
def yX7_change : MethodName := ⟨RX7, "change", "(III)I"⟩
abbrev cX7_motion : ByteArray := prog_9_method_34_code
def yX7_motion : MethodName := ⟨RX7, "motion", "(I)I"⟩
abbrev cX7_told : ByteArray := prog_9_method_35_code
def yX7_told : MethodName := ⟨RX7, "told", "(II)I"⟩
abbrev cX7_greatest : ByteArray := prog_9_method_36_code
def yX7_greatest : MethodName := ⟨RX7, "greatest", "(I)I"⟩
abbrev cX7_tell : ByteArray := prog_9_method_37_code
def yX7_tell : MethodName := ⟨RX7, "tell", "(III)I"⟩
abbrev cX7_drops : ByteArray := prog_9_method_38_code
def yX7_drops : MethodName := ⟨RX7, "drops", "(II)I"⟩
abbrev cX7_side : ByteArray := prog_9_method_39_code
def yX7_side : MethodName := ⟨RX7, "side", "(II)I"⟩
abbrev cX7_passes : ByteArray := prog_9_method_40_code
def yX7_passes : MethodName := ⟨RX7, "passes", "(I)I"⟩
abbrev cX7_vote : ByteArray := prog_9_method_41_code
def yX7_vote : MethodName := ⟨RX7, "vote", "(I)I"⟩
abbrev cX7_seasons : ByteArray := prog_9_method_42_code
def yX7_seasons : MethodName := ⟨RX7, "seasons", "(I)I"⟩
abbrev cX7_laws : ByteArray := prog_9_method_43_code
def yX7_laws : MethodName := ⟨RX7, "laws", "()I"⟩
abbrev cX7_now : ByteArray := prog_9_method_44_code
def yX7_now : MethodName := ⟨RX7, "now", "(I)I"⟩
abbrev cX7_clears : ByteArray := prog_9_method_45_code
def yX7_clears : MethodName := ⟨RX7, "clears", "()I"⟩
abbrev cX7_when : ByteArray := prog_9_method_46_code
def yX7_when : MethodName := ⟨RX7, "when", "(I)I"⟩
abbrev cX7_flies : ByteArray := prog_9_method_47_code
def yX7_flies : MethodName := ⟨RX7, "flies", "(I)I"⟩
abbrev cX7_plucked : ByteArray := prog_9_method_48_code
def yX7_plucked : MethodName := ⟨RX7, "plucked", "(I)I"⟩
abbrev cX7_hinges : ByteArray := prog_9_method_49_code
def yX7_hinges : MethodName := ⟨RX7, "hinges", "(I)I"⟩
abbrev cX7_sets : ByteArray := prog_9_method_50_code
def yX7_sets : MethodName := ⟨RX7, "sets", "(I)I"⟩
abbrev cX7_power : ByteArray := prog_9_method_51_code
def yX7_power : MethodName := ⟨RX7, "power", "(II)I"⟩
abbrev cX7_won : ByteArray := prog_9_method_52_code
def yX7_won : MethodName := ⟨RX7, "won", "(I)I"⟩
abbrev cX7_colour : ByteArray := prog_9_method_53_code
def yX7_colour : MethodName := ⟨RX7, "colour", "(I)I"⟩
abbrev cX7_kindFor : ByteArray := prog_9_method_54_code
def yX7_kindFor : MethodName := ⟨RX7, "kindFor", "(I)I"⟩
abbrev cX7_quorum : ByteArray := prog_9_method_55_code
def yX7_quorum : MethodName := ⟨RX7, "quorum", "(I)I"⟩
abbrev cX7_isSet : ByteArray := prog_9_method_56_code
def yX7_isSet : MethodName := ⟨RX7, "isSet", "(I)Z"⟩
abbrev cX7_laysOrder : ByteArray := prog_9_method_57_code
def yX7_laysOrder : MethodName := ⟨RX7, "laysOrder", "(I)I"⟩
abbrev cX7_nextOrder : ByteArray := prog_9_method_58_code
def yX7_nextOrder : MethodName := ⟨RX7, "nextOrder", "(I)Z"⟩
abbrev cX7_swaps : ByteArray := prog_9_method_59_code
def yX7_swaps : MethodName := ⟨RX7, "swaps", "(II)V"⟩
abbrev cX7_findsOrder : ByteArray := prog_9_method_60_code
def yX7_findsOrder : MethodName := ⟨RX7, "findsOrder", "(I)V"⟩
abbrev cX7_agenda : ByteArray := prog_9_method_61_code
def yX7_agenda : MethodName := ⟨RX7, "agenda", "(I)I"⟩
abbrev cX7_ith : ByteArray := prog_9_method_62_code
def yX7_ith : MethodName := ⟨RX7, "ith", "(II)I"⟩
abbrev cX7_ways : ByteArray := prog_9_method_63_code
def yX7_ways : MethodName := ⟨RX7, "ways", "(I)I"⟩
abbrev cX7_left : ByteArray := prog_9_method_64_code
def yX7_left : MethodName := ⟨RX7, "left", "(I)I"⟩
abbrev cX7_power1 : ByteArray := prog_9_method_65_code
def yX7_power1 : MethodName := ⟨RX7, "power1", "(JI)J"⟩
abbrev cX7_wind : ByteArray := prog_9_method_66_code
def yX7_wind : MethodName := ⟨RX7, "wind", "(III)J"⟩
abbrev cX7_isSheet : ByteArray := prog_9_method_67_code
def yX7_isSheet : MethodName := ⟨RX7, "isSheet", "(I)Z"⟩
abbrev cX7_wrongSheet : ByteArray := prog_9_method_68_code
def yX7_wrongSheet : MethodName := ⟨RX7, "wrongSheet", "(I)I"⟩
abbrev cX7_isTold : ByteArray := prog_9_method_69_code
def yX7_isTold : MethodName := ⟨RX7, "isTold", "(III)Z"⟩
abbrev cX7_fits : ByteArray := prog_9_method_70_code
def yX7_fits : MethodName := ⟨RX7, "fits", "(I)I"⟩
abbrev cX7_stolen : ByteArray := prog_9_method_71_code
def yX7_stolen : MethodName := ⟨RX7, "stolen", "(II)I"⟩
abbrev cX7_draw : ByteArray := prog_9_method_72_code
def yX7_draw : MethodName := ⟨RX7, "draw", "()I"⟩
abbrev cX7_years : ByteArray := prog_9_method_73_code
def yX7_years : MethodName := ⟨RX7, "years", "(I)I"⟩
abbrev cX7_seed : ByteArray := prog_9_method_74_code
def yX7_seed : MethodName := ⟨RX7, "seed", "(I)I"⟩
abbrev cX7_feed : ByteArray := prog_9_method_75_code
def yX7_feed : MethodName := ⟨RX7, "feed", "(II)I"⟩
abbrev cX7_wipe : ByteArray := prog_9_method_76_code
def yX7_wipe : MethodName := ⟨RX7, "wipe", "()I"⟩
abbrev cX7_isLetter : ByteArray := prog_9_method_77_code
def yX7_isLetter : MethodName := ⟨RX7, "isLetter", "(I)Z"⟩
abbrev cX7_isDigit : ByteArray := prog_9_method_78_code
def yX7_isDigit : MethodName := ⟨RX7, "isDigit", "(I)Z"⟩
abbrev cX7_nextToken : ByteArray := prog_9_method_79_code
def yX7_nextToken : MethodName := ⟨RX7, "nextToken", "()V"⟩
abbrev cX7_wordOf : ByteArray := prog_9_method_80_code
def yX7_wordOf : MethodName := ⟨RX7, "wordOf", "([C)I"⟩
abbrev cX7_takesNumber : ByteArray := prog_9_method_81_code
def yX7_takesNumber : MethodName := ⟨RX7, "takesNumber", "(II)I"⟩
abbrev cX7_readsBird : ByteArray := prog_9_method_82_code
def yX7_readsBird : MethodName := ⟨RX7, "readsBird", "(I)Z"⟩
abbrev cX7_readsMotion : ByteArray := prog_9_method_83_code
def yX7_readsMotion : MethodName := ⟨RX7, "readsMotion", "()Z"⟩
abbrev cX7_readsItem : ByteArray := prog_9_method_84_code
def yX7_readsItem : MethodName := ⟨RX7, "readsItem", "()Z"⟩
abbrev cX7_text : ByteArray := prog_9_method_85_code
def yX7_text : MethodName := ⟨RX7, "text", "()I"⟩
abbrev cX7_isSpot : ByteArray := prog_9_method_86_code
def yX7_isSpot : MethodName := ⟨RX7, "isSpot", "(I)Z"⟩
abbrev cX7_hold : ByteArray := prog_9_method_87_code
def yX7_hold : MethodName := ⟨RX7, "hold", "(II)I"⟩
abbrev cX7_above : ByteArray := prog_9_method_88_code
def yX7_above : MethodName := ⟨RX7, "above", "(I)I"⟩
abbrev cX7_as : ByteArray := prog_9_method_89_code
def yX7_as : MethodName := ⟨RX7, "as", "(II)I"⟩
abbrev cX7_sheet : ByteArray := prog_9_method_90_code
def yX7_sheet : MethodName := ⟨RX7, "sheet", "(III)I"⟩
abbrev cX7_write : ByteArray := prog_9_method_91_code
def yX7_write : MethodName := ⟨RX7, "write", "(III)I"⟩
abbrev cX7_copy : ByteArray := prog_9_method_92_code
def yX7_copy : MethodName := ⟨RX7, "copy", "(IIIII)I"⟩
abbrev cX7_load : ByteArray := prog_9_method_93_code
def yX7_load : MethodName := ⟨RX7, "load", "(I)I"⟩
abbrev cX7_judge : ByteArray := prog_9_method_94_code
def yX7_judge : MethodName := ⟨RX7, "judge", "(I)I"⟩
abbrev cX7_image : ByteArray := prog_9_method_95_code
def yX7_image : MethodName := ⟨RX7, "image", "()I"⟩
abbrev cX7_undo : ByteArray := prog_9_method_96_code
def yX7_undo : MethodName := ⟨RX7, "undo", "()I"⟩
abbrev cX7_tear : ByteArray := prog_9_method_97_code
def yX7_tear : MethodName := ⟨RX7, "tear", "()I"⟩
abbrev cX7_count : ByteArray := prog_9_method_98_code
def yX7_count : MethodName := ⟨RX7, "count", "(I)I"⟩
abbrev cX7_status : ByteArray := prog_9_method_99_code
def yX7_status : MethodName := ⟨RX7, "status", "(I)I"⟩
def RJx145de : String := "java/io/Serializable"
def TJx145de : u_T := fun k => match k with
  | _ => ("", "", "", false)
def RJx9f9b0 : String := "java/lang/CharSequence"
def TJx9f9b0 : u_T := fun k => match k with
  | _ => ("", "", "", false)
def RJxb160c : String := "java/lang/Comparable"
def TJxb160c : u_T := fun k => match k with
  | _ => ("", "", "", false)
def RJ6 : String := "java/lang/Integer"
def TJ6 : u_T := fun k => match k with
  | _ => ("", "", "", false)
def tyJ6 : Nat → FieldType := fun k => match k with
  | _ => .int
theorem nmJ6 : ∀ a, a < 0 → ∀ b, b < 0 → a ≠ b → (TJ6 a).2.1 ≠ (TJ6 b).2.1 := by decide +kernel
theorem tyJ6_ok : ∀ k, k < 0 → parseFieldDescriptor (TJ6 k).2.2.1 = some (tyJ6 k) := by decide +kernel
abbrev cJ6_bitCount_0f7a4 : ByteArray := prog_10_method_49_code
def yJ6_bitCount_0f7a4 : MethodName := ⟨RJ6, "bitCount", "(I)I"⟩
def RJ9 : String := "java/lang/Math"
def TJ9 : u_T := fun k => match k with
  | _ => ("", "", "", false)
def tyJ9 : Nat → FieldType := fun k => match k with
  | _ => .int
theorem nmJ9 : ∀ a, a < 0 → ∀ b, b < 0 → a ≠ b → (TJ9 a).2.1 ≠ (TJ9 b).2.1 := by decide +kernel
theorem tyJ9_ok : ∀ k, k < 0 → parseFieldDescriptor (TJ9 k).2.2.1 = some (tyJ9 k) := by decide +kernel
abbrev cJ9_max_7cf53 : ByteArray := prog_11_method_65_code
def yJ9_max_7cf53 : MethodName := ⟨RJ9, "max", "(II)I"⟩
abbrev cJ9_min_7cf53 : ByteArray := prog_11_method_69_code
def yJ9_min_7cf53 : MethodName := ⟨RJ9, "min", "(II)I"⟩
def RJ0 : String := "java/lang/String"
def TJ0 : u_T := fun k => match k with
  | _ => ("", "", "", false)
def tyJ0 : Nat → FieldType := fun k => match k with
  | _ => .int
theorem nmJ0 : ∀ a, a < 0 → ∀ b, b < 0 → a ≠ b → (TJ0 a).2.1 ≠ (TJ0 b).2.1 := by decide +kernel
theorem tyJ0_ok : ∀ k, k < 0 → parseFieldDescriptor (TJ0 k).2.2.1 = some (tyJ0 k) := by decide +kernel
abbrev cJ0_length_8abf5 : ByteArray := prog_12_method_54_code
def yJ0_length_8abf5 : MethodName := ⟨RJ0, "length", "()I"⟩
abbrev cJ0_charAt_5068e : ByteArray := prog_12_method_56_code
def yJ0_charAt_5068e : MethodName := ⟨RJ0, "charAt", "(I)C"⟩
abbrev cJ0_coder_7d493 : ByteArray := prog_12_method_152_code
def yJ0_coder_7d493 : MethodName := ⟨RJ0, "coder", "()B"⟩
abbrev cJ0_isLatin1_aae02 : ByteArray := prog_12_method_154_code
def yJ0_isLatin1_aae02 : MethodName := ⟨RJ0, "isLatin1", "()Z"⟩
abbrev cJ0_checkIndex_df160 : ByteArray := prog_12_method_155_code
def yJ0_checkIndex_df160 : MethodName := ⟨RJ0, "checkIndex", "(II)V"⟩
def RJ1 : String := "java/lang/StringLatin1"
def TJ1 : u_T := fun k => match k with
  | _ => ("", "", "", false)
def tyJ1 : Nat → FieldType := fun k => match k with
  | _ => .int
theorem nmJ1 : ∀ a, a < 0 → ∀ b, b < 0 → a ≠ b → (TJ1 a).2.1 ≠ (TJ1 b).2.1 := by decide +kernel
theorem tyJ1_ok : ∀ k, k < 0 → parseFieldDescriptor (TJ1 k).2.2.1 = some (tyJ1 k) := by decide +kernel
abbrev cJ1_charAt_3b067 : ByteArray := prog_13_method_2_code
def yJ1_charAt_3b067 : MethodName := ⟨RJ1, "charAt", "([BI)C"⟩
def RJ2 : String := "java/lang/StringUTF16"
def TJ2 : u_T := fun k => match k with
  | _ => ("", "", "", false)
def tyJ2 : Nat → FieldType := fun k => match k with
  | _ => .int
theorem nmJ2 : ∀ a, a < 0 → ∀ b, b < 0 → a ≠ b → (TJ2 a).2.1 ≠ (TJ2 b).2.1 := by decide +kernel
theorem tyJ2_ok : ∀ k, k < 0 → parseFieldDescriptor (TJ2 k).2.2.1 = some (tyJ2 k) := by decide +kernel
abbrev cJ2_getChar_3b067 : ByteArray := prog_14_method_5_code
def yJ2_getChar_3b067 : MethodName := ⟨RJ2, "getChar", "([BI)C"⟩
abbrev cJ2_length_9d52b : ByteArray := prog_14_method_6_code
def yJ2_length_9d52b : MethodName := ⟨RJ2, "length", "([B)I"⟩
abbrev cJ2_charAt_3b067 : ByteArray := prog_14_method_83_code
def yJ2_charAt_3b067 : MethodName := ⟨RJ2, "charAt", "([BI)C"⟩
abbrev cJ2_checkIndex_2214a : ByteArray := prog_14_method_91_code
def yJ2_checkIndex_2214a : MethodName := ⟨RJ2, "checkIndex", "(I[B)V"⟩
def RJ10 : String := "java/lang/System"
def TJ10 : u_T := fun k => match k with
  | _ => ("", "", "", false)
def tyJ10 : Nat → FieldType := fun k => match k with
  | _ => .int
theorem nmJ10 : ∀ a, a < 0 → ∀ b, b < 0 → a ≠ b → (TJ10 a).2.1 ≠ (TJ10 b).2.1 := by decide +kernel
theorem tyJ10_ok : ∀ k, k < 0 → parseFieldDescriptor (TJ10 k).2.2.1 = some (tyJ10 k) := by decide +kernel
def RJxfd54e : String := "java/lang/constant/Constable"
def TJxfd54e : u_T := fun k => match k with
  | _ => ("", "", "", false)
def RJx3cf43 : String := "java/lang/constant/ConstantDesc"
def TJx3cf43 : u_T := fun k => match k with
  | _ => ("", "", "", false)
def RJ7 : String := "java/util/Arrays"
def TJ7 : u_T := fun k => match k with
  | _ => ("", "", "", false)
def tyJ7 : Nat → FieldType := fun k => match k with
  | _ => .int
theorem nmJ7 : ∀ a, a < 0 → ∀ b, b < 0 → a ≠ b → (TJ7 a).2.1 ≠ (TJ7 b).2.1 := by decide +kernel
theorem tyJ7_ok : ∀ k, k < 0 → parseFieldDescriptor (TJ7 k).2.2.1 = some (tyJ7 k) := by decide +kernel
abbrev cJ7_fill_53178 : ByteArray := prog_16_method_103_code
def yJ7_fill_53178 : MethodName := ⟨RJ7, "fill", "([II)V"⟩
def RJ3 : String := "jdk/internal/util/Preconditions"
def TJ3 : u_T := fun k => match k with
  | _ => ("", "", "", false)
def tyJ3 : Nat → FieldType := fun k => match k with
  | _ => .int
theorem nmJ3 : ∀ a, a < 0 → ∀ b, b < 0 → a ≠ b → (TJ3 a).2.1 ≠ (TJ3 b).2.1 := by decide +kernel
theorem tyJ3_ok : ∀ k, k < 0 → parseFieldDescriptor (TJ3 k).2.2.1 = some (tyJ3 k) := by decide +kernel
abbrev cJ3_checkIndex_8e157 : ByteArray := prog_17_method_11_code
def yJ3_checkIndex_8e157 : MethodName := ⟨RJ3, "checkIndex", "(IILjava/util/function/BiFunction;)I"⟩
def RL : String := "FeatherVotesLaw"
abbrev cL_law : ByteArray := code
def yL_law : MethodName := ⟨RL, "law", "([I)Z"⟩
abbrev vwCl : List vw_C := [(RX0, TX0, 4), (RX1, TX1, 5), (RX2, TX2, 6), (RX3, TX3, 3), (RX4, TX4, 8), (RX5, TX5, 7), (RX6, TX6, 8), (RX7, TX7, 25)]
end
section
theorem dX0_init_0 : decode cX0_init 0 = .ok (.aload_n 0, 1) := by decide +kernel
theorem dX0_init_1 : decode cX0_init 1 = .ok (.invokespecial 3, 3) := by decide +kernel
theorem dX0_init_4 : decode cX0_init 4 = .ok (.aload_n 0, 1) := by decide +kernel
theorem dX0_init_5 : decode cX0_init 5 = .ok (.iconst 4, 1) := by decide +kernel
theorem dX0_init_6 : decode cX0_init 6 = .ok (.newarray .int, 2) := by decide +kernel
theorem dX0_init_8 : decode cX0_init 8 = .ok (.putfield 9, 3) := by decide +kernel
theorem dX0_init_11 : decode cX0_init 11 = .ok (.return_, 1) := by decide +kernel
theorem dX0_hatch_0 : decode cX0_hatch 0 = .ok (.aload_n 0, 1) := by decide +kernel
theorem dX0_hatch_1 : decode cX0_hatch 1 = .ok (.iload_n 1, 1) := by decide +kernel
theorem dX0_hatch_2 : decode cX0_hatch 2 = .ok (.putfield 15, 3) := by decide +kernel
theorem dX0_hatch_5 : decode cX0_hatch 5 = .ok (.aload_n 0, 1) := by decide +kernel
theorem dX0_hatch_6 : decode cX0_hatch 6 = .ok (.iconst 2, 1) := by decide +kernel
theorem dX0_hatch_7 : decode cX0_hatch 7 = .ok (.putfield 19, 3) := by decide +kernel
theorem dX0_hatch_10 : decode cX0_hatch 10 = .ok (.aload_n 0, 1) := by decide +kernel
theorem dX0_hatch_11 : decode cX0_hatch 11 = .ok (.iconst 1, 1) := by decide +kernel
theorem dX0_hatch_12 : decode cX0_hatch 12 = .ok (.putfield 22, 3) := by decide +kernel
theorem dX0_hatch_15 : decode cX0_hatch 15 = .ok (.aload_n 0, 1) := by decide +kernel
theorem dX0_hatch_16 : decode cX0_hatch 16 = .ok (.getfield 9, 3) := by decide +kernel
theorem dX0_hatch_19 : decode cX0_hatch 19 = .ok (.iconst 0, 1) := by decide +kernel
theorem dX0_hatch_20 : decode cX0_hatch 20 = .ok (.invokestatic 25, 3) := by decide +kernel
theorem dX0_hatch_23 : decode cX0_hatch 23 = .ok (.return_, 1) := by decide +kernel
theorem dX0_become_0 : decode cX0_become 0 = .ok (.aload_n 0, 1) := by decide +kernel
theorem dX0_become_1 : decode cX0_become 1 = .ok (.aload_n 1, 1) := by decide +kernel
theorem dX0_become_2 : decode cX0_become 2 = .ok (.getfield 15, 3) := by decide +kernel
theorem dX0_become_5 : decode cX0_become 5 = .ok (.putfield 15, 3) := by decide +kernel
theorem dX0_become_8 : decode cX0_become 8 = .ok (.aload_n 0, 1) := by decide +kernel
theorem dX0_become_9 : decode cX0_become 9 = .ok (.aload_n 1, 1) := by decide +kernel
theorem dX0_become_10 : decode cX0_become 10 = .ok (.getfield 19, 3) := by decide +kernel
theorem dX0_become_13 : decode cX0_become 13 = .ok (.putfield 19, 3) := by decide +kernel
theorem dX0_become_16 : decode cX0_become 16 = .ok (.aload_n 0, 1) := by decide +kernel
theorem dX0_become_17 : decode cX0_become 17 = .ok (.aload_n 1, 1) := by decide +kernel
theorem dX0_become_18 : decode cX0_become 18 = .ok (.getfield 22, 3) := by decide +kernel
theorem dX0_become_21 : decode cX0_become 21 = .ok (.putfield 22, 3) := by decide +kernel
theorem dX0_become_24 : decode cX0_become 24 = .ok (.aload_n 1, 1) := by decide +kernel
theorem dX0_become_25 : decode cX0_become 25 = .ok (.getfield 9, 3) := by decide +kernel
theorem dX0_become_28 : decode cX0_become 28 = .ok (.iconst 0, 1) := by decide +kernel
theorem dX0_become_29 : decode cX0_become 29 = .ok (.aload_n 0, 1) := by decide +kernel
theorem dX0_become_30 : decode cX0_become 30 = .ok (.getfield 9, 3) := by decide +kernel
theorem dX0_become_33 : decode cX0_become 33 = .ok (.iconst 0, 1) := by decide +kernel
theorem dX0_become_34 : decode cX0_become 34 = .ok (.iconst 4, 1) := by decide +kernel
theorem dX0_become_35 : decode cX0_become 35 = .ok (.invokestatic 31, 3) := by decide +kernel
theorem dX0_become_38 : decode cX0_become 38 = .ok (.return_, 1) := by decide +kernel
theorem dX0_mostOf_0 : decode cX0_mostOf 0 = .ok (.iload_n 0, 1) := by decide +kernel
theorem dX0_mostOf_1 : decode cX0_mostOf 1 = .ok (.tableswitch 36 0 2 #[27, 30, 33], 27) := by decide +kernel
theorem dX0_mostOf_28 : decode cX0_mostOf 28 = .ok (.bipush 6, 2) := by decide +kernel
theorem dX0_mostOf_30 : decode cX0_mostOf 30 = .ok (.ireturn, 1) := by decide +kernel
theorem dX0_mostOf_31 : decode cX0_mostOf 31 = .ok (.bipush 99, 2) := by decide +kernel
theorem dX0_mostOf_33 : decode cX0_mostOf 33 = .ok (.ireturn, 1) := by decide +kernel
theorem dX0_mostOf_34 : decode cX0_mostOf 34 = .ok (.bipush 9, 2) := by decide +kernel
theorem dX0_mostOf_36 : decode cX0_mostOf 36 = .ok (.ireturn, 1) := by decide +kernel
theorem dX0_mostOf_37 : decode cX0_mostOf 37 = .ok (.bipush 99, 2) := by decide +kernel
theorem dX0_mostOf_39 : decode cX0_mostOf 39 = .ok (.ireturn, 1) := by decide +kernel
theorem dX0_feature_0 : decode cX0_feature 0 = .ok (.iload_n 1, 1) := by decide +kernel
theorem dX0_feature_1 : decode cX0_feature 1 = .ok (.tableswitch 84 0 8 #[51, 56, 61, 84, 84, 84, 84, 66, 71], 51) := by decide +kernel
theorem dX0_feature_52 : decode cX0_feature 52 = .ok (.aload_n 0, 1) := by decide +kernel
theorem dX0_feature_53 : decode cX0_feature 53 = .ok (.getfield 15, 3) := by decide +kernel
theorem dX0_feature_56 : decode cX0_feature 56 = .ok (.ireturn, 1) := by decide +kernel
theorem dX0_feature_57 : decode cX0_feature 57 = .ok (.aload_n 0, 1) := by decide +kernel
theorem dX0_feature_58 : decode cX0_feature 58 = .ok (.getfield 19, 3) := by decide +kernel
theorem dX0_feature_61 : decode cX0_feature 61 = .ok (.ireturn, 1) := by decide +kernel
theorem dX0_feature_62 : decode cX0_feature 62 = .ok (.aload_n 0, 1) := by decide +kernel
theorem dX0_feature_63 : decode cX0_feature 63 = .ok (.getfield 22, 3) := by decide +kernel
theorem dX0_feature_66 : decode cX0_feature 66 = .ok (.ireturn, 1) := by decide +kernel
theorem dX0_feature_67 : decode cX0_feature 67 = .ok (.aload_n 0, 1) := by decide +kernel
theorem dX0_feature_68 : decode cX0_feature 68 = .ok (.invokevirtual 37, 3) := by decide +kernel
theorem dX0_feature_71 : decode cX0_feature 71 = .ok (.ireturn, 1) := by decide +kernel
theorem dX0_feature_72 : decode cX0_feature 72 = .ok (.aload_n 0, 1) := by decide +kernel
theorem dX0_feature_73 : decode cX0_feature 73 = .ok (.invokevirtual 41, 3) := by decide +kernel
theorem dX0_feature_76 : decode cX0_feature 76 = .ok (.ifCond .eq 7, 3) := by decide +kernel
theorem dX0_feature_79 : decode cX0_feature 79 = .ok (.iconst 1, 1) := by decide +kernel
theorem dX0_feature_80 : decode cX0_feature 80 = .ok (.goto 4, 3) := by decide +kernel
theorem dX0_feature_83 : decode cX0_feature 83 = .ok (.iconst 0, 1) := by decide +kernel
theorem dX0_feature_84 : decode cX0_feature 84 = .ok (.ireturn, 1) := by decide +kernel
theorem dX0_feature_85 : decode cX0_feature 85 = .ok (.iload_n 1, 1) := by decide +kernel
theorem dX0_feature_86 : decode cX0_feature 86 = .ok (.iconst 3, 1) := by decide +kernel
theorem dX0_feature_87 : decode cX0_feature 87 = .ok (.isub, 1) := by decide +kernel
theorem dX0_feature_88 : decode cX0_feature 88 = .ok (.istore_n 2, 1) := by decide +kernel
theorem dX0_feature_89 : decode cX0_feature 89 = .ok (.iload_n 2, 1) := by decide +kernel
theorem dX0_feature_90 : decode cX0_feature 90 = .ok (.iconst 3, 1) := by decide +kernel
theorem dX0_feature_91 : decode cX0_feature 91 = .ok (.invokestatic 45, 3) := by decide +kernel
theorem dX0_feature_94 : decode cX0_feature 94 = .ok (.ifCond .eq 12, 3) := by decide +kernel
theorem dX0_feature_97 : decode cX0_feature 97 = .ok (.aload_n 0, 1) := by decide +kernel
theorem dX0_feature_98 : decode cX0_feature 98 = .ok (.getfield 9, 3) := by decide +kernel
theorem dX0_feature_101 : decode cX0_feature 101 = .ok (.iload_n 2, 1) := by decide +kernel
theorem dX0_feature_102 : decode cX0_feature 102 = .ok (.iaload, 1) := by decide +kernel
theorem dX0_feature_103 : decode cX0_feature 103 = .ok (.goto 4, 3) := by decide +kernel
theorem dX0_feature_106 : decode cX0_feature 106 = .ok (.iconst 0, 1) := by decide +kernel
theorem dX0_feature_107 : decode cX0_feature 107 = .ok (.ireturn, 1) := by decide +kernel
theorem dX0_setFeature_0 : decode cX0_setFeature 0 = .ok (.iload_n 1, 1) := by decide +kernel
theorem dX0_setFeature_1 : decode cX0_setFeature 1 = .ok (.iconst 3, 1) := by decide +kernel
theorem dX0_setFeature_2 : decode cX0_setFeature 2 = .ok (.isub, 1) := by decide +kernel
theorem dX0_setFeature_3 : decode cX0_setFeature 3 = .ok (.istore_n 3, 1) := by decide +kernel
theorem dX0_setFeature_4 : decode cX0_setFeature 4 = .ok (.iload_n 1, 1) := by decide +kernel
theorem dX0_setFeature_5 : decode cX0_setFeature 5 = .ok (.ifCond .ne 11, 3) := by decide +kernel
theorem dX0_setFeature_8 : decode cX0_setFeature 8 = .ok (.aload_n 0, 1) := by decide +kernel
theorem dX0_setFeature_9 : decode cX0_setFeature 9 = .ok (.iload_n 2, 1) := by decide +kernel
theorem dX0_setFeature_10 : decode cX0_setFeature 10 = .ok (.putfield 15, 3) := by decide +kernel
theorem dX0_setFeature_13 : decode cX0_setFeature 13 = .ok (.goto 44, 3) := by decide +kernel
theorem dX0_setFeature_16 : decode cX0_setFeature 16 = .ok (.iload_n 1, 1) := by decide +kernel
theorem dX0_setFeature_17 : decode cX0_setFeature 17 = .ok (.iconst 1, 1) := by decide +kernel
theorem dX0_setFeature_18 : decode cX0_setFeature 18 = .ok (.if_icmp .ne 11, 3) := by decide +kernel
theorem dX0_setFeature_21 : decode cX0_setFeature 21 = .ok (.aload_n 0, 1) := by decide +kernel
theorem dX0_setFeature_22 : decode cX0_setFeature 22 = .ok (.iload_n 2, 1) := by decide +kernel
theorem dX0_setFeature_23 : decode cX0_setFeature 23 = .ok (.putfield 19, 3) := by decide +kernel
theorem dX0_setFeature_26 : decode cX0_setFeature 26 = .ok (.goto 31, 3) := by decide +kernel
theorem dX0_setFeature_29 : decode cX0_setFeature 29 = .ok (.iload_n 1, 1) := by decide +kernel
theorem dX0_setFeature_30 : decode cX0_setFeature 30 = .ok (.iconst 2, 1) := by decide +kernel
theorem dX0_setFeature_31 : decode cX0_setFeature 31 = .ok (.if_icmp .ne 11, 3) := by decide +kernel
theorem dX0_setFeature_34 : decode cX0_setFeature 34 = .ok (.aload_n 0, 1) := by decide +kernel
theorem dX0_setFeature_35 : decode cX0_setFeature 35 = .ok (.iload_n 2, 1) := by decide +kernel
theorem dX0_setFeature_36 : decode cX0_setFeature 36 = .ok (.putfield 22, 3) := by decide +kernel
theorem dX0_setFeature_39 : decode cX0_setFeature 39 = .ok (.goto 18, 3) := by decide +kernel
theorem dX0_setFeature_42 : decode cX0_setFeature 42 = .ok (.iload_n 3, 1) := by decide +kernel
theorem dX0_setFeature_43 : decode cX0_setFeature 43 = .ok (.iconst 3, 1) := by decide +kernel
theorem dX0_setFeature_44 : decode cX0_setFeature 44 = .ok (.invokestatic 45, 3) := by decide +kernel
theorem dX0_setFeature_47 : decode cX0_setFeature 47 = .ok (.ifCond .eq 10, 3) := by decide +kernel
theorem dX0_setFeature_50 : decode cX0_setFeature 50 = .ok (.aload_n 0, 1) := by decide +kernel
theorem dX0_setFeature_51 : decode cX0_setFeature 51 = .ok (.getfield 9, 3) := by decide +kernel
theorem dX0_setFeature_54 : decode cX0_setFeature 54 = .ok (.iload_n 3, 1) := by decide +kernel
theorem dX0_setFeature_55 : decode cX0_setFeature 55 = .ok (.iload_n 2, 1) := by decide +kernel
theorem dX0_setFeature_56 : decode cX0_setFeature 56 = .ok (.iastore, 1) := by decide +kernel
theorem dX0_setFeature_57 : decode cX0_setFeature 57 = .ok (.return_, 1) := by decide +kernel
theorem dX0_allFeathers_0 : decode cX0_allFeathers 0 = .ok (.iconst 0, 1) := by decide +kernel
theorem dX0_allFeathers_1 : decode cX0_allFeathers 1 = .ok (.istore_n 1, 1) := by decide +kernel
theorem dX0_allFeathers_2 : decode cX0_allFeathers 2 = .ok (.iconst 0, 1) := by decide +kernel
theorem dX0_allFeathers_3 : decode cX0_allFeathers 3 = .ok (.istore_n 2, 1) := by decide +kernel
theorem dX0_allFeathers_4 : decode cX0_allFeathers 4 = .ok (.iload_n 2, 1) := by decide +kernel
theorem dX0_allFeathers_5 : decode cX0_allFeathers 5 = .ok (.iconst 4, 1) := by decide +kernel
theorem dX0_allFeathers_6 : decode cX0_allFeathers 6 = .ok (.if_icmp .ge 18, 3) := by decide +kernel
theorem dX0_allFeathers_9 : decode cX0_allFeathers 9 = .ok (.iload_n 1, 1) := by decide +kernel
theorem dX0_allFeathers_10 : decode cX0_allFeathers 10 = .ok (.aload_n 0, 1) := by decide +kernel
theorem dX0_allFeathers_11 : decode cX0_allFeathers 11 = .ok (.getfield 9, 3) := by decide +kernel
theorem dX0_allFeathers_14 : decode cX0_allFeathers 14 = .ok (.iload_n 2, 1) := by decide +kernel
theorem dX0_allFeathers_15 : decode cX0_allFeathers 15 = .ok (.iaload, 1) := by decide +kernel
theorem dX0_allFeathers_16 : decode cX0_allFeathers 16 = .ok (.iadd, 1) := by decide +kernel
theorem dX0_allFeathers_17 : decode cX0_allFeathers 17 = .ok (.istore_n 1, 1) := by decide +kernel
theorem dX0_allFeathers_18 : decode cX0_allFeathers 18 = .ok (.iinc 2 1, 3) := by decide +kernel
theorem dX0_allFeathers_21 : decode cX0_allFeathers 21 = .ok (.goto (-17), 3) := by decide +kernel
theorem dX0_allFeathers_24 : decode cX0_allFeathers 24 = .ok (.iload_n 1, 1) := by decide +kernel
theorem dX0_allFeathers_25 : decode cX0_allFeathers 25 = .ok (.ireturn, 1) := by decide +kernel
theorem dX0_canFly_0 : decode cX0_canFly 0 = .ok (.aload_n 0, 1) := by decide +kernel
theorem dX0_canFly_1 : decode cX0_canFly 1 = .ok (.invokevirtual 37, 3) := by decide +kernel
theorem dX0_canFly_4 : decode cX0_canFly 4 = .ok (.aload_n 0, 1) := by decide +kernel
theorem dX0_canFly_5 : decode cX0_canFly 5 = .ok (.getfield 19, 3) := by decide +kernel
theorem dX0_canFly_8 : decode cX0_canFly 8 = .ok (.if_icmp .lt 7, 3) := by decide +kernel
theorem dX0_canFly_11 : decode cX0_canFly 11 = .ok (.iconst 1, 1) := by decide +kernel
theorem dX0_canFly_12 : decode cX0_canFly 12 = .ok (.goto 4, 3) := by decide +kernel
theorem dX0_canFly_15 : decode cX0_canFly 15 = .ok (.iconst 0, 1) := by decide +kernel
theorem dX0_canFly_16 : decode cX0_canFly 16 = .ok (.ireturn, 1) := by decide +kernel
theorem dX0_isA_0 : decode cX0_isA 0 = .ok (.aload_n 0, 1) := by decide +kernel
theorem dX0_isA_1 : decode cX0_isA 1 = .ok (.getfield 15, 3) := by decide +kernel
theorem dX0_isA_4 : decode cX0_isA 4 = .ok (.istore_n 2, 1) := by decide +kernel
theorem dX0_isA_5 : decode cX0_isA 5 = .ok (.iconst 0, 1) := by decide +kernel
theorem dX0_isA_6 : decode cX0_isA 6 = .ok (.istore_n 3, 1) := by decide +kernel
theorem dX0_isA_7 : decode cX0_isA 7 = .ok (.iload_n 3, 1) := by decide +kernel
theorem dX0_isA_8 : decode cX0_isA 8 = .ok (.bipush 7, 2) := by decide +kernel
theorem dX0_isA_10 : decode cX0_isA 10 = .ok (.if_icmp .ge 32, 3) := by decide +kernel
theorem dX0_isA_13 : decode cX0_isA 13 = .ok (.iload_n 2, 1) := by decide +kernel
theorem dX0_isA_14 : decode cX0_isA 14 = .ok (.ifCond .lt 28, 3) := by decide +kernel
theorem dX0_isA_17 : decode cX0_isA 17 = .ok (.iload_n 2, 1) := by decide +kernel
theorem dX0_isA_18 : decode cX0_isA 18 = .ok (.bipush 7, 2) := by decide +kernel
theorem dX0_isA_20 : decode cX0_isA 20 = .ok (.if_icmp .ge 22, 3) := by decide +kernel
theorem dX0_isA_23 : decode cX0_isA 23 = .ok (.iload_n 2, 1) := by decide +kernel
theorem dX0_isA_24 : decode cX0_isA 24 = .ok (.iload_n 1, 1) := by decide +kernel
theorem dX0_isA_25 : decode cX0_isA 25 = .ok (.if_icmp .ne 5, 3) := by decide +kernel
theorem dX0_isA_28 : decode cX0_isA 28 = .ok (.iconst 1, 1) := by decide +kernel
theorem dX0_isA_29 : decode cX0_isA 29 = .ok (.ireturn, 1) := by decide +kernel
theorem dX0_isA_30 : decode cX0_isA 30 = .ok (.getstatic 49, 3) := by decide +kernel
theorem dX0_isA_33 : decode cX0_isA 33 = .ok (.iload_n 2, 1) := by decide +kernel
theorem dX0_isA_34 : decode cX0_isA 34 = .ok (.iaload, 1) := by decide +kernel
theorem dX0_isA_35 : decode cX0_isA 35 = .ok (.istore_n 2, 1) := by decide +kernel
theorem dX0_isA_36 : decode cX0_isA 36 = .ok (.iinc 3 1, 3) := by decide +kernel
theorem dX0_isA_39 : decode cX0_isA 39 = .ok (.goto (-32), 3) := by decide +kernel
theorem dX0_isA_42 : decode cX0_isA 42 = .ok (.iconst 0, 1) := by decide +kernel
theorem dX0_isA_43 : decode cX0_isA 43 = .ok (.ireturn, 1) := by decide +kernel
theorem dX0_grow_0 : decode cX0_grow 0 = .ok (.aload_n 0, 1) := by decide +kernel
theorem dX0_grow_1 : decode cX0_grow 1 = .ok (.getfield 9, 3) := by decide +kernel
theorem dX0_grow_4 : decode cX0_grow 4 = .ok (.iload_n 1, 1) := by decide +kernel
theorem dX0_grow_5 : decode cX0_grow 5 = .ok (.bipush 99, 2) := by decide +kernel
theorem dX0_grow_7 : decode cX0_grow 7 = .ok (.aload_n 0, 1) := by decide +kernel
theorem dX0_grow_8 : decode cX0_grow 8 = .ok (.getfield 9, 3) := by decide +kernel
theorem dX0_grow_11 : decode cX0_grow 11 = .ok (.iload_n 1, 1) := by decide +kernel
theorem dX0_grow_12 : decode cX0_grow 12 = .ok (.iaload, 1) := by decide +kernel
theorem dX0_grow_13 : decode cX0_grow 13 = .ok (.aload_n 0, 1) := by decide +kernel
theorem dX0_grow_14 : decode cX0_grow 14 = .ok (.getfield 22, 3) := by decide +kernel
theorem dX0_grow_17 : decode cX0_grow 17 = .ok (.iadd, 1) := by decide +kernel
theorem dX0_grow_18 : decode cX0_grow 18 = .ok (.invokestatic 52, 3) := by decide +kernel
theorem dX0_grow_21 : decode cX0_grow 21 = .ok (.iastore, 1) := by decide +kernel
theorem dX0_grow_22 : decode cX0_grow 22 = .ok (.return_, 1) := by decide +kernel
theorem dX0_dropFor_0 : decode cX0_dropFor 0 = .ok (.aload_n 0, 1) := by decide +kernel
theorem dX0_dropFor_1 : decode cX0_dropFor 1 = .ok (.getfield 15, 3) := by decide +kernel
theorem dX0_dropFor_4 : decode cX0_dropFor 4 = .ok (.tableswitch 130 1 6 #[40, 56, 61, 68, 77, 97], 40) := by decide +kernel
theorem dX0_dropFor_44 : decode cX0_dropFor 44 = .ok (.aload_n 1, 1) := by decide +kernel
theorem dX0_dropFor_45 : decode cX0_dropFor 45 = .ok (.getfield 58, 3) := by decide +kernel
theorem dX0_dropFor_48 : decode cX0_dropFor 48 = .ok (.ifCond .ne 7, 3) := by decide +kernel
theorem dX0_dropFor_51 : decode cX0_dropFor 51 = .ok (.iconst 1, 1) := by decide +kernel
theorem dX0_dropFor_52 : decode cX0_dropFor 52 = .ok (.goto 4, 3) := by decide +kernel
theorem dX0_dropFor_55 : decode cX0_dropFor 55 = .ok (.iconst 0, 1) := by decide +kernel
theorem dX0_dropFor_56 : decode cX0_dropFor 56 = .ok (.istore_n 3, 1) := by decide +kernel
theorem dX0_dropFor_57 : decode cX0_dropFor 57 = .ok (.goto 79, 3) := by decide +kernel
theorem dX0_dropFor_60 : decode cX0_dropFor 60 = .ok (.iload_n 2, 1) := by decide +kernel
theorem dX0_dropFor_61 : decode cX0_dropFor 61 = .ok (.istore_n 3, 1) := by decide +kernel
theorem dX0_dropFor_62 : decode cX0_dropFor 62 = .ok (.goto 74, 3) := by decide +kernel
theorem dX0_dropFor_65 : decode cX0_dropFor 65 = .ok (.iconst 2, 1) := by decide +kernel
theorem dX0_dropFor_66 : decode cX0_dropFor 66 = .ok (.iload_n 2, 1) := by decide +kernel
theorem dX0_dropFor_67 : decode cX0_dropFor 67 = .ok (.imul, 1) := by decide +kernel
theorem dX0_dropFor_68 : decode cX0_dropFor 68 = .ok (.istore_n 3, 1) := by decide +kernel
theorem dX0_dropFor_69 : decode cX0_dropFor 69 = .ok (.goto 67, 3) := by decide +kernel
theorem dX0_dropFor_72 : decode cX0_dropFor 72 = .ok (.iconst 2, 1) := by decide +kernel
theorem dX0_dropFor_73 : decode cX0_dropFor 73 = .ok (.iload_n 2, 1) := by decide +kernel
theorem dX0_dropFor_74 : decode cX0_dropFor 74 = .ok (.imul, 1) := by decide +kernel
theorem dX0_dropFor_75 : decode cX0_dropFor 75 = .ok (.iconst 1, 1) := by decide +kernel
theorem dX0_dropFor_76 : decode cX0_dropFor 76 = .ok (.iadd, 1) := by decide +kernel
theorem dX0_dropFor_77 : decode cX0_dropFor 77 = .ok (.istore_n 3, 1) := by decide +kernel
theorem dX0_dropFor_78 : decode cX0_dropFor 78 = .ok (.goto 58, 3) := by decide +kernel
theorem dX0_dropFor_81 : decode cX0_dropFor 81 = .ok (.aload_n 0, 1) := by decide +kernel
theorem dX0_dropFor_82 : decode cX0_dropFor 82 = .ok (.invokevirtual 37, 3) := by decide +kernel
theorem dX0_dropFor_85 : decode cX0_dropFor 85 = .ok (.aload_n 0, 1) := by decide +kernel
theorem dX0_dropFor_86 : decode cX0_dropFor 86 = .ok (.getfield 19, 3) := by decide +kernel
theorem dX0_dropFor_89 : decode cX0_dropFor 89 = .ok (.if_icmp .le 7, 3) := by decide +kernel
theorem dX0_dropFor_92 : decode cX0_dropFor 92 = .ok (.iconst 1, 1) := by decide +kernel
theorem dX0_dropFor_93 : decode cX0_dropFor 93 = .ok (.goto 4, 3) := by decide +kernel
theorem dX0_dropFor_96 : decode cX0_dropFor 96 = .ok (.iconst 0, 1) := by decide +kernel
theorem dX0_dropFor_97 : decode cX0_dropFor 97 = .ok (.istore_n 3, 1) := by decide +kernel
theorem dX0_dropFor_98 : decode cX0_dropFor 98 = .ok (.goto 38, 3) := by decide +kernel
theorem dX0_dropFor_101 : decode cX0_dropFor 101 = .ok (.aload_n 0, 1) := by decide +kernel
theorem dX0_dropFor_102 : decode cX0_dropFor 102 = .ok (.invokevirtual 37, 3) := by decide +kernel
theorem dX0_dropFor_105 : decode cX0_dropFor 105 = .ok (.aload_n 0, 1) := by decide +kernel
theorem dX0_dropFor_106 : decode cX0_dropFor 106 = .ok (.getfield 19, 3) := by decide +kernel
theorem dX0_dropFor_109 : decode cX0_dropFor 109 = .ok (.if_icmp .le 7, 3) := by decide +kernel
theorem dX0_dropFor_112 : decode cX0_dropFor 112 = .ok (.iconst 1, 1) := by decide +kernel
theorem dX0_dropFor_113 : decode cX0_dropFor 113 = .ok (.goto 4, 3) := by decide +kernel
theorem dX0_dropFor_116 : decode cX0_dropFor 116 = .ok (.iconst 0, 1) := by decide +kernel
theorem dX0_dropFor_117 : decode cX0_dropFor 117 = .ok (.aload_n 1, 1) := by decide +kernel
theorem dX0_dropFor_118 : decode cX0_dropFor 118 = .ok (.getfield 63, 3) := by decide +kernel
theorem dX0_dropFor_121 : decode cX0_dropFor 121 = .ok (.ifCond .ne 7, 3) := by decide +kernel
theorem dX0_dropFor_124 : decode cX0_dropFor 124 = .ok (.iconst 1, 1) := by decide +kernel
theorem dX0_dropFor_125 : decode cX0_dropFor 125 = .ok (.goto 4, 3) := by decide +kernel
theorem dX0_dropFor_128 : decode cX0_dropFor 128 = .ok (.iconst 0, 1) := by decide +kernel
theorem dX0_dropFor_129 : decode cX0_dropFor 129 = .ok (.iadd, 1) := by decide +kernel
theorem dX0_dropFor_130 : decode cX0_dropFor 130 = .ok (.istore_n 3, 1) := by decide +kernel
theorem dX0_dropFor_131 : decode cX0_dropFor 131 = .ok (.goto 5, 3) := by decide +kernel
theorem dX0_dropFor_134 : decode cX0_dropFor 134 = .ok (.iconst 1, 1) := by decide +kernel
theorem dX0_dropFor_135 : decode cX0_dropFor 135 = .ok (.istore_n 3, 1) := by decide +kernel
theorem dX0_dropFor_136 : decode cX0_dropFor 136 = .ok (.aload_n 0, 1) := by decide +kernel
theorem dX0_dropFor_137 : decode cX0_dropFor 137 = .ok (.getfield 9, 3) := by decide +kernel
theorem dX0_dropFor_140 : decode cX0_dropFor 140 = .ok (.aload_n 1, 1) := by decide +kernel
theorem dX0_dropFor_141 : decode cX0_dropFor 141 = .ok (.getfield 58, 3) := by decide +kernel
theorem dX0_dropFor_144 : decode cX0_dropFor 144 = .ok (.iaload, 1) := by decide +kernel
theorem dX0_dropFor_145 : decode cX0_dropFor 145 = .ok (.iload_n 3, 1) := by decide +kernel
theorem dX0_dropFor_146 : decode cX0_dropFor 146 = .ok (.invokestatic 52, 3) := by decide +kernel
theorem dX0_dropFor_149 : decode cX0_dropFor 149 = .ok (.ireturn, 1) := by decide +kernel
theorem dX1_init_0 : decode cX1_init 0 = .ok (.aload_n 0, 1) := by decide +kernel
theorem dX1_init_1 : decode cX1_init 1 = .ok (.invokespecial 3, 3) := by decide +kernel
theorem dX1_init_4 : decode cX1_init 4 = .ok (.return_, 1) := by decide +kernel
theorem dX1_begin_0 : decode cX1_begin 0 = .ok (.aload_n 0, 1) := by decide +kernel
theorem dX1_begin_1 : decode cX1_begin 1 = .ok (.iload_n 1, 1) := by decide +kernel
theorem dX1_begin_2 : decode cX1_begin 2 = .ok (.putfield 9, 3) := by decide +kernel
theorem dX1_begin_5 : decode cX1_begin 5 = .ok (.aload_n 0, 1) := by decide +kernel
theorem dX1_begin_6 : decode cX1_begin 6 = .ok (.iconst 1, 1) := by decide +kernel
theorem dX1_begin_7 : decode cX1_begin 7 = .ok (.putfield 15, 3) := by decide +kernel
theorem dX1_begin_10 : decode cX1_begin 10 = .ok (.aload_n 0, 1) := by decide +kernel
theorem dX1_begin_11 : decode cX1_begin 11 = .ok (.iconst 0, 1) := by decide +kernel
theorem dX1_begin_12 : decode cX1_begin 12 = .ok (.putfield 18, 3) := by decide +kernel
theorem dX1_begin_15 : decode cX1_begin 15 = .ok (.aload_n 0, 1) := by decide +kernel
theorem dX1_begin_16 : decode cX1_begin 16 = .ok (.iconst 0, 1) := by decide +kernel
theorem dX1_begin_17 : decode cX1_begin 17 = .ok (.putfield 21, 3) := by decide +kernel
theorem dX1_begin_20 : decode cX1_begin 20 = .ok (.aload_n 0, 1) := by decide +kernel
theorem dX1_begin_21 : decode cX1_begin 21 = .ok (.iconst 0, 1) := by decide +kernel
theorem dX1_begin_22 : decode cX1_begin 22 = .ok (.putfield 24, 3) := by decide +kernel
theorem dX1_begin_25 : decode cX1_begin 25 = .ok (.return_, 1) := by decide +kernel
theorem dX1_become_0 : decode cX1_become 0 = .ok (.aload_n 0, 1) := by decide +kernel
theorem dX1_become_1 : decode cX1_become 1 = .ok (.aload_n 1, 1) := by decide +kernel
theorem dX1_become_2 : decode cX1_become 2 = .ok (.getfield 9, 3) := by decide +kernel
theorem dX1_become_5 : decode cX1_become 5 = .ok (.putfield 9, 3) := by decide +kernel
theorem dX1_become_8 : decode cX1_become 8 = .ok (.aload_n 0, 1) := by decide +kernel
theorem dX1_become_9 : decode cX1_become 9 = .ok (.aload_n 1, 1) := by decide +kernel
theorem dX1_become_10 : decode cX1_become 10 = .ok (.getfield 15, 3) := by decide +kernel
theorem dX1_become_13 : decode cX1_become 13 = .ok (.putfield 15, 3) := by decide +kernel
theorem dX1_become_16 : decode cX1_become 16 = .ok (.aload_n 0, 1) := by decide +kernel
theorem dX1_become_17 : decode cX1_become 17 = .ok (.aload_n 1, 1) := by decide +kernel
theorem dX1_become_18 : decode cX1_become 18 = .ok (.getfield 18, 3) := by decide +kernel
theorem dX1_become_21 : decode cX1_become 21 = .ok (.putfield 18, 3) := by decide +kernel
theorem dX1_become_24 : decode cX1_become 24 = .ok (.aload_n 0, 1) := by decide +kernel
theorem dX1_become_25 : decode cX1_become 25 = .ok (.aload_n 1, 1) := by decide +kernel
theorem dX1_become_26 : decode cX1_become 26 = .ok (.getfield 21, 3) := by decide +kernel
theorem dX1_become_29 : decode cX1_become 29 = .ok (.putfield 21, 3) := by decide +kernel
theorem dX1_become_32 : decode cX1_become 32 = .ok (.aload_n 0, 1) := by decide +kernel
theorem dX1_become_33 : decode cX1_become 33 = .ok (.aload_n 1, 1) := by decide +kernel
theorem dX1_become_34 : decode cX1_become 34 = .ok (.getfield 24, 3) := by decide +kernel
theorem dX1_become_37 : decode cX1_become 37 = .ok (.putfield 24, 3) := by decide +kernel
theorem dX1_become_40 : decode cX1_become 40 = .ok (.return_, 1) := by decide +kernel
theorem dX1_mostOf_0 : decode cX1_mostOf 0 = .ok (.iload_n 0, 1) := by decide +kernel
theorem dX1_mostOf_1 : decode cX1_mostOf 1 = .ok (.tableswitch 40 0 3 #[31, 33, 36, 38], 31) := by decide +kernel
theorem dX1_mostOf_32 : decode cX1_mostOf 32 = .ok (.iconst 3, 1) := by decide +kernel
theorem dX1_mostOf_33 : decode cX1_mostOf 33 = .ok (.ireturn, 1) := by decide +kernel
theorem dX1_mostOf_34 : decode cX1_mostOf 34 = .ok (.bipush 99, 2) := by decide +kernel
theorem dX1_mostOf_36 : decode cX1_mostOf 36 = .ok (.ireturn, 1) := by decide +kernel
theorem dX1_mostOf_37 : decode cX1_mostOf 37 = .ok (.iload_n 1, 1) := by decide +kernel
theorem dX1_mostOf_38 : decode cX1_mostOf 38 = .ok (.ireturn, 1) := by decide +kernel
theorem dX1_mostOf_39 : decode cX1_mostOf 39 = .ok (.iconst 4, 1) := by decide +kernel
theorem dX1_mostOf_40 : decode cX1_mostOf 40 = .ok (.ireturn, 1) := by decide +kernel
theorem dX1_mostOf_41 : decode cX1_mostOf 41 = .ok (.iconst 1, 1) := by decide +kernel
theorem dX1_mostOf_42 : decode cX1_mostOf 42 = .ok (.ireturn, 1) := by decide +kernel
theorem dX1_feature_0 : decode cX1_feature 0 = .ok (.iload_n 1, 1) := by decide +kernel
theorem dX1_feature_1 : decode cX1_feature 1 = .ok (.tableswitch 51 0 3 #[31, 36, 41, 46], 31) := by decide +kernel
theorem dX1_feature_32 : decode cX1_feature 32 = .ok (.aload_n 0, 1) := by decide +kernel
theorem dX1_feature_33 : decode cX1_feature 33 = .ok (.getfield 9, 3) := by decide +kernel
theorem dX1_feature_36 : decode cX1_feature 36 = .ok (.ireturn, 1) := by decide +kernel
theorem dX1_feature_37 : decode cX1_feature 37 = .ok (.aload_n 0, 1) := by decide +kernel
theorem dX1_feature_38 : decode cX1_feature 38 = .ok (.getfield 15, 3) := by decide +kernel
theorem dX1_feature_41 : decode cX1_feature 41 = .ok (.ireturn, 1) := by decide +kernel
theorem dX1_feature_42 : decode cX1_feature 42 = .ok (.aload_n 0, 1) := by decide +kernel
theorem dX1_feature_43 : decode cX1_feature 43 = .ok (.getfield 18, 3) := by decide +kernel
theorem dX1_feature_46 : decode cX1_feature 46 = .ok (.ireturn, 1) := by decide +kernel
theorem dX1_feature_47 : decode cX1_feature 47 = .ok (.aload_n 0, 1) := by decide +kernel
theorem dX1_feature_48 : decode cX1_feature 48 = .ok (.getfield 21, 3) := by decide +kernel
theorem dX1_feature_51 : decode cX1_feature 51 = .ok (.ireturn, 1) := by decide +kernel
theorem dX1_feature_52 : decode cX1_feature 52 = .ok (.aload_n 0, 1) := by decide +kernel
theorem dX1_feature_53 : decode cX1_feature 53 = .ok (.getfield 24, 3) := by decide +kernel
theorem dX1_feature_56 : decode cX1_feature 56 = .ok (.ireturn, 1) := by decide +kernel
theorem dX1_setFeature_0 : decode cX1_setFeature 0 = .ok (.iload_n 1, 1) := by decide +kernel
theorem dX1_setFeature_1 : decode cX1_setFeature 1 = .ok (.tableswitch 63 0 3 #[31, 39, 47, 55], 31) := by decide +kernel
theorem dX1_setFeature_32 : decode cX1_setFeature 32 = .ok (.aload_n 0, 1) := by decide +kernel
theorem dX1_setFeature_33 : decode cX1_setFeature 33 = .ok (.iload_n 2, 1) := by decide +kernel
theorem dX1_setFeature_34 : decode cX1_setFeature 34 = .ok (.putfield 9, 3) := by decide +kernel
theorem dX1_setFeature_37 : decode cX1_setFeature 37 = .ok (.goto 32, 3) := by decide +kernel
theorem dX1_setFeature_40 : decode cX1_setFeature 40 = .ok (.aload_n 0, 1) := by decide +kernel
theorem dX1_setFeature_41 : decode cX1_setFeature 41 = .ok (.iload_n 2, 1) := by decide +kernel
theorem dX1_setFeature_42 : decode cX1_setFeature 42 = .ok (.putfield 15, 3) := by decide +kernel
theorem dX1_setFeature_45 : decode cX1_setFeature 45 = .ok (.goto 24, 3) := by decide +kernel
theorem dX1_setFeature_48 : decode cX1_setFeature 48 = .ok (.aload_n 0, 1) := by decide +kernel
theorem dX1_setFeature_49 : decode cX1_setFeature 49 = .ok (.iload_n 2, 1) := by decide +kernel
theorem dX1_setFeature_50 : decode cX1_setFeature 50 = .ok (.putfield 18, 3) := by decide +kernel
theorem dX1_setFeature_53 : decode cX1_setFeature 53 = .ok (.goto 16, 3) := by decide +kernel
theorem dX1_setFeature_56 : decode cX1_setFeature 56 = .ok (.aload_n 0, 1) := by decide +kernel
theorem dX1_setFeature_57 : decode cX1_setFeature 57 = .ok (.iload_n 2, 1) := by decide +kernel
theorem dX1_setFeature_58 : decode cX1_setFeature 58 = .ok (.putfield 21, 3) := by decide +kernel
theorem dX1_setFeature_61 : decode cX1_setFeature 61 = .ok (.goto 8, 3) := by decide +kernel
theorem dX1_setFeature_64 : decode cX1_setFeature 64 = .ok (.aload_n 0, 1) := by decide +kernel
theorem dX1_setFeature_65 : decode cX1_setFeature 65 = .ok (.iload_n 2, 1) := by decide +kernel
theorem dX1_setFeature_66 : decode cX1_setFeature 66 = .ok (.putfield 24, 3) := by decide +kernel
theorem dX1_setFeature_69 : decode cX1_setFeature 69 = .ok (.return_, 1) := by decide +kernel
theorem dX1_isCarriedBy_0 : decode cX1_isCarriedBy 0 = .ok (.iload_n 1, 1) := by decide +kernel
theorem dX1_isCarriedBy_1 : decode cX1_isCarriedBy 1 = .ok (.iload_n 2, 1) := by decide +kernel
theorem dX1_isCarriedBy_2 : decode cX1_isCarriedBy 2 = .ok (.if_icmp .le 17, 3) := by decide +kernel
theorem dX1_isCarriedBy_5 : decode cX1_isCarriedBy 5 = .ok (.iload_n 1, 1) := by decide +kernel
theorem dX1_isCarriedBy_6 : decode cX1_isCarriedBy 6 = .ok (.iload_n 2, 1) := by decide +kernel
theorem dX1_isCarriedBy_7 : decode cX1_isCarriedBy 7 = .ok (.iadd, 1) := by decide +kernel
theorem dX1_isCarriedBy_8 : decode cX1_isCarriedBy 8 = .ok (.aload_n 0, 1) := by decide +kernel
theorem dX1_isCarriedBy_9 : decode cX1_isCarriedBy 9 = .ok (.getfield 15, 3) := by decide +kernel
theorem dX1_isCarriedBy_12 : decode cX1_isCarriedBy 12 = .ok (.if_icmp .lt 7, 3) := by decide +kernel
theorem dX1_isCarriedBy_15 : decode cX1_isCarriedBy 15 = .ok (.iconst 1, 1) := by decide +kernel
theorem dX1_isCarriedBy_16 : decode cX1_isCarriedBy 16 = .ok (.goto 4, 3) := by decide +kernel
theorem dX1_isCarriedBy_19 : decode cX1_isCarriedBy 19 = .ok (.iconst 0, 1) := by decide +kernel
theorem dX1_isCarriedBy_20 : decode cX1_isCarriedBy 20 = .ok (.ireturn, 1) := by decide +kernel
theorem dX2_init_0 : decode cX2_init 0 = .ok (.aload_n 0, 1) := by decide +kernel
theorem dX2_init_1 : decode cX2_init 1 = .ok (.invokespecial 3, 3) := by decide +kernel
theorem dX2_init_4 : decode cX2_init 4 = .ok (.aload_n 0, 1) := by decide +kernel
theorem dX2_init_5 : decode cX2_init 5 = .ok (.iconst 5, 1) := by decide +kernel
theorem dX2_init_6 : decode cX2_init 6 = .ok (.newarray .int, 2) := by decide +kernel
theorem dX2_init_8 : decode cX2_init 8 = .ok (.putfield 9, 3) := by decide +kernel
theorem dX2_init_11 : decode cX2_init 11 = .ok (.aload_n 0, 1) := by decide +kernel
theorem dX2_init_12 : decode cX2_init 12 = .ok (.iconst 5, 1) := by decide +kernel
theorem dX2_init_13 : decode cX2_init 13 = .ok (.newarray .int, 2) := by decide +kernel
theorem dX2_init_15 : decode cX2_init 15 = .ok (.putfield 15, 3) := by decide +kernel
theorem dX2_init_18 : decode cX2_init 18 = .ok (.return_, 1) := by decide +kernel
theorem dX2_seek_0 : decode cX2_seek 0 = .ok (.aload_n 0, 1) := by decide +kernel
theorem dX2_seek_1 : decode cX2_seek 1 = .ok (.iload_n 3, 1) := by decide +kernel
theorem dX2_seek_2 : decode cX2_seek 2 = .ok (.invokevirtual 18, 3) := by decide +kernel
theorem dX2_seek_5 : decode cX2_seek 5 = .ok (.aload_n 0, 1) := by decide +kernel
theorem dX2_seek_6 : decode cX2_seek 6 = .ok (.iconst (-1), 1) := by decide +kernel
theorem dX2_seek_7 : decode cX2_seek 7 = .ok (.putfield 22, 3) := by decide +kernel
theorem dX2_seek_10 : decode cX2_seek 10 = .ok (.iconst 1, 1) := by decide +kernel
theorem dX2_seek_11 : decode cX2_seek 11 = .ok (.istore 4, 2) := by decide +kernel
theorem dX2_seek_13 : decode cX2_seek 13 = .ok (.iconst 0, 1) := by decide +kernel
theorem dX2_seek_14 : decode cX2_seek 14 = .ok (.istore 5, 2) := by decide +kernel
theorem dX2_seek_16 : decode cX2_seek 16 = .ok (.iload 5, 2) := by decide +kernel
theorem dX2_seek_18 : decode cX2_seek 18 = .ok (.bipush 120, 2) := by decide +kernel
theorem dX2_seek_20 : decode cX2_seek 20 = .ok (.if_icmp .ge 42, 3) := by decide +kernel
theorem dX2_seek_23 : decode cX2_seek 23 = .ok (.iload 4, 2) := by decide +kernel
theorem dX2_seek_25 : decode cX2_seek 25 = .ok (.ifCond .eq 37, 3) := by decide +kernel
theorem dX2_seek_28 : decode cX2_seek 28 = .ok (.aload_n 2, 1) := by decide +kernel
theorem dX2_seek_29 : decode cX2_seek 29 = .ok (.aload_n 1, 1) := by decide +kernel
theorem dX2_seek_30 : decode cX2_seek 30 = .ok (.invokevirtual 26, 3) := by decide +kernel
theorem dX2_seek_33 : decode cX2_seek 33 = .ok (.aload_n 0, 1) := by decide +kernel
theorem dX2_seek_34 : decode cX2_seek 34 = .ok (.aload_n 2, 1) := by decide +kernel
theorem dX2_seek_35 : decode cX2_seek 35 = .ok (.aload_n 0, 1) := by decide +kernel
theorem dX2_seek_36 : decode cX2_seek 36 = .ok (.getfield 15, 3) := by decide +kernel
theorem dX2_seek_39 : decode cX2_seek 39 = .ok (.aload_n 0, 1) := by decide +kernel
theorem dX2_seek_40 : decode cX2_seek 40 = .ok (.getfield 32, 3) := by decide +kernel
theorem dX2_seek_43 : decode cX2_seek 43 = .ok (.invokevirtual 35, 3) := by decide +kernel
theorem dX2_seek_46 : decode cX2_seek 46 = .ok (.aload_n 2, 1) := by decide +kernel
theorem dX2_seek_47 : decode cX2_seek 47 = .ok (.invokevirtual 39, 3) := by decide +kernel
theorem dX2_seek_50 : decode cX2_seek 50 = .ok (.aload_n 0, 1) := by decide +kernel
theorem dX2_seek_51 : decode cX2_seek 51 = .ok (.invokevirtual 43, 3) := by decide +kernel
theorem dX2_seek_54 : decode cX2_seek 54 = .ok (.istore 4, 2) := by decide +kernel
theorem dX2_seek_56 : decode cX2_seek 56 = .ok (.iinc 5 1, 3) := by decide +kernel
theorem dX2_seek_59 : decode cX2_seek 59 = .ok (.goto (-43), 3) := by decide +kernel
theorem dX2_seek_62 : decode cX2_seek 62 = .ok (.return_, 1) := by decide +kernel
theorem dX2_listMembers_0 : decode cX2_listMembers 0 = .ok (.aload_n 0, 1) := by decide +kernel
theorem dX2_listMembers_1 : decode cX2_listMembers 1 = .ok (.iconst 0, 1) := by decide +kernel
theorem dX2_listMembers_2 : decode cX2_listMembers 2 = .ok (.putfield 32, 3) := by decide +kernel
theorem dX2_listMembers_5 : decode cX2_listMembers 5 = .ok (.iconst 0, 1) := by decide +kernel
theorem dX2_listMembers_6 : decode cX2_listMembers 6 = .ok (.istore_n 2, 1) := by decide +kernel
theorem dX2_listMembers_7 : decode cX2_listMembers 7 = .ok (.iload_n 2, 1) := by decide +kernel
theorem dX2_listMembers_8 : decode cX2_listMembers 8 = .ok (.bipush 8, 2) := by decide +kernel
theorem dX2_listMembers_10 : decode cX2_listMembers 10 = .ok (.if_icmp .ge 45, 3) := by decide +kernel
theorem dX2_listMembers_13 : decode cX2_listMembers 13 = .ok (.aload_n 0, 1) := by decide +kernel
theorem dX2_listMembers_14 : decode cX2_listMembers 14 = .ok (.getfield 32, 3) := by decide +kernel
theorem dX2_listMembers_17 : decode cX2_listMembers 17 = .ok (.iconst 5, 1) := by decide +kernel
theorem dX2_listMembers_18 : decode cX2_listMembers 18 = .ok (.if_icmp .ge 37, 3) := by decide +kernel
theorem dX2_listMembers_21 : decode cX2_listMembers 21 = .ok (.iload_n 1, 1) := by decide +kernel
theorem dX2_listMembers_22 : decode cX2_listMembers 22 = .ok (.iload_n 2, 1) := by decide +kernel
theorem dX2_listMembers_23 : decode cX2_listMembers 23 = .ok (.ishr, 1) := by decide +kernel
theorem dX2_listMembers_24 : decode cX2_listMembers 24 = .ok (.iconst 1, 1) := by decide +kernel
theorem dX2_listMembers_25 : decode cX2_listMembers 25 = .ok (.iand, 1) := by decide +kernel
theorem dX2_listMembers_26 : decode cX2_listMembers 26 = .ok (.ifCond .eq 23, 3) := by decide +kernel
theorem dX2_listMembers_29 : decode cX2_listMembers 29 = .ok (.aload_n 0, 1) := by decide +kernel
theorem dX2_listMembers_30 : decode cX2_listMembers 30 = .ok (.getfield 15, 3) := by decide +kernel
theorem dX2_listMembers_33 : decode cX2_listMembers 33 = .ok (.aload_n 0, 1) := by decide +kernel
theorem dX2_listMembers_34 : decode cX2_listMembers 34 = .ok (.getfield 32, 3) := by decide +kernel
theorem dX2_listMembers_37 : decode cX2_listMembers 37 = .ok (.iload_n 2, 1) := by decide +kernel
theorem dX2_listMembers_38 : decode cX2_listMembers 38 = .ok (.iastore, 1) := by decide +kernel
theorem dX2_listMembers_39 : decode cX2_listMembers 39 = .ok (.aload_n 0, 1) := by decide +kernel
theorem dX2_listMembers_40 : decode cX2_listMembers 40 = .ok (.dup, 1) := by decide +kernel
theorem dX2_listMembers_41 : decode cX2_listMembers 41 = .ok (.getfield 32, 3) := by decide +kernel
theorem dX2_listMembers_44 : decode cX2_listMembers 44 = .ok (.iconst 1, 1) := by decide +kernel
theorem dX2_listMembers_45 : decode cX2_listMembers 45 = .ok (.iadd, 1) := by decide +kernel
theorem dX2_listMembers_46 : decode cX2_listMembers 46 = .ok (.putfield 32, 3) := by decide +kernel
theorem dX2_listMembers_49 : decode cX2_listMembers 49 = .ok (.iinc 2 1, 3) := by decide +kernel
theorem dX2_listMembers_52 : decode cX2_listMembers 52 = .ok (.goto (-45), 3) := by decide +kernel
theorem dX2_listMembers_55 : decode cX2_listMembers 55 = .ok (.return_, 1) := by decide +kernel
theorem dX2_weigh_0 : decode cX2_weigh 0 = .ok (.iload_n 1, 1) := by decide +kernel
theorem dX2_weigh_1 : decode cX2_weigh 1 = .ok (.aload_n 0, 1) := by decide +kernel
theorem dX2_weigh_2 : decode cX2_weigh 2 = .ok (.getfield 22, 3) := by decide +kernel
theorem dX2_weigh_5 : decode cX2_weigh 5 = .ok (.if_icmp .le 41, 3) := by decide +kernel
theorem dX2_weigh_8 : decode cX2_weigh 8 = .ok (.aload_n 0, 1) := by decide +kernel
theorem dX2_weigh_9 : decode cX2_weigh 9 = .ok (.iload_n 1, 1) := by decide +kernel
theorem dX2_weigh_10 : decode cX2_weigh 10 = .ok (.putfield 22, 3) := by decide +kernel
theorem dX2_weigh_13 : decode cX2_weigh 13 = .ok (.aload_n 0, 1) := by decide +kernel
theorem dX2_weigh_14 : decode cX2_weigh 14 = .ok (.iconst 1, 1) := by decide +kernel
theorem dX2_weigh_15 : decode cX2_weigh 15 = .ok (.putfield 47, 3) := by decide +kernel
theorem dX2_weigh_18 : decode cX2_weigh 18 = .ok (.aload_n 0, 1) := by decide +kernel
theorem dX2_weigh_19 : decode cX2_weigh 19 = .ok (.aload_n 2, 1) := by decide +kernel
theorem dX2_weigh_20 : decode cX2_weigh 20 = .ok (.invokevirtual 50, 3) := by decide +kernel
theorem dX2_weigh_23 : decode cX2_weigh 23 = .ok (.putfield 54, 3) := by decide +kernel
theorem dX2_weigh_26 : decode cX2_weigh 26 = .ok (.aload_n 0, 1) := by decide +kernel
theorem dX2_weigh_27 : decode cX2_weigh 27 = .ok (.getfield 15, 3) := by decide +kernel
theorem dX2_weigh_30 : decode cX2_weigh 30 = .ok (.iconst 0, 1) := by decide +kernel
theorem dX2_weigh_31 : decode cX2_weigh 31 = .ok (.aload_n 0, 1) := by decide +kernel
theorem dX2_weigh_32 : decode cX2_weigh 32 = .ok (.getfield 9, 3) := by decide +kernel
theorem dX2_weigh_35 : decode cX2_weigh 35 = .ok (.iconst 0, 1) := by decide +kernel
theorem dX2_weigh_36 : decode cX2_weigh 36 = .ok (.aload_n 0, 1) := by decide +kernel
theorem dX2_weigh_37 : decode cX2_weigh 37 = .ok (.getfield 32, 3) := by decide +kernel
theorem dX2_weigh_40 : decode cX2_weigh 40 = .ok (.invokestatic 57, 3) := by decide +kernel
theorem dX2_weigh_43 : decode cX2_weigh 43 = .ok (.goto 21, 3) := by decide +kernel
theorem dX2_weigh_46 : decode cX2_weigh 46 = .ok (.iload_n 1, 1) := by decide +kernel
theorem dX2_weigh_47 : decode cX2_weigh 47 = .ok (.aload_n 0, 1) := by decide +kernel
theorem dX2_weigh_48 : decode cX2_weigh 48 = .ok (.getfield 22, 3) := by decide +kernel
theorem dX2_weigh_51 : decode cX2_weigh 51 = .ok (.if_icmp .ne 13, 3) := by decide +kernel
theorem dX2_weigh_54 : decode cX2_weigh 54 = .ok (.aload_n 0, 1) := by decide +kernel
theorem dX2_weigh_55 : decode cX2_weigh 55 = .ok (.dup, 1) := by decide +kernel
theorem dX2_weigh_56 : decode cX2_weigh 56 = .ok (.getfield 47, 3) := by decide +kernel
theorem dX2_weigh_59 : decode cX2_weigh 59 = .ok (.iconst 1, 1) := by decide +kernel
theorem dX2_weigh_60 : decode cX2_weigh 60 = .ok (.iadd, 1) := by decide +kernel
theorem dX2_weigh_61 : decode cX2_weigh 61 = .ok (.putfield 47, 3) := by decide +kernel
theorem dX2_weigh_64 : decode cX2_weigh 64 = .ok (.return_, 1) := by decide +kernel
theorem dX2_stepOrder_0 : decode cX2_stepOrder 0 = .ok (.aload_n 0, 1) := by decide +kernel
theorem dX2_stepOrder_1 : decode cX2_stepOrder 1 = .ok (.getfield 32, 3) := by decide +kernel
theorem dX2_stepOrder_4 : decode cX2_stepOrder 4 = .ok (.iconst 2, 1) := by decide +kernel
theorem dX2_stepOrder_5 : decode cX2_stepOrder 5 = .ok (.isub, 1) := by decide +kernel
theorem dX2_stepOrder_6 : decode cX2_stepOrder 6 = .ok (.istore_n 1, 1) := by decide +kernel
theorem dX2_stepOrder_7 : decode cX2_stepOrder 7 = .ok (.iload_n 1, 1) := by decide +kernel
theorem dX2_stepOrder_8 : decode cX2_stepOrder 8 = .ok (.ifCond .lt 26, 3) := by decide +kernel
theorem dX2_stepOrder_11 : decode cX2_stepOrder 11 = .ok (.aload_n 0, 1) := by decide +kernel
theorem dX2_stepOrder_12 : decode cX2_stepOrder 12 = .ok (.getfield 15, 3) := by decide +kernel
theorem dX2_stepOrder_15 : decode cX2_stepOrder 15 = .ok (.iload_n 1, 1) := by decide +kernel
theorem dX2_stepOrder_16 : decode cX2_stepOrder 16 = .ok (.iaload, 1) := by decide +kernel
theorem dX2_stepOrder_17 : decode cX2_stepOrder 17 = .ok (.aload_n 0, 1) := by decide +kernel
theorem dX2_stepOrder_18 : decode cX2_stepOrder 18 = .ok (.getfield 15, 3) := by decide +kernel
theorem dX2_stepOrder_21 : decode cX2_stepOrder 21 = .ok (.iload_n 1, 1) := by decide +kernel
theorem dX2_stepOrder_22 : decode cX2_stepOrder 22 = .ok (.iconst 1, 1) := by decide +kernel
theorem dX2_stepOrder_23 : decode cX2_stepOrder 23 = .ok (.iadd, 1) := by decide +kernel
theorem dX2_stepOrder_24 : decode cX2_stepOrder 24 = .ok (.iaload, 1) := by decide +kernel
theorem dX2_stepOrder_25 : decode cX2_stepOrder 25 = .ok (.if_icmp .le 9, 3) := by decide +kernel
theorem dX2_stepOrder_28 : decode cX2_stepOrder 28 = .ok (.iinc 1 (-1), 3) := by decide +kernel
theorem dX2_stepOrder_31 : decode cX2_stepOrder 31 = .ok (.goto (-24), 3) := by decide +kernel
theorem dX2_stepOrder_34 : decode cX2_stepOrder 34 = .ok (.iload_n 1, 1) := by decide +kernel
theorem dX2_stepOrder_35 : decode cX2_stepOrder 35 = .ok (.ifCond .ge 5, 3) := by decide +kernel
theorem dX2_stepOrder_38 : decode cX2_stepOrder 38 = .ok (.iconst 0, 1) := by decide +kernel
theorem dX2_stepOrder_39 : decode cX2_stepOrder 39 = .ok (.ireturn, 1) := by decide +kernel
theorem dX2_stepOrder_40 : decode cX2_stepOrder 40 = .ok (.aload_n 0, 1) := by decide +kernel
theorem dX2_stepOrder_41 : decode cX2_stepOrder 41 = .ok (.getfield 32, 3) := by decide +kernel
theorem dX2_stepOrder_44 : decode cX2_stepOrder 44 = .ok (.iconst 1, 1) := by decide +kernel
theorem dX2_stepOrder_45 : decode cX2_stepOrder 45 = .ok (.isub, 1) := by decide +kernel
theorem dX2_stepOrder_46 : decode cX2_stepOrder 46 = .ok (.istore_n 2, 1) := by decide +kernel
theorem dX2_stepOrder_47 : decode cX2_stepOrder 47 = .ok (.iload_n 2, 1) := by decide +kernel
theorem dX2_stepOrder_48 : decode cX2_stepOrder 48 = .ok (.iload_n 1, 1) := by decide +kernel
theorem dX2_stepOrder_49 : decode cX2_stepOrder 49 = .ok (.if_icmp .le 24, 3) := by decide +kernel
theorem dX2_stepOrder_52 : decode cX2_stepOrder 52 = .ok (.aload_n 0, 1) := by decide +kernel
theorem dX2_stepOrder_53 : decode cX2_stepOrder 53 = .ok (.getfield 15, 3) := by decide +kernel
theorem dX2_stepOrder_56 : decode cX2_stepOrder 56 = .ok (.iload_n 2, 1) := by decide +kernel
theorem dX2_stepOrder_57 : decode cX2_stepOrder 57 = .ok (.iaload, 1) := by decide +kernel
theorem dX2_stepOrder_58 : decode cX2_stepOrder 58 = .ok (.aload_n 0, 1) := by decide +kernel
theorem dX2_stepOrder_59 : decode cX2_stepOrder 59 = .ok (.getfield 15, 3) := by decide +kernel
theorem dX2_stepOrder_62 : decode cX2_stepOrder 62 = .ok (.iload_n 1, 1) := by decide +kernel
theorem dX2_stepOrder_63 : decode cX2_stepOrder 63 = .ok (.iaload, 1) := by decide +kernel
theorem dX2_stepOrder_64 : decode cX2_stepOrder 64 = .ok (.if_icmp .ge 9, 3) := by decide +kernel
theorem dX2_stepOrder_67 : decode cX2_stepOrder 67 = .ok (.iinc 2 (-1), 3) := by decide +kernel
theorem dX2_stepOrder_70 : decode cX2_stepOrder 70 = .ok (.goto (-23), 3) := by decide +kernel
theorem dX2_stepOrder_73 : decode cX2_stepOrder 73 = .ok (.aload_n 0, 1) := by decide +kernel
theorem dX2_stepOrder_74 : decode cX2_stepOrder 74 = .ok (.iload_n 1, 1) := by decide +kernel
theorem dX2_stepOrder_75 : decode cX2_stepOrder 75 = .ok (.iload_n 2, 1) := by decide +kernel
theorem dX2_stepOrder_76 : decode cX2_stepOrder 76 = .ok (.invokevirtual 63, 3) := by decide +kernel
theorem dX2_stepOrder_79 : decode cX2_stepOrder 79 = .ok (.iload_n 1, 1) := by decide +kernel
theorem dX2_stepOrder_80 : decode cX2_stepOrder 80 = .ok (.iconst 1, 1) := by decide +kernel
theorem dX2_stepOrder_81 : decode cX2_stepOrder 81 = .ok (.iadd, 1) := by decide +kernel
theorem dX2_stepOrder_82 : decode cX2_stepOrder 82 = .ok (.istore_n 3, 1) := by decide +kernel
theorem dX2_stepOrder_83 : decode cX2_stepOrder 83 = .ok (.aload_n 0, 1) := by decide +kernel
theorem dX2_stepOrder_84 : decode cX2_stepOrder 84 = .ok (.getfield 32, 3) := by decide +kernel
theorem dX2_stepOrder_87 : decode cX2_stepOrder 87 = .ok (.iconst 1, 1) := by decide +kernel
theorem dX2_stepOrder_88 : decode cX2_stepOrder 88 = .ok (.isub, 1) := by decide +kernel
theorem dX2_stepOrder_89 : decode cX2_stepOrder 89 = .ok (.istore 4, 2) := by decide +kernel
theorem dX2_stepOrder_91 : decode cX2_stepOrder 91 = .ok (.iload_n 3, 1) := by decide +kernel
theorem dX2_stepOrder_92 : decode cX2_stepOrder 92 = .ok (.iload 4, 2) := by decide +kernel
theorem dX2_stepOrder_94 : decode cX2_stepOrder 94 = .ok (.if_icmp .ge 19, 3) := by decide +kernel
theorem dX2_stepOrder_97 : decode cX2_stepOrder 97 = .ok (.aload_n 0, 1) := by decide +kernel
theorem dX2_stepOrder_98 : decode cX2_stepOrder 98 = .ok (.iload_n 3, 1) := by decide +kernel
theorem dX2_stepOrder_99 : decode cX2_stepOrder 99 = .ok (.iload 4, 2) := by decide +kernel
theorem dX2_stepOrder_101 : decode cX2_stepOrder 101 = .ok (.invokevirtual 63, 3) := by decide +kernel
theorem dX2_stepOrder_104 : decode cX2_stepOrder 104 = .ok (.iinc 3 1, 3) := by decide +kernel
theorem dX2_stepOrder_107 : decode cX2_stepOrder 107 = .ok (.iinc 4 (-1), 3) := by decide +kernel
theorem dX2_stepOrder_110 : decode cX2_stepOrder 110 = .ok (.goto (-19), 3) := by decide +kernel
theorem dX2_stepOrder_113 : decode cX2_stepOrder 113 = .ok (.iconst 1, 1) := by decide +kernel
theorem dX2_stepOrder_114 : decode cX2_stepOrder 114 = .ok (.ireturn, 1) := by decide +kernel
theorem dX2_swap_0 : decode cX2_swap 0 = .ok (.aload_n 0, 1) := by decide +kernel
theorem dX2_swap_1 : decode cX2_swap 1 = .ok (.getfield 15, 3) := by decide +kernel
theorem dX2_swap_4 : decode cX2_swap 4 = .ok (.iload_n 1, 1) := by decide +kernel
theorem dX2_swap_5 : decode cX2_swap 5 = .ok (.iaload, 1) := by decide +kernel
theorem dX2_swap_6 : decode cX2_swap 6 = .ok (.istore_n 3, 1) := by decide +kernel
theorem dX2_swap_7 : decode cX2_swap 7 = .ok (.aload_n 0, 1) := by decide +kernel
theorem dX2_swap_8 : decode cX2_swap 8 = .ok (.getfield 15, 3) := by decide +kernel
theorem dX2_swap_11 : decode cX2_swap 11 = .ok (.iload_n 1, 1) := by decide +kernel
theorem dX2_swap_12 : decode cX2_swap 12 = .ok (.aload_n 0, 1) := by decide +kernel
theorem dX2_swap_13 : decode cX2_swap 13 = .ok (.getfield 15, 3) := by decide +kernel
theorem dX2_swap_16 : decode cX2_swap 16 = .ok (.iload_n 2, 1) := by decide +kernel
theorem dX2_swap_17 : decode cX2_swap 17 = .ok (.iaload, 1) := by decide +kernel
theorem dX2_swap_18 : decode cX2_swap 18 = .ok (.iastore, 1) := by decide +kernel
theorem dX2_swap_19 : decode cX2_swap 19 = .ok (.aload_n 0, 1) := by decide +kernel
theorem dX2_swap_20 : decode cX2_swap 20 = .ok (.getfield 15, 3) := by decide +kernel
theorem dX2_swap_23 : decode cX2_swap 23 = .ok (.iload_n 2, 1) := by decide +kernel
theorem dX2_swap_24 : decode cX2_swap 24 = .ok (.iload_n 3, 1) := by decide +kernel
theorem dX2_swap_25 : decode cX2_swap 25 = .ok (.iastore, 1) := by decide +kernel
theorem dX2_swap_26 : decode cX2_swap 26 = .ok (.return_, 1) := by decide +kernel
theorem dX3_init_0 : decode cX3_init 0 = .ok (.aload_n 0, 1) := by decide +kernel
theorem dX3_init_1 : decode cX3_init 1 = .ok (.invokespecial 3, 3) := by decide +kernel
theorem dX3_init_4 : decode cX3_init 4 = .ok (.aload_n 0, 1) := by decide +kernel
theorem dX3_init_5 : decode cX3_init 5 = .ok (.iconst 0, 1) := by decide +kernel
theorem dX3_init_6 : decode cX3_init 6 = .ok (.putfield 9, 3) := by decide +kernel
theorem dX3_init_9 : decode cX3_init 9 = .ok (.aload_n 0, 1) := by decide +kernel
theorem dX3_init_10 : decode cX3_init 10 = .ok (.iconst 0, 1) := by decide +kernel
theorem dX3_init_11 : decode cX3_init 11 = .ok (.putfield 15, 3) := by decide +kernel
theorem dX3_init_14 : decode cX3_init 14 = .ok (.aload_n 0, 1) := by decide +kernel
theorem dX3_init_15 : decode cX3_init 15 = .ok (.bipush 40, 2) := by decide +kernel
theorem dX3_init_17 : decode cX3_init 17 = .ok (.newarray .int, 2) := by decide +kernel
theorem dX3_init_19 : decode cX3_init 19 = .ok (.putfield 18, 3) := by decide +kernel
theorem dX3_init_22 : decode cX3_init 22 = .ok (.return_, 1) := by decide +kernel
theorem dX3_hasBits_0 : decode cX3_hasBits 0 = .ok (.iload_n 0, 1) := by decide +kernel
theorem dX3_hasBits_1 : decode cX3_hasBits 1 = .ok (.ifCond .eq 21, 3) := by decide +kernel
theorem dX3_hasBits_4 : decode cX3_hasBits 4 = .ok (.iload_n 0, 1) := by decide +kernel
theorem dX3_hasBits_5 : decode cX3_hasBits 5 = .ok (.bipush 8, 2) := by decide +kernel
theorem dX3_hasBits_7 : decode cX3_hasBits 7 = .ok (.if_icmp .eq 15, 3) := by decide +kernel
theorem dX3_hasBits_10 : decode cX3_hasBits 10 = .ok (.iload_n 0, 1) := by decide +kernel
theorem dX3_hasBits_11 : decode cX3_hasBits 11 = .ok (.bipush 16, 2) := by decide +kernel
theorem dX3_hasBits_13 : decode cX3_hasBits 13 = .ok (.if_icmp .eq 9, 3) := by decide +kernel
theorem dX3_hasBits_16 : decode cX3_hasBits 16 = .ok (.iload_n 0, 1) := by decide +kernel
theorem dX3_hasBits_17 : decode cX3_hasBits 17 = .ok (.bipush 32, 2) := by decide +kernel
theorem dX3_hasBits_19 : decode cX3_hasBits 19 = .ok (.if_icmp .ne 7, 3) := by decide +kernel
theorem dX3_hasBits_22 : decode cX3_hasBits 22 = .ok (.iconst 1, 1) := by decide +kernel
theorem dX3_hasBits_23 : decode cX3_hasBits 23 = .ok (.goto 4, 3) := by decide +kernel
theorem dX3_hasBits_26 : decode cX3_hasBits 26 = .ok (.iconst 0, 1) := by decide +kernel
theorem dX3_hasBits_27 : decode cX3_hasBits 27 = .ok (.ireturn, 1) := by decide +kernel
theorem dX3_begin_0 : decode cX3_begin 0 = .ok (.aload_n 0, 1) := by decide +kernel
theorem dX3_begin_1 : decode cX3_begin 1 = .ok (.iload_n 1, 1) := by decide +kernel
theorem dX3_begin_2 : decode cX3_begin 2 = .ok (.putfield 9, 3) := by decide +kernel
theorem dX3_begin_5 : decode cX3_begin 5 = .ok (.aload_n 0, 1) := by decide +kernel
theorem dX3_begin_6 : decode cX3_begin 6 = .ok (.iload_n 1, 1) := by decide +kernel
theorem dX3_begin_7 : decode cX3_begin 7 = .ok (.ifCond .ne 7, 3) := by decide +kernel
theorem dX3_begin_10 : decode cX3_begin 10 = .ok (.iconst 0, 1) := by decide +kernel
theorem dX3_begin_11 : decode cX3_begin 11 = .ok (.goto 4, 3) := by decide +kernel
theorem dX3_begin_14 : decode cX3_begin 14 = .ok (.iload_n 2, 1) := by decide +kernel
theorem dX3_begin_15 : decode cX3_begin 15 = .ok (.putfield 15, 3) := by decide +kernel
theorem dX3_begin_18 : decode cX3_begin 18 = .ok (.aload_n 0, 1) := by decide +kernel
theorem dX3_begin_19 : decode cX3_begin 19 = .ok (.getfield 18, 3) := by decide +kernel
theorem dX3_begin_22 : decode cX3_begin 22 = .ok (.iconst 0, 1) := by decide +kernel
theorem dX3_begin_23 : decode cX3_begin 23 = .ok (.invokestatic 22, 3) := by decide +kernel
theorem dX3_begin_26 : decode cX3_begin 26 = .ok (.return_, 1) := by decide +kernel
theorem dX3_isMissing_0 : decode cX3_isMissing 0 = .ok (.aload_n 0, 1) := by decide +kernel
theorem dX3_isMissing_1 : decode cX3_isMissing 1 = .ok (.getfield 9, 3) := by decide +kernel
theorem dX3_isMissing_4 : decode cX3_isMissing 4 = .ok (.ifCond .ne 7, 3) := by decide +kernel
theorem dX3_isMissing_7 : decode cX3_isMissing 7 = .ok (.iconst 1, 1) := by decide +kernel
theorem dX3_isMissing_8 : decode cX3_isMissing 8 = .ok (.goto 4, 3) := by decide +kernel
theorem dX3_isMissing_11 : decode cX3_isMissing 11 = .ok (.iconst 0, 1) := by decide +kernel
theorem dX3_isMissing_12 : decode cX3_isMissing 12 = .ok (.ireturn, 1) := by decide +kernel
theorem dX3_put_0 : decode cX3_put 0 = .ok (.iload_n 1, 1) := by decide +kernel
theorem dX3_put_1 : decode cX3_put 1 = .ok (.aload_n 0, 1) := by decide +kernel
theorem dX3_put_2 : decode cX3_put 2 = .ok (.getfield 15, 3) := by decide +kernel
theorem dX3_put_5 : decode cX3_put 5 = .ok (.iconst 1, 1) := by decide +kernel
theorem dX3_put_6 : decode cX3_put 6 = .ok (.isub, 1) := by decide +kernel
theorem dX3_put_7 : decode cX3_put 7 = .ok (.invokestatic 28, 3) := by decide +kernel
theorem dX3_put_10 : decode cX3_put 10 = .ok (.ifCond .eq 38, 3) := by decide +kernel
theorem dX3_put_13 : decode cX3_put 13 = .ok (.aload_n 0, 1) := by decide +kernel
theorem dX3_put_14 : decode cX3_put 14 = .ok (.getfield 18, 3) := by decide +kernel
theorem dX3_put_17 : decode cX3_put 17 = .ok (.iload_n 1, 1) := by decide +kernel
theorem dX3_put_18 : decode cX3_put 18 = .ok (.aload_n 0, 1) := by decide +kernel
theorem dX3_put_19 : decode cX3_put 19 = .ok (.getfield 9, 3) := by decide +kernel
theorem dX3_put_22 : decode cX3_put 22 = .ok (.bipush 8, 2) := by decide +kernel
theorem dX3_put_24 : decode cX3_put 24 = .ok (.if_icmp .ne 8, 3) := by decide +kernel
theorem dX3_put_27 : decode cX3_put 27 = .ok (.iload_n 2, 1) := by decide +kernel
theorem dX3_put_28 : decode cX3_put 28 = .ok (.i2b, 1) := by decide +kernel
theorem dX3_put_29 : decode cX3_put 29 = .ok (.goto 18, 3) := by decide +kernel
theorem dX3_put_32 : decode cX3_put 32 = .ok (.aload_n 0, 1) := by decide +kernel
theorem dX3_put_33 : decode cX3_put 33 = .ok (.getfield 9, 3) := by decide +kernel
theorem dX3_put_36 : decode cX3_put 36 = .ok (.bipush 16, 2) := by decide +kernel
theorem dX3_put_38 : decode cX3_put 38 = .ok (.if_icmp .ne 8, 3) := by decide +kernel
theorem dX3_put_41 : decode cX3_put 41 = .ok (.iload_n 2, 1) := by decide +kernel
theorem dX3_put_42 : decode cX3_put 42 = .ok (.i2s, 1) := by decide +kernel
theorem dX3_put_43 : decode cX3_put 43 = .ok (.goto 4, 3) := by decide +kernel
theorem dX3_put_46 : decode cX3_put 46 = .ok (.iload_n 2, 1) := by decide +kernel
theorem dX3_put_47 : decode cX3_put 47 = .ok (.iastore, 1) := by decide +kernel
theorem dX3_put_48 : decode cX3_put 48 = .ok (.return_, 1) := by decide +kernel
theorem dX3_allows_0 : decode cX3_allows 0 = .ok (.iload_n 1, 1) := by decide +kernel
theorem dX3_allows_1 : decode cX3_allows 1 = .ok (.aload_n 0, 1) := by decide +kernel
theorem dX3_allows_2 : decode cX3_allows 2 = .ok (.getfield 15, 3) := by decide +kernel
theorem dX3_allows_5 : decode cX3_allows 5 = .ok (.iconst 1, 1) := by decide +kernel
theorem dX3_allows_6 : decode cX3_allows 6 = .ok (.isub, 1) := by decide +kernel
theorem dX3_allows_7 : decode cX3_allows 7 = .ok (.invokestatic 28, 3) := by decide +kernel
theorem dX3_allows_10 : decode cX3_allows 10 = .ok (.ifCond .eq 13, 3) := by decide +kernel
theorem dX3_allows_13 : decode cX3_allows 13 = .ok (.aload_n 0, 1) := by decide +kernel
theorem dX3_allows_14 : decode cX3_allows 14 = .ok (.getfield 18, 3) := by decide +kernel
theorem dX3_allows_17 : decode cX3_allows 17 = .ok (.iload_n 1, 1) := by decide +kernel
theorem dX3_allows_18 : decode cX3_allows 18 = .ok (.iaload, 1) := by decide +kernel
theorem dX3_allows_19 : decode cX3_allows 19 = .ok (.iload_n 2, 1) := by decide +kernel
theorem dX3_allows_20 : decode cX3_allows 20 = .ok (.if_icmp .ne 7, 3) := by decide +kernel
theorem dX3_allows_23 : decode cX3_allows 23 = .ok (.iconst 1, 1) := by decide +kernel
theorem dX3_allows_24 : decode cX3_allows 24 = .ok (.goto 4, 3) := by decide +kernel
theorem dX3_allows_27 : decode cX3_allows 27 = .ok (.iconst 0, 1) := by decide +kernel
theorem dX3_allows_28 : decode cX3_allows 28 = .ok (.ireturn, 1) := by decide +kernel
theorem dX3_hasRange_0 : decode cX3_hasRange 0 = .ok (.iload_n 1, 1) := by decide +kernel
theorem dX3_hasRange_1 : decode cX3_hasRange 1 = .ok (.ifCond .lt 29, 3) := by decide +kernel
theorem dX3_hasRange_4 : decode cX3_hasRange 4 = .ok (.iload_n 2, 1) := by decide +kernel
theorem dX3_hasRange_5 : decode cX3_hasRange 5 = .ok (.ifCond .lt 25, 3) := by decide +kernel
theorem dX3_hasRange_8 : decode cX3_hasRange 8 = .ok (.iload_n 1, 1) := by decide +kernel
theorem dX3_hasRange_9 : decode cX3_hasRange 9 = .ok (.aload_n 0, 1) := by decide +kernel
theorem dX3_hasRange_10 : decode cX3_hasRange 10 = .ok (.getfield 15, 3) := by decide +kernel
theorem dX3_hasRange_13 : decode cX3_hasRange 13 = .ok (.if_icmp .gt 17, 3) := by decide +kernel
theorem dX3_hasRange_16 : decode cX3_hasRange 16 = .ok (.iload_n 2, 1) := by decide +kernel
theorem dX3_hasRange_17 : decode cX3_hasRange 17 = .ok (.aload_n 0, 1) := by decide +kernel
theorem dX3_hasRange_18 : decode cX3_hasRange 18 = .ok (.getfield 15, 3) := by decide +kernel
theorem dX3_hasRange_21 : decode cX3_hasRange 21 = .ok (.iload_n 1, 1) := by decide +kernel
theorem dX3_hasRange_22 : decode cX3_hasRange 22 = .ok (.isub, 1) := by decide +kernel
theorem dX3_hasRange_23 : decode cX3_hasRange 23 = .ok (.if_icmp .gt 7, 3) := by decide +kernel
theorem dX3_hasRange_26 : decode cX3_hasRange 26 = .ok (.iconst 1, 1) := by decide +kernel
theorem dX3_hasRange_27 : decode cX3_hasRange 27 = .ok (.goto 4, 3) := by decide +kernel
theorem dX3_hasRange_30 : decode cX3_hasRange 30 = .ok (.iconst 0, 1) := by decide +kernel
theorem dX3_hasRange_31 : decode cX3_hasRange 31 = .ok (.ireturn, 1) := by decide +kernel
end
