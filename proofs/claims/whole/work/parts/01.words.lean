-- ===== PART A: goes FIRST, ahead of the names: the tables' words, and 'selects' of the private methods out of them =====
/-- a private method of a class that the tables say can be made, by its rows of tables_1 -/
def lw_okq (q : MethodName × Nat) : Prop := (q.1.cls ≠ "java/lang/invoke/MethodHandle" ∧ q.1.cls ≠ "java/lang/invoke/VarHandle") ∧ Cond.instantiable q.1.cls q.2 ∈ tables_1 ∧ Cond.privateMethod q.1 ∈ tables_1 ∧ Cond.instanceMethod q.1 ∈ tables_1
theorem lw_p0 : lw_okq (⟨"JuneVote$Tape", "at", "(I)I"⟩, 12) := ⟨⟨by decide +kernel, by decide +kernel⟩, List.mem_of_getElem? (i := 30) (by decide +kernel), List.mem_of_getElem? (i := 610) (by decide +kernel), List.mem_of_getElem? (i := 611) (by decide +kernel)⟩
theorem lw_p1 : lw_okq (⟨"JuneVote$Tape", "cutWord", "(I)I"⟩, 12) := ⟨⟨by decide +kernel, by decide +kernel⟩, List.mem_of_getElem? (i := 30) (by decide +kernel), List.mem_of_getElem? (i := 620) (by decide +kernel), List.mem_of_getElem? (i := 621) (by decide +kernel)⟩
theorem lw_p2 : lw_okq (⟨"JuneVote$Tape", "kindOfWord", "(J)I"⟩, 12) := ⟨⟨by decide +kernel, by decide +kernel⟩, List.mem_of_getElem? (i := 30) (by decide +kernel), List.mem_of_getElem? (i := 624) (by decide +kernel), List.mem_of_getElem? (i := 625) (by decide +kernel)⟩
theorem lw_p3 : lw_okq (⟨"JuneVote$Tape", "lay", "(IIJ)V"⟩, 12) := ⟨⟨by decide +kernel, by decide +kernel⟩, List.mem_of_getElem? (i := 30) (by decide +kernel), List.mem_of_getElem? (i := 628) (by decide +kernel), List.mem_of_getElem? (i := 629) (by decide +kernel)⟩
theorem lw_p4 : lw_okq (⟨"JuneVote$Tape", "cutNumber", "(I)I"⟩, 12) := ⟨⟨by decide +kernel, by decide +kernel⟩, List.mem_of_getElem? (i := 30) (by decide +kernel), List.mem_of_getElem? (i := 635) (by decide +kernel), List.mem_of_getElem? (i := 636) (by decide +kernel)⟩
theorem lw_p5 : lw_okq (⟨"JuneVote$Reader", "readLine", "()Z"⟩, 10) := ⟨⟨by decide +kernel, by decide +kernel⟩, List.mem_of_getElem? (i := 260) (by decide +kernel), List.mem_of_getElem? (i := 704) (by decide +kernel), List.mem_of_getElem? (i := 705) (by decide +kernel)⟩
theorem lw_p6 : lw_okq (⟨"JuneVote$Reader", "beginLine", "(Z)Z"⟩, 10) := ⟨⟨by decide +kernel, by decide +kernel⟩, List.mem_of_getElem? (i := 260) (by decide +kernel), List.mem_of_getElem? (i := 708) (by decide +kernel), List.mem_of_getElem? (i := 709) (by decide +kernel)⟩
theorem lw_p7 : lw_okq (⟨"JuneVote$Reader", "refuse", "(I)Z"⟩, 10) := ⟨⟨by decide +kernel, by decide +kernel⟩, List.mem_of_getElem? (i := 260) (by decide +kernel), List.mem_of_getElem? (i := 712) (by decide +kernel), List.mem_of_getElem? (i := 713) (by decide +kernel)⟩
theorem lw_p8 : lw_okq (⟨"JuneVote$Reader", "readMonth", "()Z"⟩, 10) := ⟨⟨by decide +kernel, by decide +kernel⟩, List.mem_of_getElem? (i := 260) (by decide +kernel), List.mem_of_getElem? (i := 717) (by decide +kernel), List.mem_of_getElem? (i := 718) (by decide +kernel)⟩
theorem lw_p9 : lw_okq (⟨"JuneVote$Reader", "wantNewName", "([JI)Z"⟩, 10) := ⟨⟨by decide +kernel, by decide +kernel⟩, List.mem_of_getElem? (i := 260) (by decide +kernel), List.mem_of_getElem? (i := 721) (by decide +kernel), List.mem_of_getElem? (i := 722) (by decide +kernel)⟩
theorem lw_p10 : lw_okq (⟨"JuneVote$Reader", "placeOfName", "([JI)I"⟩, 10) := ⟨⟨by decide +kernel, by decide +kernel⟩, List.mem_of_getElem? (i := 260) (by decide +kernel), List.mem_of_getElem? (i := 725) (by decide +kernel), List.mem_of_getElem? (i := 726) (by decide +kernel)⟩
theorem lw_p11 : lw_okq (⟨"JuneVote$Reader", "want", "(I)Z"⟩, 10) := ⟨⟨by decide +kernel, by decide +kernel⟩, List.mem_of_getElem? (i := 260) (by decide +kernel), List.mem_of_getElem? (i := 729) (by decide +kernel), List.mem_of_getElem? (i := 730) (by decide +kernel)⟩
theorem lw_p12 : lw_okq (⟨"JuneVote$Reader", "wantNumber", "(II)Z"⟩, 10) := ⟨⟨by decide +kernel, by decide +kernel⟩, List.mem_of_getElem? (i := 260) (by decide +kernel), List.mem_of_getElem? (i := 733) (by decide +kernel), List.mem_of_getElem? (i := 734) (by decide +kernel)⟩
theorem lw_p13 : lw_okq (⟨"JuneVote$Reader", "readPerson", "()Z"⟩, 10) := ⟨⟨by decide +kernel, by decide +kernel⟩, List.mem_of_getElem? (i := 260) (by decide +kernel), List.mem_of_getElem? (i := 741) (by decide +kernel), List.mem_of_getElem? (i := 742) (by decide +kernel)⟩
theorem lw_p14 : lw_okq (⟨"JuneVote$Reader", "readFormula", "(I)Z"⟩, 10) := ⟨⟨by decide +kernel, by decide +kernel⟩, List.mem_of_getElem? (i := 260) (by decide +kernel), List.mem_of_getElem? (i := 749) (by decide +kernel), List.mem_of_getElem? (i := 750) (by decide +kernel)⟩
theorem lw_p15 : lw_okq (⟨"JuneVote$Reader", "readChain", "(II)Z"⟩, 10) := ⟨⟨by decide +kernel, by decide +kernel⟩, List.mem_of_getElem? (i := 260) (by decide +kernel), List.mem_of_getElem? (i := 757) (by decide +kernel), List.mem_of_getElem? (i := 758) (by decide +kernel)⟩
def lw_privs_1 : List (MethodName × Nat) := [(⟨"JuneVote$Tape", "at", "(I)I"⟩, 12), (⟨"JuneVote$Tape", "cutWord", "(I)I"⟩, 12), (⟨"JuneVote$Tape", "kindOfWord", "(J)I"⟩, 12), (⟨"JuneVote$Tape", "lay", "(IIJ)V"⟩, 12), (⟨"JuneVote$Tape", "cutNumber", "(I)I"⟩, 12), (⟨"JuneVote$Reader", "readLine", "()Z"⟩, 10), (⟨"JuneVote$Reader", "beginLine", "(Z)Z"⟩, 10), (⟨"JuneVote$Reader", "refuse", "(I)Z"⟩, 10), (⟨"JuneVote$Reader", "readMonth", "()Z"⟩, 10), (⟨"JuneVote$Reader", "wantNewName", "([JI)Z"⟩, 10), (⟨"JuneVote$Reader", "placeOfName", "([JI)I"⟩, 10), (⟨"JuneVote$Reader", "want", "(I)Z"⟩, 10), (⟨"JuneVote$Reader", "wantNumber", "(II)Z"⟩, 10), (⟨"JuneVote$Reader", "readPerson", "()Z"⟩, 10), (⟨"JuneVote$Reader", "readFormula", "(I)Z"⟩, 10), (⟨"JuneVote$Reader", "readChain", "(II)Z"⟩, 10)]
theorem lw_r1 : ∀ q ∈ lw_privs_1, lw_okq q := List.forall_mem_cons.mpr ⟨lw_p0, List.forall_mem_cons.mpr ⟨lw_p1, List.forall_mem_cons.mpr ⟨lw_p2, List.forall_mem_cons.mpr ⟨lw_p3, List.forall_mem_cons.mpr ⟨lw_p4, List.forall_mem_cons.mpr ⟨lw_p5, List.forall_mem_cons.mpr ⟨lw_p6, List.forall_mem_cons.mpr ⟨lw_p7, List.forall_mem_cons.mpr ⟨lw_p8, List.forall_mem_cons.mpr ⟨lw_p9, List.forall_mem_cons.mpr ⟨lw_p10, List.forall_mem_cons.mpr ⟨lw_p11, List.forall_mem_cons.mpr ⟨lw_p12, List.forall_mem_cons.mpr ⟨lw_p13, List.forall_mem_cons.mpr ⟨lw_p14, List.forall_mem_cons.mpr ⟨lw_p15, fun _ h => absurd h List.not_mem_nil⟩⟩⟩⟩⟩⟩⟩⟩⟩⟩⟩⟩⟩⟩⟩⟩
theorem lw_p16 : lw_okq (⟨"JuneVote$Reader", "readOne", "(I)Z"⟩, 10) := ⟨⟨by decide +kernel, by decide +kernel⟩, List.mem_of_getElem? (i := 260) (by decide +kernel), List.mem_of_getElem? (i := 761) (by decide +kernel), List.mem_of_getElem? (i := 762) (by decide +kernel)⟩
theorem lw_p17 : lw_okq (⟨"JuneVote$Reader", "readNot", "(I)Z"⟩, 10) := ⟨⟨by decide +kernel, by decide +kernel⟩, List.mem_of_getElem? (i := 260) (by decide +kernel), List.mem_of_getElem? (i := 765) (by decide +kernel), List.mem_of_getElem? (i := 766) (by decide +kernel)⟩
theorem lw_p18 : lw_okq (⟨"JuneVote$Reader", "readUnit", "(I)Z"⟩, 10) := ⟨⟨by decide +kernel, by decide +kernel⟩, List.mem_of_getElem? (i := 260) (by decide +kernel), List.mem_of_getElem? (i := 773) (by decide +kernel), List.mem_of_getElem? (i := 774) (by decide +kernel)⟩
theorem lw_p19 : lw_okq (⟨"JuneVote$Reader", "readDue", "()Z"⟩, 10) := ⟨⟨by decide +kernel, by decide +kernel⟩, List.mem_of_getElem? (i := 260) (by decide +kernel), List.mem_of_getElem? (i := 784) (by decide +kernel), List.mem_of_getElem? (i := 785) (by decide +kernel)⟩
theorem lw_p20 : lw_okq (⟨"JuneVote$Reader", "wantKnownName", "([JII)Z"⟩, 10) := ⟨⟨by decide +kernel, by decide +kernel⟩, List.mem_of_getElem? (i := 260) (by decide +kernel), List.mem_of_getElem? (i := 792) (by decide +kernel), List.mem_of_getElem? (i := 793) (by decide +kernel)⟩
theorem lw_p21 : lw_okq (⟨"JuneVote$Reader", "readDueDay", "(LJuneVote$Due;)Z"⟩, 10) := ⟨⟨by decide +kernel, by decide +kernel⟩, List.mem_of_getElem? (i := 260) (by decide +kernel), List.mem_of_getElem? (i := 796) (by decide +kernel), List.mem_of_getElem? (i := 797) (by decide +kernel)⟩
theorem lw_p22 : lw_okq (⟨"JuneVote$Reader", "beginOnce", "(I)Z"⟩, 10) := ⟨⟨by decide +kernel, by decide +kernel⟩, List.mem_of_getElem? (i := 260) (by decide +kernel), List.mem_of_getElem? (i := 800) (by decide +kernel), List.mem_of_getElem? (i := 801) (by decide +kernel)⟩
theorem lw_p23 : lw_okq (⟨"JuneVote$Reader", "readSun", "()Z"⟩, 10) := ⟨⟨by decide +kernel, by decide +kernel⟩, List.mem_of_getElem? (i := 260) (by decide +kernel), List.mem_of_getElem? (i := 804) (by decide +kernel), List.mem_of_getElem? (i := 805) (by decide +kernel)⟩
theorem lw_p24 : lw_okq (⟨"JuneVote$Reader", "readCount", "()Z"⟩, 10) := ⟨⟨by decide +kernel, by decide +kernel⟩, List.mem_of_getElem? (i := 260) (by decide +kernel), List.mem_of_getElem? (i := 812) (by decide +kernel), List.mem_of_getElem? (i := 813) (by decide +kernel)⟩
theorem lw_p25 : lw_okq (⟨"JuneVote$Reader", "readWeek", "()Z"⟩, 10) := ⟨⟨by decide +kernel, by decide +kernel⟩, List.mem_of_getElem? (i := 260) (by decide +kernel), List.mem_of_getElem? (i := 816) (by decide +kernel), List.mem_of_getElem? (i := 817) (by decide +kernel)⟩
theorem lw_p26 : lw_okq (⟨"JuneVote", "beginAnew", "()V"⟩, 17) := ⟨⟨by decide +kernel, by decide +kernel⟩, List.mem_of_getElem? (i := 22) (by decide +kernel), List.mem_of_getElem? (i := 825) (by decide +kernel), List.mem_of_getElem? (i := 826) (by decide +kernel)⟩
theorem lw_p27 : lw_okq (⟨"JuneVote$Poll", "fillFlows", "()V"⟩, 10) := ⟨⟨by decide +kernel, by decide +kernel⟩, List.mem_of_getElem? (i := 354) (by decide +kernel), List.mem_of_getElem? (i := 935) (by decide +kernel), List.mem_of_getElem? (i := 936) (by decide +kernel)⟩
theorem lw_p28 : lw_okq (⟨"JuneVote$Poll", "maskByLaw", "(LJuneVote$Republic;)I"⟩, 10) := ⟨⟨by decide +kernel, by decide +kernel⟩, List.mem_of_getElem? (i := 354) (by decide +kernel), List.mem_of_getElem? (i := 948) (by decide +kernel), List.mem_of_getElem? (i := 949) (by decide +kernel)⟩
theorem lw_p29 : lw_okq (⟨"JuneVote$Poll", "valueOf", "(III)I"⟩, 10) := ⟨⟨by decide +kernel, by decide +kernel⟩, List.mem_of_getElem? (i := 354) (by decide +kernel), List.mem_of_getElem? (i := 973) (by decide +kernel), List.mem_of_getElem? (i := 974) (by decide +kernel)⟩
theorem lw_p30 : lw_okq (⟨"JuneVote$Poll", "factOf", "(III)I"⟩, 10) := ⟨⟨by decide +kernel, by decide +kernel⟩, List.mem_of_getElem? (i := 354) (by decide +kernel), List.mem_of_getElem? (i := 983) (by decide +kernel), List.mem_of_getElem? (i := 984) (by decide +kernel)⟩
theorem lw_p31 : lw_okq (⟨"JuneVote$Poll", "fillTally", "([I)I"⟩, 10) := ⟨⟨by decide +kernel, by decide +kernel⟩, List.mem_of_getElem? (i := 354) (by decide +kernel), List.mem_of_getElem? (i := 1033) (by decide +kernel), List.mem_of_getElem? (i := 1034) (by decide +kernel)⟩
def lw_privs_2 : List (MethodName × Nat) := [(⟨"JuneVote$Reader", "readOne", "(I)Z"⟩, 10), (⟨"JuneVote$Reader", "readNot", "(I)Z"⟩, 10), (⟨"JuneVote$Reader", "readUnit", "(I)Z"⟩, 10), (⟨"JuneVote$Reader", "readDue", "()Z"⟩, 10), (⟨"JuneVote$Reader", "wantKnownName", "([JII)Z"⟩, 10), (⟨"JuneVote$Reader", "readDueDay", "(LJuneVote$Due;)Z"⟩, 10), (⟨"JuneVote$Reader", "beginOnce", "(I)Z"⟩, 10), (⟨"JuneVote$Reader", "readSun", "()Z"⟩, 10), (⟨"JuneVote$Reader", "readCount", "()Z"⟩, 10), (⟨"JuneVote$Reader", "readWeek", "()Z"⟩, 10), (⟨"JuneVote", "beginAnew", "()V"⟩, 17), (⟨"JuneVote$Poll", "fillFlows", "()V"⟩, 10), (⟨"JuneVote$Poll", "maskByLaw", "(LJuneVote$Republic;)I"⟩, 10), (⟨"JuneVote$Poll", "valueOf", "(III)I"⟩, 10), (⟨"JuneVote$Poll", "factOf", "(III)I"⟩, 10), (⟨"JuneVote$Poll", "fillTally", "([I)I"⟩, 10)]
theorem lw_r2 : ∀ q ∈ lw_privs_2, lw_okq q := List.forall_mem_cons.mpr ⟨lw_p16, List.forall_mem_cons.mpr ⟨lw_p17, List.forall_mem_cons.mpr ⟨lw_p18, List.forall_mem_cons.mpr ⟨lw_p19, List.forall_mem_cons.mpr ⟨lw_p20, List.forall_mem_cons.mpr ⟨lw_p21, List.forall_mem_cons.mpr ⟨lw_p22, List.forall_mem_cons.mpr ⟨lw_p23, List.forall_mem_cons.mpr ⟨lw_p24, List.forall_mem_cons.mpr ⟨lw_p25, List.forall_mem_cons.mpr ⟨lw_p26, List.forall_mem_cons.mpr ⟨lw_p27, List.forall_mem_cons.mpr ⟨lw_p28, List.forall_mem_cons.mpr ⟨lw_p29, List.forall_mem_cons.mpr ⟨lw_p30, List.forall_mem_cons.mpr ⟨lw_p31, fun _ h => absurd h List.not_mem_nil⟩⟩⟩⟩⟩⟩⟩⟩⟩⟩⟩⟩⟩⟩⟩⟩
theorem lw_p32 : lw_okq (⟨"JuneVote$Poll", "leastThatMayBe", "()I"⟩, 10) := ⟨⟨by decide +kernel, by decide +kernel⟩, List.mem_of_getElem? (i := 354) (by decide +kernel), List.mem_of_getElem? (i := 1037) (by decide +kernel), List.mem_of_getElem? (i := 1038) (by decide +kernel)⟩
theorem lw_p33 : lw_okq (⟨"JuneVote$Poll", "middle", "(I)I"⟩, 10) := ⟨⟨by decide +kernel, by decide +kernel⟩, List.mem_of_getElem? (i := 354) (by decide +kernel), List.mem_of_getElem? (i := 1041) (by decide +kernel), List.mem_of_getElem? (i := 1042) (by decide +kernel)⟩
theorem lw_p34 : lw_okq (⟨"JuneVote$Poll", "mean", "(I)I"⟩, 10) := ⟨⟨by decide +kernel, by decide +kernel⟩, List.mem_of_getElem? (i := 354) (by decide +kernel), List.mem_of_getElem? (i := 1045) (by decide +kernel), List.mem_of_getElem? (i := 1046) (by decide +kernel)⟩
theorem lw_p35 : lw_okq (⟨"JuneVote$Poll", "mostVoted", "()I"⟩, 10) := ⟨⟨by decide +kernel, by decide +kernel⟩, List.mem_of_getElem? (i := 354) (by decide +kernel), List.mem_of_getElem? (i := 1049) (by decide +kernel), List.mem_of_getElem? (i := 1050) (by decide +kernel)⟩
theorem lw_p36 : lw_okq (⟨"JuneVote", "canCome", "(I)Z"⟩, 17) := ⟨⟨by decide +kernel, by decide +kernel⟩, List.mem_of_getElem? (i := 22) (by decide +kernel), List.mem_of_getElem? (i := 1057) (by decide +kernel), List.mem_of_getElem? (i := 1058) (by decide +kernel)⟩
theorem lw_p37 : lw_okq (⟨"JuneVote", "letCome", "(I)V"⟩, 17) := ⟨⟨by decide +kernel, by decide +kernel⟩, List.mem_of_getElem? (i := 22) (by decide +kernel), List.mem_of_getElem? (i := 1061) (by decide +kernel), List.mem_of_getElem? (i := 1062) (by decide +kernel)⟩
theorem lw_p38 : lw_okq (⟨"JuneVote$Calendar", "settleDues", "(II)V"⟩, 9) := ⟨⟨by decide +kernel, by decide +kernel⟩, List.mem_of_getElem? (i := 299) (by decide +kernel), List.mem_of_getElem? (i := 1069) (by decide +kernel), List.mem_of_getElem? (i := 1070) (by decide +kernel)⟩
theorem lw_p39 : lw_okq (⟨"JuneVote$Calendar", "give", "(II)V"⟩, 9) := ⟨⟨by decide +kernel, by decide +kernel⟩, List.mem_of_getElem? (i := 299) (by decide +kernel), List.mem_of_getElem? (i := 1076) (by decide +kernel), List.mem_of_getElem? (i := 1077) (by decide +kernel)⟩
theorem lw_p40 : lw_okq (⟨"JuneVote", "takeBack", "(I)V"⟩, 17) := ⟨⟨by decide +kernel, by decide +kernel⟩, List.mem_of_getElem? (i := 22) (by decide +kernel), List.mem_of_getElem? (i := 1110) (by decide +kernel), List.mem_of_getElem? (i := 1111) (by decide +kernel)⟩
theorem lw_p41 : lw_okq (⟨"JuneVote", "turnForgiven", "(I)V"⟩, 17) := ⟨⟨by decide +kernel, by decide +kernel⟩, List.mem_of_getElem? (i := 22) (by decide +kernel), List.mem_of_getElem? (i := 1118) (by decide +kernel), List.mem_of_getElem? (i := 1119) (by decide +kernel)⟩
theorem lw_p42 : lw_okq (⟨"JuneVote", "giveVotes", "(II)V"⟩, 17) := ⟨⟨by decide +kernel, by decide +kernel⟩, List.mem_of_getElem? (i := 22) (by decide +kernel), List.mem_of_getElem? (i := 1122) (by decide +kernel), List.mem_of_getElem? (i := 1123) (by decide +kernel)⟩
theorem lw_p43 : lw_okq (⟨"JuneVote", "canBeAimedAt", "(I)Z"⟩, 17) := ⟨⟨by decide +kernel, by decide +kernel⟩, List.mem_of_getElem? (i := 22) (by decide +kernel), List.mem_of_getElem? (i := 1142) (by decide +kernel), List.mem_of_getElem? (i := 1143) (by decide +kernel)⟩
theorem lw_p44 : lw_okq (⟨"JuneVote$Sway", "turnChangesVotes", "()Z"⟩, 5) := ⟨⟨by decide +kernel, by decide +kernel⟩, List.mem_of_getElem? (i := 392) (by decide +kernel), List.mem_of_getElem? (i := 1201) (by decide +kernel), List.mem_of_getElem? (i := 1202) (by decide +kernel)⟩
theorem lw_p45 : lw_okq (⟨"JuneVote$Sway", "bestVote", "(I)I"⟩, 5) := ⟨⟨by decide +kernel, by decide +kernel⟩, List.mem_of_getElem? (i := 392) (by decide +kernel), List.mem_of_getElem? (i := 1205) (by decide +kernel), List.mem_of_getElem? (i := 1206) (by decide +kernel)⟩
theorem lw_p46 : lw_okq (⟨"JuneVote$Sway", "worthOfOutcome", "(II)I"⟩, 5) := ⟨⟨by decide +kernel, by decide +kernel⟩, List.mem_of_getElem? (i := 392) (by decide +kernel), List.mem_of_getElem? (i := 1209) (by decide +kernel), List.mem_of_getElem? (i := 1210) (by decide +kernel)⟩
theorem lw_p47 : lw_okq (⟨"JuneVote", "layDown", "([II)V"⟩, 17) := ⟨⟨by decide +kernel, by decide +kernel⟩, List.mem_of_getElem? (i := 22) (by decide +kernel), List.mem_of_getElem? (i := 1215) (by decide +kernel), List.mem_of_getElem? (i := 1216) (by decide +kernel)⟩
def lw_privs_3 : List (MethodName × Nat) := [(⟨"JuneVote$Poll", "leastThatMayBe", "()I"⟩, 10), (⟨"JuneVote$Poll", "middle", "(I)I"⟩, 10), (⟨"JuneVote$Poll", "mean", "(I)I"⟩, 10), (⟨"JuneVote$Poll", "mostVoted", "()I"⟩, 10), (⟨"JuneVote", "canCome", "(I)Z"⟩, 17), (⟨"JuneVote", "letCome", "(I)V"⟩, 17), (⟨"JuneVote$Calendar", "settleDues", "(II)V"⟩, 9), (⟨"JuneVote$Calendar", "give", "(II)V"⟩, 9), (⟨"JuneVote", "takeBack", "(I)V"⟩, 17), (⟨"JuneVote", "turnForgiven", "(I)V"⟩, 17), (⟨"JuneVote", "giveVotes", "(II)V"⟩, 17), (⟨"JuneVote", "canBeAimedAt", "(I)Z"⟩, 17), (⟨"JuneVote$Sway", "turnChangesVotes", "()Z"⟩, 5), (⟨"JuneVote$Sway", "bestVote", "(I)I"⟩, 5), (⟨"JuneVote$Sway", "worthOfOutcome", "(II)I"⟩, 5), (⟨"JuneVote", "layDown", "([II)V"⟩, 17)]
theorem lw_r3 : ∀ q ∈ lw_privs_3, lw_okq q := List.forall_mem_cons.mpr ⟨lw_p32, List.forall_mem_cons.mpr ⟨lw_p33, List.forall_mem_cons.mpr ⟨lw_p34, List.forall_mem_cons.mpr ⟨lw_p35, List.forall_mem_cons.mpr ⟨lw_p36, List.forall_mem_cons.mpr ⟨lw_p37, List.forall_mem_cons.mpr ⟨lw_p38, List.forall_mem_cons.mpr ⟨lw_p39, List.forall_mem_cons.mpr ⟨lw_p40, List.forall_mem_cons.mpr ⟨lw_p41, List.forall_mem_cons.mpr ⟨lw_p42, List.forall_mem_cons.mpr ⟨lw_p43, List.forall_mem_cons.mpr ⟨lw_p44, List.forall_mem_cons.mpr ⟨lw_p45, List.forall_mem_cons.mpr ⟨lw_p46, List.forall_mem_cons.mpr ⟨lw_p47, fun _ h => absurd h List.not_mem_nil⟩⟩⟩⟩⟩⟩⟩⟩⟩⟩⟩⟩⟩⟩⟩⟩
theorem lw_p48 : lw_okq (⟨"JuneVote$Foresight", "isSpentAtOnce", "(LJuneVote$Republic;I)Z"⟩, 12) := ⟨⟨by decide +kernel, by decide +kernel⟩, List.mem_of_getElem? (i := 415) (by decide +kernel), List.mem_of_getElem? (i := 1238) (by decide +kernel), List.mem_of_getElem? (i := 1239) (by decide +kernel)⟩
theorem lw_p49 : lw_okq (⟨"JuneVote$Foresight", "lookOn", "(II)Z"⟩, 12) := ⟨⟨by decide +kernel, by decide +kernel⟩, List.mem_of_getElem? (i := 415) (by decide +kernel), List.mem_of_getElem? (i := 1245) (by decide +kernel), List.mem_of_getElem? (i := 1246) (by decide +kernel)⟩
theorem lw_p50 : lw_okq (⟨"JuneVote$Foresight", "weigh", "(I)I"⟩, 12) := ⟨⟨by decide +kernel, by decide +kernel⟩, List.mem_of_getElem? (i := 415) (by decide +kernel), List.mem_of_getElem? (i := 1249) (by decide +kernel), List.mem_of_getElem? (i := 1250) (by decide +kernel)⟩
theorem lw_p51 : lw_okq (⟨"JuneVote$Foresight", "lookBehind", "(III)Z"⟩, 12) := ⟨⟨by decide +kernel, by decide +kernel⟩, List.mem_of_getElem? (i := 415) (by decide +kernel), List.mem_of_getElem? (i := 1256) (by decide +kernel), List.mem_of_getElem? (i := 1257) (by decide +kernel)⟩
theorem lw_p52 : lw_okq (⟨"JuneVote$Foresight", "compare", "(I)V"⟩, 12) := ⟨⟨by decide +kernel, by decide +kernel⟩, List.mem_of_getElem? (i := 415) (by decide +kernel), List.mem_of_getElem? (i := 1260) (by decide +kernel), List.mem_of_getElem? (i := 1261) (by decide +kernel)⟩
theorem lw_p53 : lw_okq (⟨"JuneVote$Calendar", "daysTill", "(IZ)I"⟩, 9) := ⟨⟨by decide +kernel, by decide +kernel⟩, List.mem_of_getElem? (i := 299) (by decide +kernel), List.mem_of_getElem? (i := 1279) (by decide +kernel), List.mem_of_getElem? (i := 1280) (by decide +kernel)⟩
theorem lw_p54 : lw_okq (⟨"JuneVote$Foresight", "repaired", "()I"⟩, 12) := ⟨⟨by decide +kernel, by decide +kernel⟩, List.mem_of_getElem? (i := 415) (by decide +kernel), List.mem_of_getElem? (i := 1299) (by decide +kernel), List.mem_of_getElem? (i := 1300) (by decide +kernel)⟩
theorem lw_p55 : lw_okq (⟨"JuneVote$Foresight", "step", "()V"⟩, 12) := ⟨⟨by decide +kernel, by decide +kernel⟩, List.mem_of_getElem? (i := 415) (by decide +kernel), List.mem_of_getElem? (i := 1304) (by decide +kernel), List.mem_of_getElem? (i := 1305) (by decide +kernel)⟩
theorem lw_p56 : lw_okq (⟨"JuneVote$Foresight", "areAlike", "(III)Z"⟩, 12) := ⟨⟨by decide +kernel, by decide +kernel⟩, List.mem_of_getElem? (i := 415) (by decide +kernel), List.mem_of_getElem? (i := 1319) (by decide +kernel), List.mem_of_getElem? (i := 1320) (by decide +kernel)⟩
theorem lw_p57 : lw_okq (⟨"JuneVote$Foresight", "stepFrom", "(LJuneVote$Calendar;I)V"⟩, 12) := ⟨⟨by decide +kernel, by decide +kernel⟩, List.mem_of_getElem? (i := 415) (by decide +kernel), List.mem_of_getElem? (i := 1332) (by decide +kernel), List.mem_of_getElem? (i := 1333) (by decide +kernel)⟩
theorem lw_p58 : lw_okq (⟨"JuneVote$Ledgers", "gather", "(I)V"⟩, 10) := ⟨⟨by decide +kernel, by decide +kernel⟩, List.mem_of_getElem? (i := 493) (by decide +kernel), List.mem_of_getElem? (i := 1402) (by decide +kernel), List.mem_of_getElem? (i := 1403) (by decide +kernel)⟩
theorem lw_p59 : lw_okq (⟨"JuneVote$Ledgers", "need", "(II)V"⟩, 10) := ⟨⟨by decide +kernel, by decide +kernel⟩, List.mem_of_getElem? (i := 493) (by decide +kernel), List.mem_of_getElem? (i := 1406) (by decide +kernel), List.mem_of_getElem? (i := 1407) (by decide +kernel)⟩
theorem lw_p60 : lw_okq (⟨"JuneVote$Ledgers", "countBehind", "(LJuneVote$Republic;)V"⟩, 10) := ⟨⟨by decide +kernel, by decide +kernel⟩, List.mem_of_getElem? (i := 493) (by decide +kernel), List.mem_of_getElem? (i := 1410) (by decide +kernel), List.mem_of_getElem? (i := 1411) (by decide +kernel)⟩
theorem lw_p61 : lw_okq (⟨"JuneVote$Ledgers", "longestAgreeing", "(III)I"⟩, 10) := ⟨⟨by decide +kernel, by decide +kernel⟩, List.mem_of_getElem? (i := 493) (by decide +kernel), List.mem_of_getElem? (i := 1414) (by decide +kernel), List.mem_of_getElem? (i := 1415) (by decide +kernel)⟩
theorem lw_p62 : lw_okq (⟨"JuneVote$Ledgers", "agrees", "(II)Z"⟩, 10) := ⟨⟨by decide +kernel, by decide +kernel⟩, List.mem_of_getElem? (i := 493) (by decide +kernel), List.mem_of_getElem? (i := 1418) (by decide +kernel), List.mem_of_getElem? (i := 1419) (by decide +kernel)⟩
theorem lw_p63 : lw_okq (⟨"JuneVote$Ledgers", "markReached", "(LJuneVote$Republic;I)V"⟩, 10) := ⟨⟨by decide +kernel, by decide +kernel⟩, List.mem_of_getElem? (i := 493) (by decide +kernel), List.mem_of_getElem? (i := 1430) (by decide +kernel), List.mem_of_getElem? (i := 1431) (by decide +kernel)⟩
def lw_privs_4 : List (MethodName × Nat) := [(⟨"JuneVote$Foresight", "isSpentAtOnce", "(LJuneVote$Republic;I)Z"⟩, 12), (⟨"JuneVote$Foresight", "lookOn", "(II)Z"⟩, 12), (⟨"JuneVote$Foresight", "weigh", "(I)I"⟩, 12), (⟨"JuneVote$Foresight", "lookBehind", "(III)Z"⟩, 12), (⟨"JuneVote$Foresight", "compare", "(I)V"⟩, 12), (⟨"JuneVote$Calendar", "daysTill", "(IZ)I"⟩, 9), (⟨"JuneVote$Foresight", "repaired", "()I"⟩, 12), (⟨"JuneVote$Foresight", "step", "()V"⟩, 12), (⟨"JuneVote$Foresight", "areAlike", "(III)Z"⟩, 12), (⟨"JuneVote$Foresight", "stepFrom", "(LJuneVote$Calendar;I)V"⟩, 12), (⟨"JuneVote$Ledgers", "gather", "(I)V"⟩, 10), (⟨"JuneVote$Ledgers", "need", "(II)V"⟩, 10), (⟨"JuneVote$Ledgers", "countBehind", "(LJuneVote$Republic;)V"⟩, 10), (⟨"JuneVote$Ledgers", "longestAgreeing", "(III)I"⟩, 10), (⟨"JuneVote$Ledgers", "agrees", "(II)Z"⟩, 10), (⟨"JuneVote$Ledgers", "markReached", "(LJuneVote$Republic;I)V"⟩, 10)]
theorem lw_r4 : ∀ q ∈ lw_privs_4, lw_okq q := List.forall_mem_cons.mpr ⟨lw_p48, List.forall_mem_cons.mpr ⟨lw_p49, List.forall_mem_cons.mpr ⟨lw_p50, List.forall_mem_cons.mpr ⟨lw_p51, List.forall_mem_cons.mpr ⟨lw_p52, List.forall_mem_cons.mpr ⟨lw_p53, List.forall_mem_cons.mpr ⟨lw_p54, List.forall_mem_cons.mpr ⟨lw_p55, List.forall_mem_cons.mpr ⟨lw_p56, List.forall_mem_cons.mpr ⟨lw_p57, List.forall_mem_cons.mpr ⟨lw_p58, List.forall_mem_cons.mpr ⟨lw_p59, List.forall_mem_cons.mpr ⟨lw_p60, List.forall_mem_cons.mpr ⟨lw_p61, List.forall_mem_cons.mpr ⟨lw_p62, List.forall_mem_cons.mpr ⟨lw_p63, fun _ h => absurd h List.not_mem_nil⟩⟩⟩⟩⟩⟩⟩⟩⟩⟩⟩⟩⟩⟩⟩⟩
theorem lw_p64 : lw_okq (⟨"JuneVoteModel", "clearBank", "()V"⟩, 84) := ⟨⟨by decide +kernel, by decide +kernel⟩, List.mem_of_getElem? (i := 1449) (by decide +kernel), List.mem_of_getElem? (i := 1455) (by decide +kernel), List.mem_of_getElem? (i := 1456) (by decide +kernel)⟩
theorem lw_p65 : lw_okq (⟨"JuneVoteModel", "begin", "()V"⟩, 84) := ⟨⟨by decide +kernel, by decide +kernel⟩, List.mem_of_getElem? (i := 1449) (by decide +kernel), List.mem_of_getElem? (i := 1459) (by decide +kernel), List.mem_of_getElem? (i := 1460) (by decide +kernel)⟩
theorem lw_p66 : lw_okq (⟨"JuneVoteModel", "personMany", "()I"⟩, 84) := ⟨⟨by decide +kernel, by decide +kernel⟩, List.mem_of_getElem? (i := 1449) (by decide +kernel), List.mem_of_getElem? (i := 1463) (by decide +kernel), List.mem_of_getElem? (i := 1464) (by decide +kernel)⟩
theorem lw_p67 : lw_okq (⟨"JuneVoteModel", "goOn", "()V"⟩, 84) := ⟨⟨by decide +kernel, by decide +kernel⟩, List.mem_of_getElem? (i := 1449) (by decide +kernel), List.mem_of_getElem? (i := 1724) (by decide +kernel), List.mem_of_getElem? (i := 1725) (by decide +kernel)⟩
theorem lw_p68 : lw_okq (⟨"JuneVoteModel", "sign", "(I)I"⟩, 84) := ⟨⟨by decide +kernel, by decide +kernel⟩, List.mem_of_getElem? (i := 1449) (by decide +kernel), List.mem_of_getElem? (i := 1728) (by decide +kernel), List.mem_of_getElem? (i := 1729) (by decide +kernel)⟩
theorem lw_p69 : lw_okq (⟨"JuneVoteModel", "isGood", "()Z"⟩, 84) := ⟨⟨by decide +kernel, by decide +kernel⟩, List.mem_of_getElem? (i := 1449) (by decide +kernel), List.mem_of_getElem? (i := 1773) (by decide +kernel), List.mem_of_getElem? (i := 1774) (by decide +kernel)⟩
theorem lw_p70 : lw_okq (⟨"JuneVoteModel", "readLine", "()V"⟩, 84) := ⟨⟨by decide +kernel, by decide +kernel⟩, List.mem_of_getElem? (i := 1449) (by decide +kernel), List.mem_of_getElem? (i := 1777) (by decide +kernel), List.mem_of_getElem? (i := 1778) (by decide +kernel)⟩
theorem lw_p71 : lw_okq (⟨"JuneVoteModel", "isFull", "()Z"⟩, 84) := ⟨⟨by decide +kernel, by decide +kernel⟩, List.mem_of_getElem? (i := 1449) (by decide +kernel), List.mem_of_getElem? (i := 1781) (by decide +kernel), List.mem_of_getElem? (i := 1782) (by decide +kernel)⟩
theorem lw_p72 : lw_okq (⟨"JuneVoteModel", "isWord", "(J)Z"⟩, 84) := ⟨⟨by decide +kernel, by decide +kernel⟩, List.mem_of_getElem? (i := 1449) (by decide +kernel), List.mem_of_getElem? (i := 1785) (by decide +kernel), List.mem_of_getElem? (i := 1786) (by decide +kernel)⟩
theorem lw_p73 : lw_okq (⟨"JuneVoteModel", "misplaced", "()V"⟩, 84) := ⟨⟨by decide +kernel, by decide +kernel⟩, List.mem_of_getElem? (i := 1449) (by decide +kernel), List.mem_of_getElem? (i := 1789) (by decide +kernel), List.mem_of_getElem? (i := 1790) (by decide +kernel)⟩
theorem lw_p74 : lw_okq (⟨"JuneVoteModel", "fails", "(II)V"⟩, 84) := ⟨⟨by decide +kernel, by decide +kernel⟩, List.mem_of_getElem? (i := 1449) (by decide +kernel), List.mem_of_getElem? (i := 1793) (by decide +kernel), List.mem_of_getElem? (i := 1794) (by decide +kernel)⟩
theorem lw_p75 : lw_okq (⟨"JuneVoteModel", "readMonth", "()V"⟩, 84) := ⟨⟨by decide +kernel, by decide +kernel⟩, List.mem_of_getElem? (i := 1449) (by decide +kernel), List.mem_of_getElem? (i := 1797) (by decide +kernel), List.mem_of_getElem? (i := 1798) (by decide +kernel)⟩
theorem lw_p76 : lw_okq (⟨"JuneVoteModel", "here", "([JII)I"⟩, 84) := ⟨⟨by decide +kernel, by decide +kernel⟩, List.mem_of_getElem? (i := 1449) (by decide +kernel), List.mem_of_getElem? (i := 1801) (by decide +kernel), List.mem_of_getElem? (i := 1802) (by decide +kernel)⟩
theorem lw_p77 : lw_okq (⟨"JuneVoteModel", "fresh", "(I)J"⟩, 84) := ⟨⟨by decide +kernel, by decide +kernel⟩, List.mem_of_getElem? (i := 1449) (by decide +kernel), List.mem_of_getElem? (i := 1805) (by decide +kernel), List.mem_of_getElem? (i := 1806) (by decide +kernel)⟩
theorem lw_p78 : lw_okq (⟨"JuneVoteModel", "after", "(JII)I"⟩, 84) := ⟨⟨by decide +kernel, by decide +kernel⟩, List.mem_of_getElem? (i := 1449) (by decide +kernel), List.mem_of_getElem? (i := 1809) (by decide +kernel), List.mem_of_getElem? (i := 1810) (by decide +kernel)⟩
theorem lw_p79 : lw_okq (⟨"JuneVoteModel", "must", "(Z)V"⟩, 84) := ⟨⟨by decide +kernel, by decide +kernel⟩, List.mem_of_getElem? (i := 1449) (by decide +kernel), List.mem_of_getElem? (i := 1813) (by decide +kernel), List.mem_of_getElem? (i := 1814) (by decide +kernel)⟩
def lw_privs_5 : List (MethodName × Nat) := [(⟨"JuneVoteModel", "clearBank", "()V"⟩, 84), (⟨"JuneVoteModel", "begin", "()V"⟩, 84), (⟨"JuneVoteModel", "personMany", "()I"⟩, 84), (⟨"JuneVoteModel", "goOn", "()V"⟩, 84), (⟨"JuneVoteModel", "sign", "(I)I"⟩, 84), (⟨"JuneVoteModel", "isGood", "()Z"⟩, 84), (⟨"JuneVoteModel", "readLine", "()V"⟩, 84), (⟨"JuneVoteModel", "isFull", "()Z"⟩, 84), (⟨"JuneVoteModel", "isWord", "(J)Z"⟩, 84), (⟨"JuneVoteModel", "misplaced", "()V"⟩, 84), (⟨"JuneVoteModel", "fails", "(II)V"⟩, 84), (⟨"JuneVoteModel", "readMonth", "()V"⟩, 84), (⟨"JuneVoteModel", "here", "([JII)I"⟩, 84), (⟨"JuneVoteModel", "fresh", "(I)J"⟩, 84), (⟨"JuneVoteModel", "after", "(JII)I"⟩, 84), (⟨"JuneVoteModel", "must", "(Z)V"⟩, 84)]
theorem lw_r5 : ∀ q ∈ lw_privs_5, lw_okq q := List.forall_mem_cons.mpr ⟨lw_p64, List.forall_mem_cons.mpr ⟨lw_p65, List.forall_mem_cons.mpr ⟨lw_p66, List.forall_mem_cons.mpr ⟨lw_p67, List.forall_mem_cons.mpr ⟨lw_p68, List.forall_mem_cons.mpr ⟨lw_p69, List.forall_mem_cons.mpr ⟨lw_p70, List.forall_mem_cons.mpr ⟨lw_p71, List.forall_mem_cons.mpr ⟨lw_p72, List.forall_mem_cons.mpr ⟨lw_p73, List.forall_mem_cons.mpr ⟨lw_p74, List.forall_mem_cons.mpr ⟨lw_p75, List.forall_mem_cons.mpr ⟨lw_p76, List.forall_mem_cons.mpr ⟨lw_p77, List.forall_mem_cons.mpr ⟨lw_p78, List.forall_mem_cons.mpr ⟨lw_p79, fun _ h => absurd h List.not_mem_nil⟩⟩⟩⟩⟩⟩⟩⟩⟩⟩⟩⟩⟩⟩⟩⟩
theorem lw_p80 : lw_okq (⟨"JuneVoteModel", "numeral", "(II)I"⟩, 84) := ⟨⟨by decide +kernel, by decide +kernel⟩, List.mem_of_getElem? (i := 1449) (by decide +kernel), List.mem_of_getElem? (i := 1817) (by decide +kernel), List.mem_of_getElem? (i := 1818) (by decide +kernel)⟩
theorem lw_p81 : lw_okq (⟨"JuneVoteModel", "readPerson", "()V"⟩, 84) := ⟨⟨by decide +kernel, by decide +kernel⟩, List.mem_of_getElem? (i := 1449) (by decide +kernel), List.mem_of_getElem? (i := 1821) (by decide +kernel), List.mem_of_getElem? (i := 1822) (by decide +kernel)⟩
theorem lw_p82 : lw_okq (⟨"JuneVoteModel", "personHere", "()I"⟩, 84) := ⟨⟨by decide +kernel, by decide +kernel⟩, List.mem_of_getElem? (i := 1449) (by decide +kernel), List.mem_of_getElem? (i := 1825) (by decide +kernel), List.mem_of_getElem? (i := 1826) (by decide +kernel)⟩
theorem lw_p83 : lw_okq (⟨"JuneVoteModel", "has", "(J)Z"⟩, 84) := ⟨⟨by decide +kernel, by decide +kernel⟩, List.mem_of_getElem? (i := 1449) (by decide +kernel), List.mem_of_getElem? (i := 1829) (by decide +kernel), List.mem_of_getElem? (i := 1830) (by decide +kernel)⟩
theorem lw_p84 : lw_okq (⟨"JuneVoteModel", "readRule", "(I)V"⟩, 84) := ⟨⟨by decide +kernel, by decide +kernel⟩, List.mem_of_getElem? (i := 1449) (by decide +kernel), List.mem_of_getElem? (i := 1833) (by decide +kernel), List.mem_of_getElem? (i := 1834) (by decide +kernel)⟩
theorem lw_p85 : lw_okq (⟨"JuneVoteModel", "e", "()V"⟩, 84) := ⟨⟨by decide +kernel, by decide +kernel⟩, List.mem_of_getElem? (i := 1449) (by decide +kernel), List.mem_of_getElem? (i := 1837) (by decide +kernel), List.mem_of_getElem? (i := 1838) (by decide +kernel)⟩
theorem lw_p86 : lw_okq (⟨"JuneVoteModel", "pushE", "(II)V"⟩, 84) := ⟨⟨by decide +kernel, by decide +kernel⟩, List.mem_of_getElem? (i := 1449) (by decide +kernel), List.mem_of_getElem? (i := 1841) (by decide +kernel), List.mem_of_getElem? (i := 1842) (by decide +kernel)⟩
theorem lw_p87 : lw_okq (⟨"JuneVoteModel", "unit", "()Z"⟩, 84) := ⟨⟨by decide +kernel, by decide +kernel⟩, List.mem_of_getElem? (i := 1449) (by decide +kernel), List.mem_of_getElem? (i := 1845) (by decide +kernel), List.mem_of_getElem? (i := 1846) (by decide +kernel)⟩
theorem lw_p88 : lw_okq (⟨"JuneVoteModel", "isSignHere", "(I)Z"⟩, 84) := ⟨⟨by decide +kernel, by decide +kernel⟩, List.mem_of_getElem? (i := 1449) (by decide +kernel), List.mem_of_getElem? (i := 1849) (by decide +kernel), List.mem_of_getElem? (i := 1850) (by decide +kernel)⟩
theorem lw_p89 : lw_okq (⟨"JuneVoteModel", "wordHere", "()I"⟩, 84) := ⟨⟨by decide +kernel, by decide +kernel⟩, List.mem_of_getElem? (i := 1449) (by decide +kernel), List.mem_of_getElem? (i := 1853) (by decide +kernel), List.mem_of_getElem? (i := 1854) (by decide +kernel)⟩
theorem lw_p90 : lw_okq (⟨"JuneVoteModel", "emit", "(II)V"⟩, 84) := ⟨⟨by decide +kernel, by decide +kernel⟩, List.mem_of_getElem? (i := 1449) (by decide +kernel), List.mem_of_getElem? (i := 1857) (by decide +kernel), List.mem_of_getElem? (i := 1858) (by decide +kernel)⟩
theorem lw_p91 : lw_okq (⟨"JuneVoteModel", "behindUnit", "()Z"⟩, 84) := ⟨⟨by decide +kernel, by decide +kernel⟩, List.mem_of_getElem? (i := 1449) (by decide +kernel), List.mem_of_getElem? (i := 1861) (by decide +kernel), List.mem_of_getElem? (i := 1862) (by decide +kernel)⟩
theorem lw_p92 : lw_okq (⟨"JuneVoteModel", "rankHere", "()I"⟩, 84) := ⟨⟨by decide +kernel, by decide +kernel⟩, List.mem_of_getElem? (i := 1449) (by decide +kernel), List.mem_of_getElem? (i := 1865) (by decide +kernel), List.mem_of_getElem? (i := 1866) (by decide +kernel)⟩
theorem lw_p93 : lw_okq (⟨"JuneVoteModel", "isCompared", "()Z"⟩, 84) := ⟨⟨by decide +kernel, by decide +kernel⟩, List.mem_of_getElem? (i := 1449) (by decide +kernel), List.mem_of_getElem? (i := 1869) (by decide +kernel), List.mem_of_getElem? (i := 1870) (by decide +kernel)⟩
theorem lw_p94 : lw_okq (⟨"JuneVoteModel", "readDue", "()V"⟩, 84) := ⟨⟨by decide +kernel, by decide +kernel⟩, List.mem_of_getElem? (i := 1449) (by decide +kernel), List.mem_of_getElem? (i := 1873) (by decide +kernel), List.mem_of_getElem? (i := 1874) (by decide +kernel)⟩
theorem lw_p95 : lw_okq (⟨"JuneVoteModel", "told", "(I)I"⟩, 84) := ⟨⟨by decide +kernel, by decide +kernel⟩, List.mem_of_getElem? (i := 1449) (by decide +kernel), List.mem_of_getElem? (i := 1877) (by decide +kernel), List.mem_of_getElem? (i := 1878) (by decide +kernel)⟩
def lw_privs_6 : List (MethodName × Nat) := [(⟨"JuneVoteModel", "numeral", "(II)I"⟩, 84), (⟨"JuneVoteModel", "readPerson", "()V"⟩, 84), (⟨"JuneVoteModel", "personHere", "()I"⟩, 84), (⟨"JuneVoteModel", "has", "(J)Z"⟩, 84), (⟨"JuneVoteModel", "readRule", "(I)V"⟩, 84), (⟨"JuneVoteModel", "e", "()V"⟩, 84), (⟨"JuneVoteModel", "pushE", "(II)V"⟩, 84), (⟨"JuneVoteModel", "unit", "()Z"⟩, 84), (⟨"JuneVoteModel", "isSignHere", "(I)Z"⟩, 84), (⟨"JuneVoteModel", "wordHere", "()I"⟩, 84), (⟨"JuneVoteModel", "emit", "(II)V"⟩, 84), (⟨"JuneVoteModel", "behindUnit", "()Z"⟩, 84), (⟨"JuneVoteModel", "rankHere", "()I"⟩, 84), (⟨"JuneVoteModel", "isCompared", "()Z"⟩, 84), (⟨"JuneVoteModel", "readDue", "()V"⟩, 84), (⟨"JuneVoteModel", "told", "(I)I"⟩, 84)]
theorem lw_r6 : ∀ q ∈ lw_privs_6, lw_okq q := List.forall_mem_cons.mpr ⟨lw_p80, List.forall_mem_cons.mpr ⟨lw_p81, List.forall_mem_cons.mpr ⟨lw_p82, List.forall_mem_cons.mpr ⟨lw_p83, List.forall_mem_cons.mpr ⟨lw_p84, List.forall_mem_cons.mpr ⟨lw_p85, List.forall_mem_cons.mpr ⟨lw_p86, List.forall_mem_cons.mpr ⟨lw_p87, List.forall_mem_cons.mpr ⟨lw_p88, List.forall_mem_cons.mpr ⟨lw_p89, List.forall_mem_cons.mpr ⟨lw_p90, List.forall_mem_cons.mpr ⟨lw_p91, List.forall_mem_cons.mpr ⟨lw_p92, List.forall_mem_cons.mpr ⟨lw_p93, List.forall_mem_cons.mpr ⟨lw_p94, List.forall_mem_cons.mpr ⟨lw_p95, fun _ h => absurd h List.not_mem_nil⟩⟩⟩⟩⟩⟩⟩⟩⟩⟩⟩⟩⟩⟩⟩⟩
theorem lw_p96 : lw_okq (⟨"JuneVoteModel", "readSun", "()V"⟩, 84) := ⟨⟨by decide +kernel, by decide +kernel⟩, List.mem_of_getElem? (i := 1449) (by decide +kernel), List.mem_of_getElem? (i := 1881) (by decide +kernel), List.mem_of_getElem? (i := 1882) (by decide +kernel)⟩
theorem lw_p97 : lw_okq (⟨"JuneVoteModel", "readCount", "()V"⟩, 84) := ⟨⟨by decide +kernel, by decide +kernel⟩, List.mem_of_getElem? (i := 1449) (by decide +kernel), List.mem_of_getElem? (i := 1885) (by decide +kernel), List.mem_of_getElem? (i := 1886) (by decide +kernel)⟩
theorem lw_p98 : lw_okq (⟨"JuneVoteModel", "hasMonths", "()Z"⟩, 84) := ⟨⟨by decide +kernel, by decide +kernel⟩, List.mem_of_getElem? (i := 1449) (by decide +kernel), List.mem_of_getElem? (i := 1901) (by decide +kernel), List.mem_of_getElem? (i := 1902) (by decide +kernel)⟩
theorem lw_p99 : lw_okq (⟨"JuneVoteModel", "driftUpper", "(II)I"⟩, 84) := ⟨⟨by decide +kernel, by decide +kernel⟩, List.mem_of_getElem? (i := 1449) (by decide +kernel), List.mem_of_getElem? (i := 1905) (by decide +kernel), List.mem_of_getElem? (i := 1906) (by decide +kernel)⟩
theorem lw_p100 : lw_okq (⟨"JuneVoteModel", "driftLower", "()I"⟩, 84) := ⟨⟨by decide +kernel, by decide +kernel⟩, List.mem_of_getElem? (i := 1449) (by decide +kernel), List.mem_of_getElem? (i := 1909) (by decide +kernel), List.mem_of_getElem? (i := 1910) (by decide +kernel)⟩
theorem lw_p101 : lw_okq (⟨"JuneVoteModel", "sunLower", "()I"⟩, 84) := ⟨⟨by decide +kernel, by decide +kernel⟩, List.mem_of_getElem? (i := 1449) (by decide +kernel), List.mem_of_getElem? (i := 1913) (by decide +kernel), List.mem_of_getElem? (i := 1914) (by decide +kernel)⟩
theorem lw_p102 : lw_okq (⟨"JuneVoteModel", "sunUpper", "()I"⟩, 84) := ⟨⟨by decide +kernel, by decide +kernel⟩, List.mem_of_getElem? (i := 1449) (by decide +kernel), List.mem_of_getElem? (i := 1917) (by decide +kernel), List.mem_of_getElem? (i := 1918) (by decide +kernel)⟩
theorem lw_p103 : lw_okq (⟨"JuneVoteModel", "layMay", "()V"⟩, 84) := ⟨⟨by decide +kernel, by decide +kernel⟩, List.mem_of_getElem? (i := 1449) (by decide +kernel), List.mem_of_getElem? (i := 1928) (by decide +kernel), List.mem_of_getElem? (i := 1929) (by decide +kernel)⟩
theorem lw_p104 : lw_okq (⟨"JuneVoteModel", "month", "()I"⟩, 84) := ⟨⟨by decide +kernel, by decide +kernel⟩, List.mem_of_getElem? (i := 1449) (by decide +kernel), List.mem_of_getElem? (i := 1932) (by decide +kernel), List.mem_of_getElem? (i := 1933) (by decide +kernel)⟩
theorem lw_p105 : lw_okq (⟨"JuneVoteModel", "ask", "(I)V"⟩, 84) := ⟨⟨by decide +kernel, by decide +kernel⟩, List.mem_of_getElem? (i := 1449) (by decide +kernel), List.mem_of_getElem? (i := 1936) (by decide +kernel), List.mem_of_getElem? (i := 1937) (by decide +kernel)⟩
theorem lw_p106 : lw_okq (⟨"JuneVoteModel", "comes", "(I)I"⟩, 84) := ⟨⟨by decide +kernel, by decide +kernel⟩, List.mem_of_getElem? (i := 1449) (by decide +kernel), List.mem_of_getElem? (i := 1943) (by decide +kernel), List.mem_of_getElem? (i := 1944) (by decide +kernel)⟩
theorem lw_p107 : lw_okq (⟨"JuneVoteModel", "asked", "(II)I"⟩, 84) := ⟨⟨by decide +kernel, by decide +kernel⟩, List.mem_of_getElem? (i := 1449) (by decide +kernel), List.mem_of_getElem? (i := 1947) (by decide +kernel), List.mem_of_getElem? (i := 1948) (by decide +kernel)⟩
theorem lw_p108 : lw_okq (⟨"JuneVoteModel", "isPerson", "(I)Z"⟩, 84) := ⟨⟨by decide +kernel, by decide +kernel⟩, List.mem_of_getElem? (i := 1449) (by decide +kernel), List.mem_of_getElem? (i := 1958) (by decide +kernel), List.mem_of_getElem? (i := 1959) (by decide +kernel)⟩
theorem lw_p109 : lw_okq (⟨"JuneVoteModel", "worthOf", "(II)I"⟩, 84) := ⟨⟨by decide +kernel, by decide +kernel⟩, List.mem_of_getElem? (i := 1449) (by decide +kernel), List.mem_of_getElem? (i := 1962) (by decide +kernel), List.mem_of_getElem? (i := 1963) (by decide +kernel)⟩
theorem lw_p110 : lw_okq (⟨"JuneVoteModel", "dueMany", "()I"⟩, 84) := ⟨⟨by decide +kernel, by decide +kernel⟩, List.mem_of_getElem? (i := 1449) (by decide +kernel), List.mem_of_getElem? (i := 1966) (by decide +kernel), List.mem_of_getElem? (i := 1967) (by decide +kernel)⟩
theorem lw_p111 : lw_okq (⟨"JuneVoteModel", "isForgiven", "(I)Z"⟩, 84) := ⟨⟨by decide +kernel, by decide +kernel⟩, List.mem_of_getElem? (i := 1449) (by decide +kernel), List.mem_of_getElem? (i := 1970) (by decide +kernel), List.mem_of_getElem? (i := 1971) (by decide +kernel)⟩
def lw_privs_7 : List (MethodName × Nat) := [(⟨"JuneVoteModel", "readSun", "()V"⟩, 84), (⟨"JuneVoteModel", "readCount", "()V"⟩, 84), (⟨"JuneVoteModel", "hasMonths", "()Z"⟩, 84), (⟨"JuneVoteModel", "driftUpper", "(II)I"⟩, 84), (⟨"JuneVoteModel", "driftLower", "()I"⟩, 84), (⟨"JuneVoteModel", "sunLower", "()I"⟩, 84), (⟨"JuneVoteModel", "sunUpper", "()I"⟩, 84), (⟨"JuneVoteModel", "layMay", "()V"⟩, 84), (⟨"JuneVoteModel", "month", "()I"⟩, 84), (⟨"JuneVoteModel", "ask", "(I)V"⟩, 84), (⟨"JuneVoteModel", "comes", "(I)I"⟩, 84), (⟨"JuneVoteModel", "asked", "(II)I"⟩, 84), (⟨"JuneVoteModel", "isPerson", "(I)Z"⟩, 84), (⟨"JuneVoteModel", "worthOf", "(II)I"⟩, 84), (⟨"JuneVoteModel", "dueMany", "()I"⟩, 84), (⟨"JuneVoteModel", "isForgiven", "(I)Z"⟩, 84)]
theorem lw_r7 : ∀ q ∈ lw_privs_7, lw_okq q := List.forall_mem_cons.mpr ⟨lw_p96, List.forall_mem_cons.mpr ⟨lw_p97, List.forall_mem_cons.mpr ⟨lw_p98, List.forall_mem_cons.mpr ⟨lw_p99, List.forall_mem_cons.mpr ⟨lw_p100, List.forall_mem_cons.mpr ⟨lw_p101, List.forall_mem_cons.mpr ⟨lw_p102, List.forall_mem_cons.mpr ⟨lw_p103, List.forall_mem_cons.mpr ⟨lw_p104, List.forall_mem_cons.mpr ⟨lw_p105, List.forall_mem_cons.mpr ⟨lw_p106, List.forall_mem_cons.mpr ⟨lw_p107, List.forall_mem_cons.mpr ⟨lw_p108, List.forall_mem_cons.mpr ⟨lw_p109, List.forall_mem_cons.mpr ⟨lw_p110, List.forall_mem_cons.mpr ⟨lw_p111, fun _ h => absurd h List.not_mem_nil⟩⟩⟩⟩⟩⟩⟩⟩⟩⟩⟩⟩⟩⟩⟩⟩
theorem lw_p112 : lw_okq (⟨"JuneVoteModel", "paidOn", "(II)I"⟩, 84) := ⟨⟨by decide +kernel, by decide +kernel⟩, List.mem_of_getElem? (i := 1449) (by decide +kernel), List.mem_of_getElem? (i := 1974) (by decide +kernel), List.mem_of_getElem? (i := 1975) (by decide +kernel)⟩
theorem lw_p113 : lw_okq (⟨"JuneVoteModel", "voteOf", "(I)I"⟩, 84) := ⟨⟨by decide +kernel, by decide +kernel⟩, List.mem_of_getElem? (i := 1449) (by decide +kernel), List.mem_of_getElem? (i := 1982) (by decide +kernel), List.mem_of_getElem? (i := 1983) (by decide +kernel)⟩
theorem lw_p114 : lw_okq (⟨"JuneVoteModel", "countedNow", "()I"⟩, 84) := ⟨⟨by decide +kernel, by decide +kernel⟩, List.mem_of_getElem? (i := 1449) (by decide +kernel), List.mem_of_getElem? (i := 1990) (by decide +kernel), List.mem_of_getElem? (i := 1991) (by decide +kernel)⟩
theorem lw_p115 : lw_okq (⟨"JuneVoteModel", "layVotes", "()V"⟩, 84) := ⟨⟨by decide +kernel, by decide +kernel⟩, List.mem_of_getElem? (i := 1449) (by decide +kernel), List.mem_of_getElem? (i := 1994) (by decide +kernel), List.mem_of_getElem? (i := 1995) (by decide +kernel)⟩
theorem lw_p116 : lw_okq (⟨"JuneVoteModel", "countedBy", "()I"⟩, 84) := ⟨⟨by decide +kernel, by decide +kernel⟩, List.mem_of_getElem? (i := 1449) (by decide +kernel), List.mem_of_getElem? (i := 1998) (by decide +kernel), List.mem_of_getElem? (i := 1999) (by decide +kernel)⟩
theorem lw_p117 : lw_okq (⟨"JuneVoteModel", "leastMay", "()I"⟩, 84) := ⟨⟨by decide +kernel, by decide +kernel⟩, List.mem_of_getElem? (i := 1449) (by decide +kernel), List.mem_of_getElem? (i := 2002) (by decide +kernel), List.mem_of_getElem? (i := 2003) (by decide +kernel)⟩
theorem lw_p118 : lw_okq (⟨"JuneVoteModel", "isDue", "(I)Z"⟩, 84) := ⟨⟨by decide +kernel, by decide +kernel⟩, List.mem_of_getElem? (i := 1449) (by decide +kernel), List.mem_of_getElem? (i := 2014) (by decide +kernel), List.mem_of_getElem? (i := 2015) (by decide +kernel)⟩
theorem lw_p119 : lw_okq (⟨"JuneVoteModel", "keepAct", "()V"⟩, 84) := ⟨⟨by decide +kernel, by decide +kernel⟩, List.mem_of_getElem? (i := 1449) (by decide +kernel), List.mem_of_getElem? (i := 2034) (by decide +kernel), List.mem_of_getElem? (i := 2035) (by decide +kernel)⟩
theorem lw_p120 : lw_okq (⟨"JuneVoteModel", "real", "(I)V"⟩, 84) := ⟨⟨by decide +kernel, by decide +kernel⟩, List.mem_of_getElem? (i := 1449) (by decide +kernel), List.mem_of_getElem? (i := 2038) (by decide +kernel), List.mem_of_getElem? (i := 2039) (by decide +kernel)⟩
theorem lw_p121 : lw_okq (⟨"JuneVoteModel", "goesBy", "(I)V"⟩, 84) := ⟨⟨by decide +kernel, by decide +kernel⟩, List.mem_of_getElem? (i := 1449) (by decide +kernel), List.mem_of_getElem? (i := 2042) (by decide +kernel), List.mem_of_getElem? (i := 2043) (by decide +kernel)⟩
theorem lw_p122 : lw_okq (⟨"JuneVoteModel", "exchange", "()V"⟩, 84) := ⟨⟨by decide +kernel, by decide +kernel⟩, List.mem_of_getElem? (i := 1449) (by decide +kernel), List.mem_of_getElem? (i := 2062) (by decide +kernel), List.mem_of_getElem? (i := 2063) (by decide +kernel)⟩
theorem lw_p123 : lw_okq (⟨"JuneVoteModel", "canTurnTo", "(I)Z"⟩, 84) := ⟨⟨by decide +kernel, by decide +kernel⟩, List.mem_of_getElem? (i := 1449) (by decide +kernel), List.mem_of_getElem? (i := 2074) (by decide +kernel), List.mem_of_getElem? (i := 2075) (by decide +kernel)⟩
theorem lw_p124 : lw_okq (⟨"JuneVoteModel", "isTurnedBy", "(II)Z"⟩, 84) := ⟨⟨by decide +kernel, by decide +kernel⟩, List.mem_of_getElem? (i := 1449) (by decide +kernel), List.mem_of_getElem? (i := 2078) (by decide +kernel), List.mem_of_getElem? (i := 2079) (by decide +kernel)⟩
theorem lw_p125 : lw_okq (⟨"JuneVoteModel", "betterVote", "(I)I"⟩, 84) := ⟨⟨by decide +kernel, by decide +kernel⟩, List.mem_of_getElem? (i := 1449) (by decide +kernel), List.mem_of_getElem? (i := 2101) (by decide +kernel), List.mem_of_getElem? (i := 2102) (by decide +kernel)⟩
theorem lw_p126 : lw_okq (⟨"JuneVoteModel", "worthBy", "(II)I"⟩, 84) := ⟨⟨by decide +kernel, by decide +kernel⟩, List.mem_of_getElem? (i := 1449) (by decide +kernel), List.mem_of_getElem? (i := 2105) (by decide +kernel), List.mem_of_getElem? (i := 2106) (by decide +kernel)⟩
theorem lw_p127 : lw_okq (⟨"JuneVoteModel", "keepPlace", "(I)V"⟩, 84) := ⟨⟨by decide +kernel, by decide +kernel⟩, List.mem_of_getElem? (i := 1449) (by decide +kernel), List.mem_of_getElem? (i := 2113) (by decide +kernel), List.mem_of_getElem? (i := 2114) (by decide +kernel)⟩
def lw_privs_8 : List (MethodName × Nat) := [(⟨"JuneVoteModel", "paidOn", "(II)I"⟩, 84), (⟨"JuneVoteModel", "voteOf", "(I)I"⟩, 84), (⟨"JuneVoteModel", "countedNow", "()I"⟩, 84), (⟨"JuneVoteModel", "layVotes", "()V"⟩, 84), (⟨"JuneVoteModel", "countedBy", "()I"⟩, 84), (⟨"JuneVoteModel", "leastMay", "()I"⟩, 84), (⟨"JuneVoteModel", "isDue", "(I)Z"⟩, 84), (⟨"JuneVoteModel", "keepAct", "()V"⟩, 84), (⟨"JuneVoteModel", "real", "(I)V"⟩, 84), (⟨"JuneVoteModel", "goesBy", "(I)V"⟩, 84), (⟨"JuneVoteModel", "exchange", "()V"⟩, 84), (⟨"JuneVoteModel", "canTurnTo", "(I)Z"⟩, 84), (⟨"JuneVoteModel", "isTurnedBy", "(II)Z"⟩, 84), (⟨"JuneVoteModel", "betterVote", "(I)I"⟩, 84), (⟨"JuneVoteModel", "worthBy", "(II)I"⟩, 84), (⟨"JuneVoteModel", "keepPlace", "(I)V"⟩, 84)]
theorem lw_r8 : ∀ q ∈ lw_privs_8, lw_okq q := List.forall_mem_cons.mpr ⟨lw_p112, List.forall_mem_cons.mpr ⟨lw_p113, List.forall_mem_cons.mpr ⟨lw_p114, List.forall_mem_cons.mpr ⟨lw_p115, List.forall_mem_cons.mpr ⟨lw_p116, List.forall_mem_cons.mpr ⟨lw_p117, List.forall_mem_cons.mpr ⟨lw_p118, List.forall_mem_cons.mpr ⟨lw_p119, List.forall_mem_cons.mpr ⟨lw_p120, List.forall_mem_cons.mpr ⟨lw_p121, List.forall_mem_cons.mpr ⟨lw_p122, List.forall_mem_cons.mpr ⟨lw_p123, List.forall_mem_cons.mpr ⟨lw_p124, List.forall_mem_cons.mpr ⟨lw_p125, List.forall_mem_cons.mpr ⟨lw_p126, List.forall_mem_cons.mpr ⟨lw_p127, fun _ h => absurd h List.not_mem_nil⟩⟩⟩⟩⟩⟩⟩⟩⟩⟩⟩⟩⟩⟩⟩⟩
theorem lw_p128 : lw_okq (⟨"JuneVoteModel", "bringPlace", "(I)V"⟩, 84) := ⟨⟨by decide +kernel, by decide +kernel⟩, List.mem_of_getElem? (i := 1449) (by decide +kernel), List.mem_of_getElem? (i := 2117) (by decide +kernel), List.mem_of_getElem? (i := 2118) (by decide +kernel)⟩
theorem lw_p129 : lw_okq (⟨"JuneVoteModel", "keepHead", "()V"⟩, 84) := ⟨⟨by decide +kernel, by decide +kernel⟩, List.mem_of_getElem? (i := 1449) (by decide +kernel), List.mem_of_getElem? (i := 2130) (by decide +kernel), List.mem_of_getElem? (i := 2131) (by decide +kernel)⟩
theorem lw_p130 : lw_okq (⟨"JuneVoteModel", "repaired", "()I"⟩, 84) := ⟨⟨by decide +kernel, by decide +kernel⟩, List.mem_of_getElem? (i := 1449) (by decide +kernel), List.mem_of_getElem? (i := 2134) (by decide +kernel), List.mem_of_getElem? (i := 2135) (by decide +kernel)⟩
theorem lw_p131 : lw_okq (⟨"JuneVoteModel", "isOff", "(I)Z"⟩, 84) := ⟨⟨by decide +kernel, by decide +kernel⟩, List.mem_of_getElem? (i := 1449) (by decide +kernel), List.mem_of_getElem? (i := 2138) (by decide +kernel), List.mem_of_getElem? (i := 2139) (by decide +kernel)⟩
theorem lw_p132 : lw_okq (⟨"JuneVoteModel", "bringHead", "()V"⟩, 84) := ⟨⟨by decide +kernel, by decide +kernel⟩, List.mem_of_getElem? (i := 1449) (by decide +kernel), List.mem_of_getElem? (i := 2142) (by decide +kernel), List.mem_of_getElem? (i := 2143) (by decide +kernel)⟩
theorem lw_p133 : lw_okq (⟨"JuneVoteModel", "againBy", "(I)I"⟩, 84) := ⟨⟨by decide +kernel, by decide +kernel⟩, List.mem_of_getElem? (i := 1449) (by decide +kernel), List.mem_of_getElem? (i := 2150) (by decide +kernel), List.mem_of_getElem? (i := 2151) (by decide +kernel)⟩
theorem lw_p134 : lw_okq (⟨"JuneVoteModel", "areLike", "(II)Z"⟩, 84) := ⟨⟨by decide +kernel, by decide +kernel⟩, List.mem_of_getElem? (i := 1449) (by decide +kernel), List.mem_of_getElem? (i := 2154) (by decide +kernel), List.mem_of_getElem? (i := 2155) (by decide +kernel)⟩
theorem lw_p135 : lw_okq (⟨"JuneVoteModel", "lapsesSoFar", "()I"⟩, 84) := ⟨⟨by decide +kernel, by decide +kernel⟩, List.mem_of_getElem? (i := 1449) (by decide +kernel), List.mem_of_getElem? (i := 2162) (by decide +kernel), List.mem_of_getElem? (i := 2163) (by decide +kernel)⟩
theorem lw_p136 : lw_okq (⟨"JuneVoteModel", "countRows", "(II)I"⟩, 84) := ⟨⟨by decide +kernel, by decide +kernel⟩, List.mem_of_getElem? (i := 1449) (by decide +kernel), List.mem_of_getElem? (i := 2187) (by decide +kernel), List.mem_of_getElem? (i := 2188) (by decide +kernel)⟩
theorem lw_p137 : lw_okq (⟨"JuneVoteModel", "wide", "(I)I"⟩, 84) := ⟨⟨by decide +kernel, by decide +kernel⟩, List.mem_of_getElem? (i := 1449) (by decide +kernel), List.mem_of_getElem? (i := 2191) (by decide +kernel), List.mem_of_getElem? (i := 2192) (by decide +kernel)⟩
theorem lw_p138 : lw_okq (⟨"JuneVoteModel", "fromOf", "(I)I"⟩, 84) := ⟨⟨by decide +kernel, by decide +kernel⟩, List.mem_of_getElem? (i := 1449) (by decide +kernel), List.mem_of_getElem? (i := 2195) (by decide +kernel), List.mem_of_getElem? (i := 2196) (by decide +kernel)⟩
theorem lw_p139 : lw_okq (⟨"JuneVoteModel", "areSo", "(II)Z"⟩, 84) := ⟨⟨by decide +kernel, by decide +kernel⟩, List.mem_of_getElem? (i := 1449) (by decide +kernel), List.mem_of_getElem? (i := 2200) (by decide +kernel), List.mem_of_getElem? (i := 2201) (by decide +kernel)⟩
theorem lw_p140 : lw_okq (⟨"JuneVoteModel", "counts", "(II)Z"⟩, 84) := ⟨⟨by decide +kernel, by decide +kernel⟩, List.mem_of_getElem? (i := 1449) (by decide +kernel), List.mem_of_getElem? (i := 2204) (by decide +kernel), List.mem_of_getElem? (i := 2205) (by decide +kernel)⟩
theorem lw_p141 : lw_okq (⟨"JuneVoteModel", "isSo", "(II)Z"⟩, 84) := ⟨⟨by decide +kernel, by decide +kernel⟩, List.mem_of_getElem? (i := 1449) (by decide +kernel), List.mem_of_getElem? (i := 2208) (by decide +kernel), List.mem_of_getElem? (i := 2209) (by decide +kernel)⟩
def lw_privs_9 : List (MethodName × Nat) := [(⟨"JuneVoteModel", "bringPlace", "(I)V"⟩, 84), (⟨"JuneVoteModel", "keepHead", "()V"⟩, 84), (⟨"JuneVoteModel", "repaired", "()I"⟩, 84), (⟨"JuneVoteModel", "isOff", "(I)Z"⟩, 84), (⟨"JuneVoteModel", "bringHead", "()V"⟩, 84), (⟨"JuneVoteModel", "againBy", "(I)I"⟩, 84), (⟨"JuneVoteModel", "areLike", "(II)Z"⟩, 84), (⟨"JuneVoteModel", "lapsesSoFar", "()I"⟩, 84), (⟨"JuneVoteModel", "countRows", "(II)I"⟩, 84), (⟨"JuneVoteModel", "wide", "(I)I"⟩, 84), (⟨"JuneVoteModel", "fromOf", "(I)I"⟩, 84), (⟨"JuneVoteModel", "areSo", "(II)Z"⟩, 84), (⟨"JuneVoteModel", "counts", "(II)Z"⟩, 84), (⟨"JuneVoteModel", "isSo", "(II)Z"⟩, 84)]
theorem lw_r9 : ∀ q ∈ lw_privs_9, lw_okq q := List.forall_mem_cons.mpr ⟨lw_p128, List.forall_mem_cons.mpr ⟨lw_p129, List.forall_mem_cons.mpr ⟨lw_p130, List.forall_mem_cons.mpr ⟨lw_p131, List.forall_mem_cons.mpr ⟨lw_p132, List.forall_mem_cons.mpr ⟨lw_p133, List.forall_mem_cons.mpr ⟨lw_p134, List.forall_mem_cons.mpr ⟨lw_p135, List.forall_mem_cons.mpr ⟨lw_p136, List.forall_mem_cons.mpr ⟨lw_p137, List.forall_mem_cons.mpr ⟨lw_p138, List.forall_mem_cons.mpr ⟨lw_p139, List.forall_mem_cons.mpr ⟨lw_p140, List.forall_mem_cons.mpr ⟨lw_p141, fun _ h => absurd h List.not_mem_nil⟩⟩⟩⟩⟩⟩⟩⟩⟩⟩⟩⟩⟩⟩
def lw_privs : List (MethodName × Nat) := lw_privs_1 ++ (lw_privs_2 ++ (lw_privs_3 ++ (lw_privs_4 ++ (lw_privs_5 ++ (lw_privs_6 ++ (lw_privs_7 ++ (lw_privs_8 ++ (lw_privs_9))))))))
def lw_tbl : List Cond := k2_sels lw_privs ++ tables_1
theorem lw_privs_ok : ∀ q ∈ lw_privs, lw_okq q := by
  show ∀ q ∈ lw_privs_1 ++ (lw_privs_2 ++ (lw_privs_3 ++ (lw_privs_4 ++ (lw_privs_5 ++ (lw_privs_6 ++ (lw_privs_7 ++ (lw_privs_8 ++ (lw_privs_9)))))))), lw_okq q
  exact List.forall_mem_append.mpr ⟨lw_r1, List.forall_mem_append.mpr ⟨lw_r2, List.forall_mem_append.mpr ⟨lw_r3, List.forall_mem_append.mpr ⟨lw_r4, List.forall_mem_append.mpr ⟨lw_r5, List.forall_mem_append.mpr ⟨lw_r6, List.forall_mem_append.mpr ⟨lw_r7, List.forall_mem_append.mpr ⟨lw_r8, lw_r9⟩⟩⟩⟩⟩⟩⟩⟩
-- ===== end of PART A; then your names; then what follows =====
def RX0 : String := "JuneVote$Acts"
def TX0 : u_T := fun k => match k with
  | 0 => ("JuneVote$Acts", "kind", "[I", true)
  | 1 => ("JuneVote$Acts", "what", "[I", true)
  | 2 => ("JuneVote$Acts", "before", "[I", true)
  | 3 => ("JuneVote$Acts", "after", "[I", true)
  | 4 => ("JuneVote$Acts", "done", "I", false)
  | _ => ("JuneVote$Acts", "kept", "I", false)
def tyX0 : Nat → FieldType := fun k => match k with
  | 0 => .array .int
  | 1 => .array .int
  | 2 => .array .int
  | 3 => .array .int
  | 4 => .int
  | _ => .int
abbrev wsX00 : List Cond := u_ws RX0 TX0 6
theorem nmX0 : ∀ a, a < 6 → ∀ b, b < 6 → a ≠ b → (TX0 a).2.1 ≠ (TX0 b).2.1 := by decide +kernel
theorem tyX0_ok : ∀ k, k < 6 → parseFieldDescriptor (TX0 k).2.2.1 = some (tyX0 k) := by decide +kernel
def RX1 : String := "JuneVote$Calendar"
def TX1 : u_T := fun k => match k with
  | 0 => ("JuneVote$Calendar", "republic", "LJuneVote$Republic;", false)
  | 1 => ("JuneVote$Calendar", "lengths", "[I", true)
  | 2 => ("JuneVote$Calendar", "were", "I", false)
  | 3 => ("JuneVote$Calendar", "days", "I", false)
  | 4 => ("JuneVote$Calendar", "have", "[I", true)
  | 5 => ("JuneVote$Calendar", "votes", "[I", true)
  | 6 => ("JuneVote$Calendar", "paid", "[I", true)
  | 7 => ("JuneVote$Calendar", "lapsed", "[I", true)
  | _ => ("JuneVote$Calendar", "forgiven", "[Z", true)
def tyX1 : Nat → FieldType := fun k => match k with
  | 0 => .object "JuneVote$Republic"
  | 1 => .array .int
  | 2 => .int
  | 3 => .int
  | 4 => .array .int
  | 5 => .array .int
  | 6 => .array .int
  | 7 => .array .int
  | _ => .array .boolean
abbrev wsX10 : List Cond := u_ws RX1 TX1 9
theorem nmX1 : ∀ a, a < 9 → ∀ b, b < 9 → a ≠ b → (TX1 a).2.1 ≠ (TX1 b).2.1 := by decide +kernel
theorem tyX1_ok : ∀ k, k < 9 → parseFieldDescriptor (TX1 k).2.2.1 = some (tyX1 k) := by decide +kernel
def RX2 : String := "JuneVote$Due"
def TX2 : u_T := fun k => match k with
  | 0 => ("JuneVote$Due", "by", "I", false)
  | 1 => ("JuneVote$Due", "to", "I", false)
  | 2 => ("JuneVote$Due", "pays", "I", false)
  | 3 => ("JuneVote$Due", "day", "I", false)
  | 4 => ("JuneVote$Due", "month", "I", false)
  | _ => ("JuneVote$Due", "late", "Z", false)
def tyX2 : Nat → FieldType := fun k => match k with
  | 0 => .int
  | 1 => .int
  | 2 => .int
  | 3 => .int
  | 4 => .int
  | _ => .boolean
abbrev wsX20 : List Cond := u_ws RX2 TX2 6
theorem nmX2 : ∀ a, a < 6 → ∀ b, b < 6 → a ≠ b → (TX2 a).2.1 ≠ (TX2 b).2.1 := by decide +kernel
theorem tyX2_ok : ∀ k, k < 6 → parseFieldDescriptor (TX2 k).2.2.1 = some (tyX2 k) := by decide +kernel
def RX3 : String := "JuneVote$Foresight"
def TX3 : u_T := fun k => match k with
  | 0 => ("JuneVote$Foresight", "trial", "LJuneVote$Calendar;", true)
  | 1 => ("JuneVote$Foresight", "poll", "LJuneVote$Poll;", true)
  | 2 => ("JuneVote$Foresight", "row", "[I", true)
  | 3 => ("JuneVote$Foresight", "worths", "[I", true)
  | 4 => ("JuneVote$Foresight", "bestRow", "[I", true)
  | 5 => ("JuneVote$Foresight", "bestSum", "I", false)
  | 6 => ("JuneVote$Foresight", "found", "Z", false)
  | 7 => ("JuneVote$Foresight", "rows", "I", false)
  | 8 => ("JuneVote$Foresight", "person", "I", false)
  | 9 => ("JuneVote$Foresight", "months", "I", false)
  | 10 => ("JuneVote$Foresight", "earlierYear", "I", false)
  | _ => ("JuneVote$Foresight", "laterYear", "I", false)
def tyX3 : Nat → FieldType := fun k => match k with
  | 0 => .object "JuneVote$Calendar"
  | 1 => .object "JuneVote$Poll"
  | 2 => .array .int
  | 3 => .array .int
  | 4 => .array .int
  | 5 => .int
  | 6 => .boolean
  | 7 => .int
  | 8 => .int
  | 9 => .int
  | 10 => .int
  | _ => .int
abbrev wsX30 : List Cond := u_ws RX3 TX3 12
theorem nmX3 : ∀ a, a < 12 → ∀ b, b < 12 → a ≠ b → (TX3 a).2.1 ≠ (TX3 b).2.1 := by decide +kernel
theorem tyX3_ok : ∀ k, k < 12 → parseFieldDescriptor (TX3 k).2.2.1 = some (tyX3 k) := by decide +kernel
def RX4 : String := "JuneVote$Ledgers"
def TX4 : u_T := fun k => match k with
  | 0 => ("JuneVote$Ledgers", "nth", "[I", true)
  | 1 => ("JuneVote$Ledgers", "stamp", "[I", true)
  | 2 => ("JuneVote$Ledgers", "toldAt", "[I", true)
  | 3 => ("JuneVote$Ledgers", "untoldAt", "[I", true)
  | 4 => ("JuneVote$Ledgers", "count", "I", false)
  | 5 => ("JuneVote$Ledgers", "needed", "[I", true)
  | 6 => ("JuneVote$Ledgers", "lastNeeded", "I", false)
  | 7 => ("JuneVote$Ledgers", "asked", "I", false)
  | 8 => ("JuneVote$Ledgers", "behind", "[[I", true)
  | _ => ("JuneVote$Ledgers", "reached", "[[I", true)
def tyX4 : Nat → FieldType := fun k => match k with
  | 0 => .array .int
  | 1 => .array .int
  | 2 => .array .int
  | 3 => .array .int
  | 4 => .int
  | 5 => .array .int
  | 6 => .int
  | 7 => .int
  | 8 => .array (.array .int)
  | _ => .array (.array .int)
abbrev wsX40 : List Cond := u_ws RX4 TX4 10
theorem nmX4 : ∀ a, a < 10 → ∀ b, b < 10 → a ≠ b → (TX4 a).2.1 ≠ (TX4 b).2.1 := by decide +kernel
theorem tyX4_ok : ∀ k, k < 10 → parseFieldDescriptor (TX4 k).2.2.1 = some (tyX4 k) := by decide +kernel
def RX5 : String := "JuneVote$Poll"
def TX5 : u_T := fun k => match k with
  | 0 => ("JuneVote$Poll", "waiting", "[I", true)
  | 1 => ("JuneVote$Poll", "tally", "[I", true)
  | 2 => ("JuneVote$Poll", "ballots", "[I", true)
  | 3 => ("JuneVote$Poll", "gets", "[I", true)
  | 4 => ("JuneVote$Poll", "owes", "[I", true)
  | 5 => ("JuneVote$Poll", "calendar", "LJuneVote$Calendar;", false)
  | 6 => ("JuneVote$Poll", "mask", "I", false)
  | 7 => ("JuneVote$Poll", "month", "I", false)
  | 8 => ("JuneVote$Poll", "year", "I", false)
  | _ => ("JuneVote$Poll", "driftOfNone", "I", false)
def tyX5 : Nat → FieldType := fun k => match k with
  | 0 => .array .int
  | 1 => .array .int
  | 2 => .array .int
  | 3 => .array .int
  | 4 => .array .int
  | 5 => .object "JuneVote$Calendar"
  | 6 => .int
  | 7 => .int
  | 8 => .int
  | _ => .int
abbrev wsX50 : List Cond := u_ws RX5 TX5 10
theorem nmX5 : ∀ a, a < 10 → ∀ b, b < 10 → a ≠ b → (TX5 a).2.1 ≠ (TX5 b).2.1 := by decide +kernel
theorem tyX5_ok : ∀ k, k < 10 → parseFieldDescriptor (TX5 k).2.2.1 = some (tyX5 k) := by decide +kernel
def RX6 : String := "JuneVote$Reader"
def TX6 : u_T := fun k => match k with
  | 0 => ("JuneVote$Reader", "tape", "LJuneVote$Tape;", true)
  | 1 => ("JuneVote$Reader", "monthNames", "[J", true)
  | 2 => ("JuneVote$Reader", "personNames", "[J", true)
  | 3 => ("JuneVote$Reader", "dueNames", "[J", true)
  | 4 => ("JuneVote$Reader", "draft", "LJuneVote$Republic;", false)
  | 5 => ("JuneVote$Reader", "toldOnce", "I", false)
  | 6 => ("JuneVote$Reader", "unitsInOne", "I", false)
  | 7 => ("JuneVote$Reader", "value", "I", false)
  | 8 => ("JuneVote$Reader", "fault", "I", false)
  | _ => ("JuneVote$Reader", "faultPlace", "I", false)
def tyX6 : Nat → FieldType := fun k => match k with
  | 0 => .object "JuneVote$Tape"
  | 1 => .array .long
  | 2 => .array .long
  | 3 => .array .long
  | 4 => .object "JuneVote$Republic"
  | 5 => .int
  | 6 => .int
  | 7 => .int
  | 8 => .int
  | _ => .int
abbrev wsX60 : List Cond := u_ws RX6 TX6 10
theorem nmX6 : ∀ a, a < 10 → ∀ b, b < 10 → a ≠ b → (TX6 a).2.1 ≠ (TX6 b).2.1 := by decide +kernel
theorem tyX6_ok : ∀ k, k < 10 → parseFieldDescriptor (TX6 k).2.2.1 = some (tyX6 k) := by decide +kernel
def RX7 : String := "JuneVote$Republic"
def TX7 : u_T := fun k => match k with
  | 0 => ("JuneVote$Republic", "months", "I", false)
  | 1 => ("JuneVote$Republic", "from", "[I", true)
  | 2 => ("JuneVote$Republic", "to", "[I", true)
  | 3 => ("JuneVote$Republic", "people", "I", false)
  | 4 => ("JuneVote$Republic", "firstVotes", "[I", true)
  | 5 => ("JuneVote$Republic", "dues", "I", false)
  | 6 => ("JuneVote$Republic", "dueRow", "[LJuneVote$Due;", true)
  | 7 => ("JuneVote$Republic", "sunUpper", "I", false)
  | 8 => ("JuneVote$Republic", "sunLower", "I", false)
  | 9 => ("JuneVote$Republic", "way", "I", false)
  | 10 => ("JuneVote$Republic", "week", "I", false)
  | 11 => ("JuneVote$Republic", "broken", "Z", false)
  | 12 => ("JuneVote$Republic", "units", "I", false)
  | 13 => ("JuneVote$Republic", "asksFlows", "Z", false)
  | 14 => ("JuneVote$Republic", "code", "[I", true)
  | 15 => ("JuneVote$Republic", "codeSize", "I", false)
  | 16 => ("JuneVote$Republic", "starts", "[I", true)
  | _ => ("JuneVote$Republic", "ends", "[I", true)
def tyX7 : Nat → FieldType := fun k => match k with
  | 0 => .int
  | 1 => .array .int
  | 2 => .array .int
  | 3 => .int
  | 4 => .array .int
  | 5 => .int
  | 6 => .array (.object "JuneVote$Due")
  | 7 => .int
  | 8 => .int
  | 9 => .int
  | 10 => .int
  | 11 => .boolean
  | 12 => .int
  | 13 => .boolean
  | 14 => .array .int
  | 15 => .int
  | 16 => .array .int
  | _ => .array .int
abbrev wsX70 : List Cond := u_ws RX7 TX7 18
theorem nmX7 : ∀ a, a < 18 → ∀ b, b < 18 → a ≠ b → (TX7 a).2.1 ≠ (TX7 b).2.1 := by decide +kernel
theorem tyX7_ok : ∀ k, k < 18 → parseFieldDescriptor (TX7 k).2.2.1 = some (tyX7 k) := by decide +kernel
def RX8 : String := "JuneVote$Sway"
def TX8 : u_T := fun k => match k with
  | 0 => ("JuneVote$Sway", "poll", "LJuneVote$Poll;", true)
  | 1 => ("JuneVote$Sway", "own", "[I", true)
  | 2 => ("JuneVote$Sway", "ballots", "[I", true)
  | 3 => ("JuneVote$Sway", "worths", "[I", true)
  | _ => ("JuneVote$Sway", "people", "I", false)
def tyX8 : Nat → FieldType := fun k => match k with
  | 0 => .object "JuneVote$Poll"
  | 1 => .array .int
  | 2 => .array .int
  | 3 => .array .int
  | _ => .int
abbrev wsX80 : List Cond := u_ws RX8 TX8 5
theorem nmX8 : ∀ a, a < 5 → ∀ b, b < 5 → a ≠ b → (TX8 a).2.1 ≠ (TX8 b).2.1 := by decide +kernel
theorem tyX8_ok : ∀ k, k < 5 → parseFieldDescriptor (TX8 k).2.2.1 = some (tyX8 k) := by decide +kernel
def RX9 : String := "JuneVote$Tape"
def TX9 : u_T := fun k => match k with
  | 0 => ("JuneVote$Tape", "bytes", "[B", true)
  | 1 => ("JuneVote$Tape", "words", "[J", true)
  | 2 => ("JuneVote$Tape", "kinds", "[I", true)
  | 3 => ("JuneVote$Tape", "places", "[I", true)
  | 4 => ("JuneVote$Tape", "values", "[J", true)
  | 5 => ("JuneVote$Tape", "size", "I", false)
  | 6 => ("JuneVote$Tape", "count", "I", false)
  | 7 => ("JuneVote$Tape", "next", "I", false)
  | 8 => ("JuneVote$Tape", "kind", "I", false)
  | 9 => ("JuneVote$Tape", "place", "I", false)
  | 10 => ("JuneVote$Tape", "number", "I", false)
  | _ => ("JuneVote$Tape", "name", "J", false)
def tyX9 : Nat → FieldType := fun k => match k with
  | 0 => .array .byte
  | 1 => .array .long
  | 2 => .array .int
  | 3 => .array .int
  | 4 => .array .long
  | 5 => .int
  | 6 => .int
  | 7 => .int
  | 8 => .int
  | 9 => .int
  | 10 => .int
  | _ => .long
abbrev wsX90 : List Cond := u_ws RX9 TX9 12
theorem nmX9 : ∀ a, a < 12 → ∀ b, b < 12 → a ≠ b → (TX9 a).2.1 ≠ (TX9 b).2.1 := by decide +kernel
theorem tyX9_ok : ∀ k, k < 12 → parseFieldDescriptor (TX9 k).2.2.1 = some (tyX9 k) := by decide +kernel
def RX10 : String := "JuneVote"
def TX10 : u_T := fun k => match k with
  | 0 => ("JuneVote", "tape", "LJuneVote$Tape;", true)
  | 1 => ("JuneVote", "reader", "LJuneVote$Reader;", true)
  | 2 => ("JuneVote", "now", "LJuneVote$Calendar;", true)
  | 3 => ("JuneVote", "boxes", "[LJuneVote$Calendar;", true)
  | 4 => ("JuneVote", "boxFull", "[Z", true)
  | 5 => ("JuneVote", "poll", "LJuneVote$Poll;", true)
  | 6 => ("JuneVote", "sway", "LJuneVote$Sway;", true)
  | 7 => ("JuneVote", "foresight", "LJuneVote$Foresight;", true)
  | 8 => ("JuneVote", "acts", "LJuneVote$Acts;", true)
  | 9 => ("JuneVote", "ledgers", "LJuneVote$Ledgers;", true)
  | 10 => ("JuneVote", "lying", "[I", true)
  | 11 => ("JuneVote", "told", "LJuneVote$Republic;", false)
  | 12 => ("JuneVote", "spare", "LJuneVote$Republic;", false)
  | 13 => ("JuneVote", "lyingCount", "I", false)
  | 14 => ("JuneVote", "time", "I", false)
  | 15 => ("JuneVote", "faultNumber", "I", false)
  | _ => ("JuneVote", "faultPlace", "I", false)
def tyX10 : Nat → FieldType := fun k => match k with
  | 0 => .object "JuneVote$Tape"
  | 1 => .object "JuneVote$Reader"
  | 2 => .object "JuneVote$Calendar"
  | 3 => .array (.object "JuneVote$Calendar")
  | 4 => .array .boolean
  | 5 => .object "JuneVote$Poll"
  | 6 => .object "JuneVote$Sway"
  | 7 => .object "JuneVote$Foresight"
  | 8 => .object "JuneVote$Acts"
  | 9 => .object "JuneVote$Ledgers"
  | 10 => .array .int
  | 11 => .object "JuneVote$Republic"
  | 12 => .object "JuneVote$Republic"
  | 13 => .int
  | 14 => .int
  | 15 => .int
  | _ => .int
abbrev wsX100 : List Cond := u_ws RX10 TX10 17
theorem nmX10 : ∀ a, a < 17 → ∀ b, b < 17 → a ≠ b → (TX10 a).2.1 ≠ (TX10 b).2.1 := by decide +kernel
theorem tyX10_ok : ∀ k, k < 17 → parseFieldDescriptor (TX10 k).2.2.1 = some (tyX10 k) := by decide +kernel
def RX11 : String := "JuneVoteModel"
def TX11 : u_T := fun k => match k with
  | 0 => ("JuneVoteModel", "tape", "[B", true)
  | 1 => ("JuneVoteModel", "text", "[B", true)
  | 2 => ("JuneVoteModel", "taped", "I", false)
  | 3 => ("JuneVoteModel", "size", "I", false)
  | 4 => ("JuneVoteModel", "faultKind", "I", false)
  | 5 => ("JuneVoteModel", "faultPlace", "I", false)
  | 6 => ("JuneVoteModel", "at", "I", false)
  | 7 => ("JuneVoteModel", "end", "I", false)
  | 8 => ("JuneVoteModel", "token", "I", false)
  | 9 => ("JuneVoteModel", "number", "I", false)
  | 10 => ("JuneVoteModel", "name", "J", false)
  | 11 => ("JuneVoteModel", "months", "[I", true)
  | 12 => ("JuneVoteModel", "people", "[I", true)
  | 13 => ("JuneVoteModel", "dues", "[I", true)
  | 14 => ("JuneVoteModel", "units", "[I", true)
  | 15 => ("JuneVoteModel", "from", "[I", true)
  | 16 => ("JuneVoteModel", "to", "[I", true)
  | 17 => ("JuneVoteModel", "votesTold", "[I", true)
  | 18 => ("JuneVoteModel", "dBy", "[I", true)
  | 19 => ("JuneVoteModel", "dTo", "[I", true)
  | 20 => ("JuneVoteModel", "dPays", "[I", true)
  | 21 => ("JuneVoteModel", "dDay", "[I", true)
  | 22 => ("JuneVoteModel", "dMonth", "[I", true)
  | 23 => ("JuneVoteModel", "sunUp", "[I", true)
  | 24 => ("JuneVoteModel", "sunDown", "[I", true)
  | 25 => ("JuneVoteModel", "way", "[I", true)
  | 26 => ("JuneVoteModel", "week", "[I", true)
  | 27 => ("JuneVoteModel", "ruleFrom", "[I", true)
  | 28 => ("JuneVoteModel", "ruleTo", "[I", true)
  | 29 => ("JuneVoteModel", "isLate", "[Z", true)
  | 30 => ("JuneVoteModel", "isSun", "[Z", true)
  | 31 => ("JuneVoteModel", "isWay", "[Z", true)
  | 32 => ("JuneVoteModel", "isWeek", "[Z", true)
  | 33 => ("JuneVoteModel", "isBroken", "[Z", true)
  | 34 => ("JuneVoteModel", "hasRule", "[Z", true)
  | 35 => ("JuneVoteModel", "mName", "[J", true)
  | 36 => ("JuneVoteModel", "pName", "[J", true)
  | 37 => ("JuneVoteModel", "dName", "[J", true)
  | 38 => ("JuneVoteModel", "code", "[I", true)
  | 39 => ("JuneVoteModel", "codeNumber", "[I", true)
  | 40 => ("JuneVoteModel", "eWhat", "[I", true)
  | 41 => ("JuneVoteModel", "eSign", "[I", true)
  | 42 => ("JuneVoteModel", "pile", "[I", true)
  | 43 => ("JuneVoteModel", "bank", "I", false)
  | 44 => ("JuneVoteModel", "rb", "I", false)
  | 45 => ("JuneVoteModel", "codes", "I", false)
  | 46 => ("JuneVoteModel", "within", "I", false)
  | 47 => ("JuneVoteModel", "piled", "I", false)
  | 48 => ("JuneVoteModel", "unitsInRule", "I", false)
  | 49 => ("JuneVoteModel", "askDays", "I", false)
  | 50 => ("JuneVoteModel", "askGets", "I", false)
  | 51 => ("JuneVoteModel", "askOwes", "I", false)
  | 52 => ("JuneVoteModel", "askDrift", "I", false)
  | 53 => ("JuneVoteModel", "askHave", "I", false)
  | 54 => ("JuneVoteModel", "all", "[I", true)
  | 55 => ("JuneVoteModel", "head", "[I", true)
  | 56 => ("JuneVoteModel", "mayBe", "[Z", true)
  | 57 => ("JuneVoteModel", "vote", "[I", true)
  | 58 => ("JuneVoteModel", "votesFor", "[I", true)
  | 59 => ("JuneVoteModel", "was", "[I", true)
  | 60 => ("JuneVoteModel", "acts", "I", false)
  | 61 => ("JuneVoteModel", "undone", "I", false)
  | 62 => ("JuneVoteModel", "theirs", "[I", true)
  | 63 => ("JuneVoteModel", "asks", "[I", true)
  | 64 => ("JuneVoteModel", "laidRow", "[I", true)
  | 65 => ("JuneVoteModel", "laid", "I", false)
  | 66 => ("JuneVoteModel", "planRow", "[I", true)
  | 67 => ("JuneVoteModel", "planBest", "[I", true)
  | 68 => ("JuneVoteModel", "planSum", "[I", true)
  | 69 => ("JuneVoteModel", "planHead", "[I", true)
  | 70 => ("JuneVoteModel", "planMay", "[Z", true)
  | 71 => ("JuneVoteModel", "yearRow", "[I", true)
  | 72 => ("JuneVoteModel", "lDay", "[I", true)
  | 73 => ("JuneVoteModel", "lMonth", "[I", true)
  | 74 => ("JuneVoteModel", "lOf", "[I", true)
  | 75 => ("JuneVoteModel", "lTold", "[I", true)
  | 76 => ("JuneVoteModel", "lUntold", "[I", true)
  | 77 => ("JuneVoteModel", "rowOf", "[I", true)
  | 78 => ("JuneVoteModel", "leastOf", "[I", true)
  | 79 => ("JuneVoteModel", "mostOf", "[I", true)
  | 80 => ("JuneVoteModel", "ledgers", "I", false)
  | 81 => ("JuneVoteModel", "time", "I", false)
  | 82 => ("JuneVoteModel", "boxAll", "[I", true)
  | _ => ("JuneVoteModel", "isBoxed", "[Z", true)
def tyX11 : Nat → FieldType := fun k => match k with
  | 0 => .array .byte
  | 1 => .array .byte
  | 2 => .int
  | 3 => .int
  | 4 => .int
  | 5 => .int
  | 6 => .int
  | 7 => .int
  | 8 => .int
  | 9 => .int
  | 10 => .long
  | 11 => .array .int
  | 12 => .array .int
  | 13 => .array .int
  | 14 => .array .int
  | 15 => .array .int
  | 16 => .array .int
  | 17 => .array .int
  | 18 => .array .int
  | 19 => .array .int
  | 20 => .array .int
  | 21 => .array .int
  | 22 => .array .int
  | 23 => .array .int
  | 24 => .array .int
  | 25 => .array .int
  | 26 => .array .int
  | 27 => .array .int
  | 28 => .array .int
  | 29 => .array .boolean
  | 30 => .array .boolean
  | 31 => .array .boolean
  | 32 => .array .boolean
  | 33 => .array .boolean
  | 34 => .array .boolean
  | 35 => .array .long
  | 36 => .array .long
  | 37 => .array .long
  | 38 => .array .int
  | 39 => .array .int
  | 40 => .array .int
  | 41 => .array .int
  | 42 => .array .int
  | 43 => .int
  | 44 => .int
  | 45 => .int
  | 46 => .int
  | 47 => .int
  | 48 => .int
  | 49 => .int
  | 50 => .int
  | 51 => .int
  | 52 => .int
  | 53 => .int
  | 54 => .array .int
  | 55 => .array .int
  | 56 => .array .boolean
  | 57 => .array .int
  | 58 => .array .int
  | 59 => .array .int
  | 60 => .int
  | 61 => .int
  | 62 => .array .int
  | 63 => .array .int
  | 64 => .array .int
  | 65 => .int
  | 66 => .array .int
  | 67 => .array .int
  | 68 => .array .int
  | 69 => .array .int
  | 70 => .array .boolean
  | 71 => .array .int
  | 72 => .array .int
  | 73 => .array .int
  | 74 => .array .int
  | 75 => .array .int
  | 76 => .array .int
  | 77 => .array .int
  | 78 => .array .int
  | 79 => .array .int
  | 80 => .int
  | 81 => .int
  | 82 => .array .int
  | _ => .array .boolean
abbrev wsX110 : List Cond := u_ws RX11 TX11 84
theorem nmX11 : ∀ a, a < 84 → ∀ b, b < 84 → a ≠ b → (TX11 a).2.1 ≠ (TX11 b).2.1 := by decide +kernel
theorem tyX11_ok : ∀ k, k < 84 → parseFieldDescriptor (TX11 k).2.2.1 = some (tyX11 k) := by decide +kernel
