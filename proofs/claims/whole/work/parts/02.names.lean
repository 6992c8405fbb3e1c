-- ===== PART A: goes FIRST, ahead of the names: the tables' words, and 'selects' of the private methods out of them =====
/-- a private method of a class that the tables say can be made, by its rows of tables_1 -/
def lw_okq (q : MethodName × Nat) : Prop := (q.1.cls ≠ "java/lang/invoke/MethodHandle" ∧ q.1.cls ≠ "java/lang/invoke/VarHandle") ∧ Cond.instantiable q.1.cls q.2 ∈ tables_1 ∧ Cond.privateMethod q.1 ∈ tables_1 ∧ Cond.instanceMethod q.1 ∈ tables_1
theorem lw_p0 : lw_okq (⟨"EchoBureau", "countCertified", "()I"⟩, 8) := ⟨⟨by decide +kernel, by decide +kernel⟩, List.mem_of_getElem? (i := 18) (by decide +kernel), List.mem_of_getElem? (i := 116) (by decide +kernel), List.mem_of_getElem? (i := 117) (by decide +kernel)⟩
theorem lw_p1 : lw_okq (⟨"EchoBureau$Hall", "hasCertificate", "()Z"⟩, 6) := ⟨⟨by decide +kernel, by decide +kernel⟩, List.mem_of_getElem? (i := 122) (by decide +kernel), List.mem_of_getElem? (i := 120) (by decide +kernel), List.mem_of_getElem? (i := 121) (by decide +kernel)⟩
theorem lw_p2 : lw_okq (⟨"EchoBureau$Surface", "hardnessUnder", "(I)I"⟩, 2) := ⟨⟨by decide +kernel, by decide +kernel⟩, List.mem_of_getElem? (i := 143) (by decide +kernel), List.mem_of_getElem? (i := 141) (by decide +kernel), List.mem_of_getElem? (i := 142) (by decide +kernel)⟩
theorem lw_p3 : lw_okq (⟨"EchoBureau", "mixEchoes", "(JLEchoBureau$Hall;)J"⟩, 8) := ⟨⟨by decide +kernel, by decide +kernel⟩, List.mem_of_getElem? (i := 18) (by decide +kernel), List.mem_of_getElem? (i := 149) (by decide +kernel), List.mem_of_getElem? (i := 150) (by decide +kernel)⟩
theorem lw_p4 : lw_okq (⟨"EchoBureau", "tallyOf", "(LEchoBureau$Hall;II)LEchoBureau$Tally;"⟩, 8) := ⟨⟨by decide +kernel, by decide +kernel⟩, List.mem_of_getElem? (i := 18) (by decide +kernel), List.mem_of_getElem? (i := 153) (by decide +kernel), List.mem_of_getElem? (i := 154) (by decide +kernel)⟩
theorem lw_p5 : lw_okq (⟨"EchoBureau$Tally", "begin", "(I)V"⟩, 5) := ⟨⟨by decide +kernel, by decide +kernel⟩, List.mem_of_getElem? (i := 30) (by decide +kernel), List.mem_of_getElem? (i := 157) (by decide +kernel), List.mem_of_getElem? (i := 158) (by decide +kernel)⟩
theorem lw_p6 : lw_okq (⟨"EchoBureau$Hall", "throwBack", "(IIILEchoBureau$Listener;)V"⟩, 6) := ⟨⟨by decide +kernel, by decide +kernel⟩, List.mem_of_getElem? (i := 122) (by decide +kernel), List.mem_of_getElem? (i := 161) (by decide +kernel), List.mem_of_getElem? (i := 162) (by decide +kernel)⟩
theorem lw_p7 : lw_okq (⟨"EchoBureau$Surface", "throwRow", "(IIILEchoBureau$Listener;)V"⟩, 2) := ⟨⟨by decide +kernel, by decide +kernel⟩, List.mem_of_getElem? (i := 143) (by decide +kernel), List.mem_of_getElem? (i := 165) (by decide +kernel), List.mem_of_getElem? (i := 166) (by decide +kernel)⟩
theorem lw_p8 : lw_okq (⟨"EchoBureau", "loudnessesOf", "(LEchoBureau$Hall;I)LEchoBureau$Loudnesses;"⟩, 8) := ⟨⟨by decide +kernel, by decide +kernel⟩, List.mem_of_getElem? (i := 18) (by decide +kernel), List.mem_of_getElem? (i := 186) (by decide +kernel), List.mem_of_getElem? (i := 187) (by decide +kernel)⟩
theorem lw_p9 : lw_okq (⟨"EchoBureau$Loudnesses", "begin", "()V"⟩, 1) := ⟨⟨by decide +kernel, by decide +kernel⟩, List.mem_of_getElem? (i := 60) (by decide +kernel), List.mem_of_getElem? (i := 190) (by decide +kernel), List.mem_of_getElem? (i := 191) (by decide +kernel)⟩
theorem lw_p10 : lw_okq (⟨"EchoBureau$Loudnesses", "momentOfMost", "()I"⟩, 1) := ⟨⟨by decide +kernel, by decide +kernel⟩, List.mem_of_getElem? (i := 60) (by decide +kernel), List.mem_of_getElem? (i := 197) (by decide +kernel), List.mem_of_getElem? (i := 198) (by decide +kernel)⟩
theorem lw_p11 : lw_okq (⟨"EchoBureau", "meetsNow", "(LEchoBureau$Hall;LEchoBureau$Standard;)Z"⟩, 8) := ⟨⟨by decide +kernel, by decide +kernel⟩, List.mem_of_getElem? (i := 18) (by decide +kernel), List.mem_of_getElem? (i := 201) (by decide +kernel), List.mem_of_getElem? (i := 202) (by decide +kernel)⟩
theorem lw_p12 : lw_okq (⟨"EchoBureau", "wouldMeet", "(LEchoBureau$Hall;LEchoBureau$Standard;II)Z"⟩, 8) := ⟨⟨by decide +kernel, by decide +kernel⟩, List.mem_of_getElem? (i := 18) (by decide +kernel), List.mem_of_getElem? (i := 205) (by decide +kernel), List.mem_of_getElem? (i := 206) (by decide +kernel)⟩
theorem lw_p13 : lw_okq (⟨"EchoBureau$Standard", "allows", "(LEchoBureau$Tally;)Z"⟩, 5) := ⟨⟨by decide +kernel, by decide +kernel⟩, List.mem_of_getElem? (i := 211) (by decide +kernel), List.mem_of_getElem? (i := 209) (by decide +kernel), List.mem_of_getElem? (i := 210) (by decide +kernel)⟩
theorem lw_p14 : lw_okq (⟨"java/lang/Throwable", "fillInStackTrace", "(I)Ljava/lang/Throwable;"⟩, 6) := ⟨⟨by decide +kernel, by decide +kernel⟩, List.mem_of_getElem? (i := 267) (by decide +kernel), List.mem_of_getElem? (i := 265) (by decide +kernel), List.mem_of_getElem? (i := 266) (by decide +kernel)⟩
theorem lw_p15 : lw_okq (⟨"EchoBureau", "findHall", "(I)LEchoBureau$Hall;"⟩, 8) := ⟨⟨by decide +kernel, by decide +kernel⟩, List.mem_of_getElem? (i := 18) (by decide +kernel), List.mem_of_getElem? (i := 352) (by decide +kernel), List.mem_of_getElem? (i := 353) (by decide +kernel)⟩
def lw_privs_1 : List (MethodName × Nat) := [(⟨"EchoBureau", "countCertified", "()I"⟩, 8), (⟨"EchoBureau$Hall", "hasCertificate", "()Z"⟩, 6), (⟨"EchoBureau$Surface", "hardnessUnder", "(I)I"⟩, 2), (⟨"EchoBureau", "mixEchoes", "(JLEchoBureau$Hall;)J"⟩, 8), (⟨"EchoBureau", "tallyOf", "(LEchoBureau$Hall;II)LEchoBureau$Tally;"⟩, 8), (⟨"EchoBureau$Tally", "begin", "(I)V"⟩, 5), (⟨"EchoBureau$Hall", "throwBack", "(IIILEchoBureau$Listener;)V"⟩, 6), (⟨"EchoBureau$Surface", "throwRow", "(IIILEchoBureau$Listener;)V"⟩, 2), (⟨"EchoBureau", "loudnessesOf", "(LEchoBureau$Hall;I)LEchoBureau$Loudnesses;"⟩, 8), (⟨"EchoBureau$Loudnesses", "begin", "()V"⟩, 1), (⟨"EchoBureau$Loudnesses", "momentOfMost", "()I"⟩, 1), (⟨"EchoBureau", "meetsNow", "(LEchoBureau$Hall;LEchoBureau$Standard;)Z"⟩, 8), (⟨"EchoBureau", "wouldMeet", "(LEchoBureau$Hall;LEchoBureau$Standard;II)Z"⟩, 8), (⟨"EchoBureau$Standard", "allows", "(LEchoBureau$Tally;)Z"⟩, 5), (⟨"java/lang/Throwable", "fillInStackTrace", "(I)Ljava/lang/Throwable;"⟩, 6), (⟨"EchoBureau", "findHall", "(I)LEchoBureau$Hall;"⟩, 8)]
theorem lw_r1 : ∀ q ∈ lw_privs_1, lw_okq q := List.forall_mem_cons.mpr ⟨lw_p0, List.forall_mem_cons.mpr ⟨lw_p1, List.forall_mem_cons.mpr ⟨lw_p2, List.forall_mem_cons.mpr ⟨lw_p3, List.forall_mem_cons.mpr ⟨lw_p4, List.forall_mem_cons.mpr ⟨lw_p5, List.forall_mem_cons.mpr ⟨lw_p6, List.forall_mem_cons.mpr ⟨lw_p7, List.forall_mem_cons.mpr ⟨lw_p8, List.forall_mem_cons.mpr ⟨lw_p9, List.forall_mem_cons.mpr ⟨lw_p10, List.forall_mem_cons.mpr ⟨lw_p11, List.forall_mem_cons.mpr ⟨lw_p12, List.forall_mem_cons.mpr ⟨lw_p13, List.forall_mem_cons.mpr ⟨lw_p14, List.forall_mem_cons.mpr ⟨lw_p15, fun _ h => absurd h List.not_mem_nil⟩⟩⟩⟩⟩⟩⟩⟩⟩⟩⟩⟩⟩⟩⟩⟩
theorem lw_p16 : lw_okq (⟨"EchoBureau$Hall", "isFull", "()Z"⟩, 6) := ⟨⟨by decide +kernel, by decide +kernel⟩, List.mem_of_getElem? (i := 122) (by decide +kernel), List.mem_of_getElem? (i := 378) (by decide +kernel), List.mem_of_getElem? (i := 379) (by decide +kernel)⟩
theorem lw_p17 : lw_okq (⟨"EchoBureau$Hall", "loseCertificate", "()V"⟩, 6) := ⟨⟨by decide +kernel, by decide +kernel⟩, List.mem_of_getElem? (i := 122) (by decide +kernel), List.mem_of_getElem? (i := 383) (by decide +kernel), List.mem_of_getElem? (i := 384) (by decide +kernel)⟩
theorem lw_p18 : lw_okq (⟨"EchoBureau$Hall", "build", "(LEchoBureau$Surface;)I"⟩, 6) := ⟨⟨by decide +kernel, by decide +kernel⟩, List.mem_of_getElem? (i := 122) (by decide +kernel), List.mem_of_getElem? (i := 400) (by decide +kernel), List.mem_of_getElem? (i := 401) (by decide +kernel)⟩
theorem lw_p19 : lw_okq (⟨"EchoBureau", "findStandard", "(I)LEchoBureau$Standard;"⟩, 8) := ⟨⟨by decide +kernel, by decide +kernel⟩, List.mem_of_getElem? (i := 18) (by decide +kernel), List.mem_of_getElem? (i := 468) (by decide +kernel), List.mem_of_getElem? (i := 469) (by decide +kernel)⟩
theorem lw_p20 : lw_okq (⟨"EchoBureau$Hall", "takeCertificate", "(II)V"⟩, 6) := ⟨⟨by decide +kernel, by decide +kernel⟩, List.mem_of_getElem? (i := 122) (by decide +kernel), List.mem_of_getElem? (i := 474) (by decide +kernel), List.mem_of_getElem? (i := 475) (by decide +kernel)⟩
theorem lw_p21 : lw_okq (⟨"EchoBureau$Hall", "growOlder", "(I)V"⟩, 6) := ⟨⟨by decide +kernel, by decide +kernel⟩, List.mem_of_getElem? (i := 122) (by decide +kernel), List.mem_of_getElem? (i := 497) (by decide +kernel), List.mem_of_getElem? (i := 498) (by decide +kernel)⟩
theorem lw_p22 : lw_okq (⟨"EchoBureau$Hall", "dustBehind", "(I)I"⟩, 6) := ⟨⟨by decide +kernel, by decide +kernel⟩, List.mem_of_getElem? (i := 122) (by decide +kernel), List.mem_of_getElem? (i := 501) (by decide +kernel), List.mem_of_getElem? (i := 502) (by decide +kernel)⟩
theorem lw_p23 : lw_okq (⟨"EchoBureau", "tallyOfClick", "(II)LEchoBureau$Tally;"⟩, 8) := ⟨⟨by decide +kernel, by decide +kernel⟩, List.mem_of_getElem? (i := 18) (by decide +kernel), List.mem_of_getElem? (i := 551) (by decide +kernel), List.mem_of_getElem? (i := 552) (by decide +kernel)⟩
theorem lw_p24 : lw_okq (⟨"EchoBureau$Loudnesses", "addedAt", "(I)I"⟩, 1) := ⟨⟨by decide +kernel, by decide +kernel⟩, List.mem_of_getElem? (i := 60) (by decide +kernel), List.mem_of_getElem? (i := 588) (by decide +kernel), List.mem_of_getElem? (i := 589) (by decide +kernel)⟩
theorem lw_p25 : lw_okq (⟨"EchoBureauModel", "fail", "(I)I"⟩, 17) := ⟨⟨by decide +kernel, by decide +kernel⟩, List.mem_of_getElem? (i := 663) (by decide +kernel), List.mem_of_getElem? (i := 732) (by decide +kernel), List.mem_of_getElem? (i := 733) (by decide +kernel)⟩
theorem lw_p26 : lw_okq (⟨"EchoBureauModel", "isHall", "(I)Z"⟩, 17) := ⟨⟨by decide +kernel, by decide +kernel⟩, List.mem_of_getElem? (i := 663) (by decide +kernel), List.mem_of_getElem? (i := 740) (by decide +kernel), List.mem_of_getElem? (i := 741) (by decide +kernel)⟩
theorem lw_p27 : lw_okq (⟨"EchoBureauModel", "strike", "(I)V"⟩, 17) := ⟨⟨by decide +kernel, by decide +kernel⟩, List.mem_of_getElem? (i := 663) (by decide +kernel), List.mem_of_getElem? (i := 744) (by decide +kernel), List.mem_of_getElem? (i := 745) (by decide +kernel)⟩
theorem lw_p28 : lw_okq (⟨"EchoBureauModel", "isSurface", "(II)Z"⟩, 17) := ⟨⟨by decide +kernel, by decide +kernel⟩, List.mem_of_getElem? (i := 663) (by decide +kernel), List.mem_of_getElem? (i := 752) (by decide +kernel), List.mem_of_getElem? (i := 753) (by decide +kernel)⟩
theorem lw_p29 : lw_okq (⟨"EchoBureauModel", "isPair", "(II)Z"⟩, 17) := ⟨⟨by decide +kernel, by decide +kernel⟩, List.mem_of_getElem? (i := 663) (by decide +kernel), List.mem_of_getElem? (i := 775) (by decide +kernel), List.mem_of_getElem? (i := 776) (by decide +kernel)⟩
theorem lw_p30 : lw_okq (⟨"EchoBureauModel", "isStandard", "(I)Z"⟩, 17) := ⟨⟨by decide +kernel, by decide +kernel⟩, List.mem_of_getElem? (i := 663) (by decide +kernel), List.mem_of_getElem? (i := 779) (by decide +kernel), List.mem_of_getElem? (i := 780) (by decide +kernel)⟩
theorem lw_p31 : lw_okq (⟨"EchoBureauModel", "meetsNow", "(II)Z"⟩, 17) := ⟨⟨by decide +kernel, by decide +kernel⟩, List.mem_of_getElem? (i := 663) (by decide +kernel), List.mem_of_getElem? (i := 783) (by decide +kernel), List.mem_of_getElem? (i := 784) (by decide +kernel)⟩
def lw_privs_2 : List (MethodName × Nat) := [(⟨"EchoBureau$Hall", "isFull", "()Z"⟩, 6), (⟨"EchoBureau$Hall", "loseCertificate", "()V"⟩, 6), (⟨"EchoBureau$Hall", "build", "(LEchoBureau$Surface;)I"⟩, 6), (⟨"EchoBureau", "findStandard", "(I)LEchoBureau$Standard;"⟩, 8), (⟨"EchoBureau$Hall", "takeCertificate", "(II)V"⟩, 6), (⟨"EchoBureau$Hall", "growOlder", "(I)V"⟩, 6), (⟨"EchoBureau$Hall", "dustBehind", "(I)I"⟩, 6), (⟨"EchoBureau", "tallyOfClick", "(II)LEchoBureau$Tally;"⟩, 8), (⟨"EchoBureau$Loudnesses", "addedAt", "(I)I"⟩, 1), (⟨"EchoBureauModel", "fail", "(I)I"⟩, 17), (⟨"EchoBureauModel", "isHall", "(I)Z"⟩, 17), (⟨"EchoBureauModel", "strike", "(I)V"⟩, 17), (⟨"EchoBureauModel", "isSurface", "(II)Z"⟩, 17), (⟨"EchoBureauModel", "isPair", "(II)Z"⟩, 17), (⟨"EchoBureauModel", "isStandard", "(I)Z"⟩, 17), (⟨"EchoBureauModel", "meetsNow", "(II)Z"⟩, 17)]
theorem lw_r2 : ∀ q ∈ lw_privs_2, lw_okq q := List.forall_mem_cons.mpr ⟨lw_p16, List.forall_mem_cons.mpr ⟨lw_p17, List.forall_mem_cons.mpr ⟨lw_p18, List.forall_mem_cons.mpr ⟨lw_p19, List.forall_mem_cons.mpr ⟨lw_p20, List.forall_mem_cons.mpr ⟨lw_p21, List.forall_mem_cons.mpr ⟨lw_p22, List.forall_mem_cons.mpr ⟨lw_p23, List.forall_mem_cons.mpr ⟨lw_p24, List.forall_mem_cons.mpr ⟨lw_p25, List.forall_mem_cons.mpr ⟨lw_p26, List.forall_mem_cons.mpr ⟨lw_p27, List.forall_mem_cons.mpr ⟨lw_p28, List.forall_mem_cons.mpr ⟨lw_p29, List.forall_mem_cons.mpr ⟨lw_p30, List.forall_mem_cons.mpr ⟨lw_p31, fun _ h => absurd h List.not_mem_nil⟩⟩⟩⟩⟩⟩⟩⟩⟩⟩⟩⟩⟩⟩⟩⟩
theorem lw_p32 : lw_okq (⟨"EchoBureauModel", "meets", "(IIII)Z"⟩, 17) := ⟨⟨by decide +kernel, by decide +kernel⟩, List.mem_of_getElem? (i := 663) (by decide +kernel), List.mem_of_getElem? (i := 787) (by decide +kernel), List.mem_of_getElem? (i := 788) (by decide +kernel)⟩
theorem lw_p33 : lw_okq (⟨"EchoBureauModel", "click", "(IIII)V"⟩, 17) := ⟨⟨by decide +kernel, by decide +kernel⟩, List.mem_of_getElem? (i := 663) (by decide +kernel), List.mem_of_getElem? (i := 791) (by decide +kernel), List.mem_of_getElem? (i := 792) (by decide +kernel)⟩
theorem lw_p34 : lw_okq (⟨"EchoBureauModel", "hard", "(III)I"⟩, 17) := ⟨⟨by decide +kernel, by decide +kernel⟩, List.mem_of_getElem? (i := 663) (by decide +kernel), List.mem_of_getElem? (i := 795) (by decide +kernel), List.mem_of_getElem? (i := 796) (by decide +kernel)⟩
theorem lw_p35 : lw_okq (⟨"EchoBureauModel", "all", "()I"⟩, 17) := ⟨⟨by decide +kernel, by decide +kernel⟩, List.mem_of_getElem? (i := 663) (by decide +kernel), List.mem_of_getElem? (i := 800) (by decide +kernel), List.mem_of_getElem? (i := 801) (by decide +kernel)⟩
theorem lw_p36 : lw_okq (⟨"EchoBureauModel", "first", "()I"⟩, 17) := ⟨⟨by decide +kernel, by decide +kernel⟩, List.mem_of_getElem? (i := 663) (by decide +kernel), List.mem_of_getElem? (i := 804) (by decide +kernel), List.mem_of_getElem? (i := 805) (by decide +kernel)⟩
theorem lw_p37 : lw_okq (⟨"EchoBureauModel", "rule", "(II)I"⟩, 17) := ⟨⟨by decide +kernel, by decide +kernel⟩, List.mem_of_getElem? (i := 663) (by decide +kernel), List.mem_of_getElem? (i := 808) (by decide +kernel), List.mem_of_getElem? (i := 809) (by decide +kernel)⟩
theorem lw_p38 : lw_okq (⟨"EchoBureauModel", "last", "()I"⟩, 17) := ⟨⟨by decide +kernel, by decide +kernel⟩, List.mem_of_getElem? (i := 663) (by decide +kernel), List.mem_of_getElem? (i := 812) (by decide +kernel), List.mem_of_getElem? (i := 813) (by decide +kernel)⟩
theorem lw_p39 : lw_okq (⟨"EchoBureauModel", "louder", "(I)I"⟩, 17) := ⟨⟨by decide +kernel, by decide +kernel⟩, List.mem_of_getElem? (i := 663) (by decide +kernel), List.mem_of_getElem? (i := 816) (by decide +kernel), List.mem_of_getElem? (i := 817) (by decide +kernel)⟩
theorem lw_p40 : lw_okq (⟨"EchoBureauModel", "certified", "()I"⟩, 17) := ⟨⟨by decide +kernel, by decide +kernel⟩, List.mem_of_getElem? (i := 663) (by decide +kernel), List.mem_of_getElem? (i := 829) (by decide +kernel), List.mem_of_getElem? (i := 830) (by decide +kernel)⟩
theorem lw_p41 : lw_okq (⟨"EchoBureauModel", "isClick", "(IIZ)Z"⟩, 17) := ⟨⟨by decide +kernel, by decide +kernel⟩, List.mem_of_getElem? (i := 663) (by decide +kernel), List.mem_of_getElem? (i := 857) (by decide +kernel), List.mem_of_getElem? (i := 858) (by decide +kernel)⟩
theorem lw_p42 : lw_okq (⟨"EchoBureauModel", "clickNow", "(II)V"⟩, 17) := ⟨⟨by decide +kernel, by decide +kernel⟩, List.mem_of_getElem? (i := 663) (by decide +kernel), List.mem_of_getElem? (i := 861) (by decide +kernel), List.mem_of_getElem? (i := 862) (by decide +kernel)⟩
theorem lw_p43 : lw_okq (⟨"EchoBureauModel", "at", "(I)I"⟩, 17) := ⟨⟨by decide +kernel, by decide +kernel⟩, List.mem_of_getElem? (i := 663) (by decide +kernel), List.mem_of_getElem? (i := 881) (by decide +kernel), List.mem_of_getElem? (i := 882) (by decide +kernel)⟩
theorem lw_p44 : lw_okq (⟨"EchoBureauModel", "loudest", "()I"⟩, 17) := ⟨⟨by decide +kernel, by decide +kernel⟩, List.mem_of_getElem? (i := 663) (by decide +kernel), List.mem_of_getElem? (i := 889) (by decide +kernel), List.mem_of_getElem? (i := 890) (by decide +kernel)⟩
theorem lw_p45 : lw_okq (⟨"EchoBureauModel", "failed", "(I)Z"⟩, 17) := ⟨⟨by decide +kernel, by decide +kernel⟩, List.mem_of_getElem? (i := 663) (by decide +kernel), List.mem_of_getElem? (i := 905) (by decide +kernel), List.mem_of_getElem? (i := 906) (by decide +kernel)⟩
theorem lw_p46 : lw_okq (⟨"EchoBureauModel", "least", "(II)I"⟩, 17) := ⟨⟨by decide +kernel, by decide +kernel⟩, List.mem_of_getElem? (i := 663) (by decide +kernel), List.mem_of_getElem? (i := 945) (by decide +kernel), List.mem_of_getElem? (i := 946) (by decide +kernel)⟩
def lw_privs_3 : List (MethodName × Nat) := [(⟨"EchoBureauModel", "meets", "(IIII)Z"⟩, 17), (⟨"EchoBureauModel", "click", "(IIII)V"⟩, 17), (⟨"EchoBureauModel", "hard", "(III)I"⟩, 17), (⟨"EchoBureauModel", "all", "()I"⟩, 17), (⟨"EchoBureauModel", "first", "()I"⟩, 17), (⟨"EchoBureauModel", "rule", "(II)I"⟩, 17), (⟨"EchoBureauModel", "last", "()I"⟩, 17), (⟨"EchoBureauModel", "louder", "(I)I"⟩, 17), (⟨"EchoBureauModel", "certified", "()I"⟩, 17), (⟨"EchoBureauModel", "isClick", "(IIZ)Z"⟩, 17), (⟨"EchoBureauModel", "clickNow", "(II)V"⟩, 17), (⟨"EchoBureauModel", "at", "(I)I"⟩, 17), (⟨"EchoBureauModel", "loudest", "()I"⟩, 17), (⟨"EchoBureauModel", "failed", "(I)Z"⟩, 17), (⟨"EchoBureauModel", "least", "(II)I"⟩, 17)]
theorem lw_r3 : ∀ q ∈ lw_privs_3, lw_okq q := List.forall_mem_cons.mpr ⟨lw_p32, List.forall_mem_cons.mpr ⟨lw_p33, List.forall_mem_cons.mpr ⟨lw_p34, List.forall_mem_cons.mpr ⟨lw_p35, List.forall_mem_cons.mpr ⟨lw_p36, List.forall_mem_cons.mpr ⟨lw_p37, List.forall_mem_cons.mpr ⟨lw_p38, List.forall_mem_cons.mpr ⟨lw_p39, List.forall_mem_cons.mpr ⟨lw_p40, List.forall_mem_cons.mpr ⟨lw_p41, List.forall_mem_cons.mpr ⟨lw_p42, List.forall_mem_cons.mpr ⟨lw_p43, List.forall_mem_cons.mpr ⟨lw_p44, List.forall_mem_cons.mpr ⟨lw_p45, List.forall_mem_cons.mpr ⟨lw_p46, fun _ h => absurd h List.not_mem_nil⟩⟩⟩⟩⟩⟩⟩⟩⟩⟩⟩⟩⟩⟩⟩
def lw_privs : List (MethodName × Nat) := lw_privs_1 ++ (lw_privs_2 ++ (lw_privs_3))
def lw_tbl : List Cond := k2_sels lw_privs ++ tables_1
theorem lw_privs_ok : ∀ q ∈ lw_privs, lw_okq q := by
  show ∀ q ∈ lw_privs_1 ++ (lw_privs_2 ++ (lw_privs_3)), lw_okq q
  exact List.forall_mem_append.mpr ⟨lw_r1, List.forall_mem_append.mpr ⟨lw_r2, lw_r3⟩⟩
/-- the streams that the claim lets the run draw from -/
abbrev lw_cs : List Choice := [Jvm.Choice.named "NaN.bits"]
theorem lw_bits : nanBits ∈ lw_cs := by first | decide | exact List.mem_cons_self | simp [lw_cs, nanBits]

def RX0 : String := "EchoBureau$Hall"
def TX0 : u_T := fun k => match k with
  | 0 => ("EchoBureau$Hall", "surfaces", "[LEchoBureau$Surface;", true)
  | 1 => ("EchoBureau$Hall", "surfaceCount", "I", false)
  | 2 => ("EchoBureau$Hall", "damping", "I", false)
  | 3 => ("EchoBureau$Hall", "dust", "I", false)
  | 4 => ("EchoBureau$Hall", "certificate", "I", false)
  | _ => ("EchoBureau$Hall", "certificateDays", "I", false)
def tyX0 : Nat → FieldType := fun k => match k with
  | 0 => .array (.object "EchoBureau$Surface")
  | 1 => .int
  | 2 => .int
  | 3 => .int
  | 4 => .int
  | _ => .int
theorem nmX0 : ∀ a, a < 6 → ∀ b, b < 6 → a ≠ b → (TX0 a).2.1 ≠ (TX0 b).2.1 := by decide +kernel
theorem tyX0_ok : ∀ k, k < 6 → parseFieldDescriptor (TX0 k).2.2.1 = some (tyX0 k) := by decide +kernel
abbrev cX0_init : ByteArray := prog_2_method_1_code
def yX0_init : MethodName := ⟨RX0, "<init>", "(I)V"⟩
abbrev cX0_isFull : ByteArray := prog_2_method_2_code
def yX0_isFull : MethodName := ⟨RX0, "isFull", "()Z"⟩
abbrev cX0_build : ByteArray := prog_2_method_3_code
def yX0_build : MethodName := ⟨RX0, "build", "(LEchoBureau$Surface;)I"⟩
abbrev cX0_hasCertificate : ByteArray := prog_2_method_4_code
def yX0_hasCertificate : MethodName := ⟨RX0, "hasCertificate", "()Z"⟩
abbrev cX0_takeCertificate : ByteArray := prog_2_method_5_code
def yX0_takeCertificate : MethodName := ⟨RX0, "takeCertificate", "(II)V"⟩
abbrev cX0_loseCertificate : ByteArray := prog_2_method_6_code
def yX0_loseCertificate : MethodName := ⟨RX0, "loseCertificate", "()V"⟩
abbrev cX0_dustBehind : ByteArray := prog_2_method_7_code
def yX0_dustBehind : MethodName := ⟨RX0, "dustBehind", "(I)I"⟩
abbrev cX0_growOlder : ByteArray := prog_2_method_8_code
def yX0_growOlder : MethodName := ⟨RX0, "growOlder", "(I)V"⟩
abbrev cX0_throwBack : ByteArray := prog_2_method_9_code
def yX0_throwBack : MethodName := ⟨RX0, "throwBack", "(IIILEchoBureau$Listener;)V"⟩
def RX1 : String := "EchoBureau$Listener"
def TX1 : u_T := fun k => match k with
  | _ => ("", "", "", false)
def tyX1 : Nat → FieldType := fun k => match k with
  | _ => .int
theorem nmX1 : ∀ a, a < 0 → ∀ b, b < 0 → a ≠ b → (TX1 a).2.1 ≠ (TX1 b).2.1 := by decide +kernel
theorem tyX1_ok : ∀ k, k < 0 → parseFieldDescriptor (TX1 k).2.2.1 = some (tyX1 k) := by decide +kernel
def RX2 : String := "EchoBureau$Loudnesses"
def TX2 : u_T := fun k => match k with
  | _ => ("EchoBureau$Loudnesses", "added", "[I", true)
def tyX2 : Nat → FieldType := fun k => match k with
  | _ => .array .int
theorem nmX2 : ∀ a, a < 1 → ∀ b, b < 1 → a ≠ b → (TX2 a).2.1 ≠ (TX2 b).2.1 := by decide +kernel
theorem tyX2_ok : ∀ k, k < 1 → parseFieldDescriptor (TX2 k).2.2.1 = some (tyX2 k) := by decide +kernel
abbrev cX2_init : ByteArray := prog_4_method_1_code
def yX2_init : MethodName := ⟨RX2, "<init>", "()V"⟩
abbrev cX2_begin : ByteArray := prog_4_method_2_code
def yX2_begin : MethodName := ⟨RX2, "begin", "()V"⟩
abbrev cX2_hear : ByteArray := prog_4_method_3_code
def yX2_hear : MethodName := ⟨RX2, "hear", "(II)V"⟩
abbrev cX2_addedAt : ByteArray := prog_4_method_4_code
def yX2_addedAt : MethodName := ⟨RX2, "addedAt", "(I)I"⟩
abbrev cX2_momentOfMost : ByteArray := prog_4_method_5_code
def yX2_momentOfMost : MethodName := ⟨RX2, "momentOfMost", "()I"⟩
def RX3 : String := "EchoBureau$Standard"
def TX3 : u_T := fun k => match k with
  | 0 => ("EchoBureau$Standard", "earliest", "I", true)
  | 1 => ("EchoBureau$Standard", "limit", "I", true)
  | 2 => ("EchoBureau$Standard", "most", "I", true)
  | 3 => ("EchoBureau$Standard", "latest", "I", true)
  | _ => ("EchoBureau$Standard", "days", "I", true)
def tyX3 : Nat → FieldType := fun k => match k with
  | 0 => .int
  | 1 => .int
  | 2 => .int
  | 3 => .int
  | _ => .int
theorem nmX3 : ∀ a, a < 5 → ∀ b, b < 5 → a ≠ b → (TX3 a).2.1 ≠ (TX3 b).2.1 := by decide +kernel
theorem tyX3_ok : ∀ k, k < 5 → parseFieldDescriptor (TX3 k).2.2.1 = some (tyX3 k) := by decide +kernel
abbrev cX3_init : ByteArray := prog_5_method_1_code
def yX3_init : MethodName := ⟨RX3, "<init>", "(IIIII)V"⟩
abbrev cX3_allows : ByteArray := prog_5_method_2_code
def yX3_allows : MethodName := ⟨RX3, "allows", "(LEchoBureau$Tally;)Z"⟩
def RX4 : String := "EchoBureau$Surface"
def TX4 : u_T := fun k => match k with
  | 0 => ("EchoBureau$Surface", "hardnessAsBuilt", "I", true)
  | _ => ("EchoBureau$Surface", "distance", "I", false)
def tyX4 : Nat → FieldType := fun k => match k with
  | 0 => .int
  | _ => .int
theorem nmX4 : ∀ a, a < 2 → ∀ b, b < 2 → a ≠ b → (TX4 a).2.1 ≠ (TX4 b).2.1 := by decide +kernel
theorem tyX4_ok : ∀ k, k < 2 → parseFieldDescriptor (TX4 k).2.2.1 = some (tyX4 k) := by decide +kernel
abbrev cX4_init : ByteArray := prog_6_method_1_code
def yX4_init : MethodName := ⟨RX4, "<init>", "(II)V"⟩
abbrev cX4_hardnessUnder : ByteArray := prog_6_method_2_code
def yX4_hardnessUnder : MethodName := ⟨RX4, "hardnessUnder", "(I)I"⟩
abbrev cX4_throwRow : ByteArray := prog_6_method_3_code
def yX4_throwRow : MethodName := ⟨RX4, "throwRow", "(IIILEchoBureau$Listener;)V"⟩
def RX5 : String := "EchoBureau$Tally"
def TX5 : u_T := fun k => match k with
  | 0 => ("EchoBureau$Tally", "limit", "I", false)
  | 1 => ("EchoBureau$Tally", "count", "I", false)
  | 2 => ("EchoBureau$Tally", "loudCount", "I", false)
  | 3 => ("EchoBureau$Tally", "first", "I", false)
  | _ => ("EchoBureau$Tally", "last", "I", false)
def tyX5 : Nat → FieldType := fun k => match k with
  | 0 => .int
  | 1 => .int
  | 2 => .int
  | 3 => .int
  | _ => .int
theorem nmX5 : ∀ a, a < 5 → ∀ b, b < 5 → a ≠ b → (TX5 a).2.1 ≠ (TX5 b).2.1 := by decide +kernel
theorem tyX5_ok : ∀ k, k < 5 → parseFieldDescriptor (TX5 k).2.2.1 = some (tyX5 k) := by decide +kernel
abbrev cX5_init : ByteArray := prog_7_method_1_code
def yX5_init : MethodName := ⟨RX5, "<init>", "()V"⟩
abbrev cX5_begin : ByteArray := prog_7_method_2_code
def yX5_begin : MethodName := ⟨RX5, "begin", "(I)V"⟩
abbrev cX5_hear : ByteArray := prog_7_method_3_code
def yX5_hear : MethodName := ⟨RX5, "hear", "(II)V"⟩
def RX6 : String := "EchoBureau"
def TX6 : u_T := fun k => match k with
  | 0 => ("EchoBureau", "hallRow", "[LEchoBureau$Hall;", true)
  | 1 => ("EchoBureau", "standardRow", "[LEchoBureau$Standard;", true)
  | 2 => ("EchoBureau", "hallCount", "I", false)
  | 3 => ("EchoBureau", "standardCount", "I", false)
  | 4 => ("EchoBureau", "today", "I", false)
  | 5 => ("EchoBureau", "inspectionCount", "I", false)
  | 6 => ("EchoBureau", "tally", "LEchoBureau$Tally;", true)
  | _ => ("EchoBureau", "loudnesses", "LEchoBureau$Loudnesses;", true)
def tyX6 : Nat → FieldType := fun k => match k with
  | 0 => .array (.object "EchoBureau$Hall")
  | 1 => .array (.object "EchoBureau$Standard")
  | 2 => .int
  | 3 => .int
  | 4 => .int
  | 5 => .int
  | 6 => .object "EchoBureau$Tally"
  | _ => .object "EchoBureau$Loudnesses"
theorem nmX6 : ∀ a, a < 8 → ∀ b, b < 8 → a ≠ b → (TX6 a).2.1 ≠ (TX6 b).2.1 := by decide +kernel
theorem tyX6_ok : ∀ k, k < 8 → parseFieldDescriptor (TX6 k).2.2.1 = some (tyX6 k) := by decide +kernel
abbrev cX6_init : ByteArray := prog_1_method_1_code
def yX6_init : MethodName := ⟨RX6, "<init>", "()V"⟩
abbrev cX6_addHall : ByteArray := prog_1_method_2_code
def yX6_addHall : MethodName := ⟨RX6, "addHall", "(I)I"⟩
abbrev cX6_addSurface : ByteArray := prog_1_method_3_code
def yX6_addSurface : MethodName := ⟨RX6, "addSurface", "(III)I"⟩
abbrev cX6_moveSurface : ByteArray := prog_1_method_4_code
def yX6_moveSurface : MethodName := ⟨RX6, "moveSurface", "(III)I"⟩
abbrev cX6_setDamping : ByteArray := prog_1_method_5_code
def yX6_setDamping : MethodName := ⟨RX6, "setDamping", "(II)I"⟩
abbrev cX6_clean : ByteArray := prog_1_method_6_code
def yX6_clean : MethodName := ⟨RX6, "clean", "(I)I"⟩
abbrev cX6_addStandard : ByteArray := prog_1_method_7_code
def yX6_addStandard : MethodName := ⟨RX6, "addStandard", "(IIIII)I"⟩
abbrev cX6_inspect : ByteArray := prog_1_method_8_code
def yX6_inspect : MethodName := ⟨RX6, "inspect", "(II)Z"⟩
abbrev cX6_revoke : ByteArray := prog_1_method_9_code
def yX6_revoke : MethodName := ⟨RX6, "revoke", "(I)I"⟩
abbrev cX6_passDays : ByteArray := prog_1_method_10_code
def yX6_passDays : MethodName := ⟨RX6, "passDays", "(I)I"⟩
abbrev cX6_surfacesOf : ByteArray := prog_1_method_11_code
def yX6_surfacesOf : MethodName := ⟨RX6, "surfacesOf", "(I)I"⟩
abbrev cX6_distanceOf : ByteArray := prog_1_method_12_code
def yX6_distanceOf : MethodName := ⟨RX6, "distanceOf", "(II)I"⟩
abbrev cX6_hardnessOf : ByteArray := prog_1_method_13_code
def yX6_hardnessOf : MethodName := ⟨RX6, "hardnessOf", "(II)I"⟩
abbrev cX6_dampingOf : ByteArray := prog_1_method_14_code
def yX6_dampingOf : MethodName := ⟨RX6, "dampingOf", "(I)I"⟩
abbrev cX6_dustOf : ByteArray := prog_1_method_15_code
def yX6_dustOf : MethodName := ⟨RX6, "dustOf", "(I)I"⟩
abbrev cX6_echoes : ByteArray := prog_1_method_16_code
def yX6_echoes : MethodName := ⟨RX6, "echoes", "(II)I"⟩
abbrev cX6_loudEchoes : ByteArray := prog_1_method_17_code
def yX6_loudEchoes : MethodName := ⟨RX6, "loudEchoes", "(III)I"⟩
abbrev cX6_firstEcho : ByteArray := prog_1_method_18_code
def yX6_firstEcho : MethodName := ⟨RX6, "firstEcho", "(II)I"⟩
abbrev cX6_lastEcho : ByteArray := prog_1_method_19_code
def yX6_lastEcho : MethodName := ⟨RX6, "lastEcho", "(II)I"⟩
abbrev cX6_loudnessAt : ByteArray := prog_1_method_20_code
def yX6_loudnessAt : MethodName := ⟨RX6, "loudnessAt", "(III)I"⟩
abbrev cX6_loudestMoment : ByteArray := prog_1_method_21_code
def yX6_loudestMoment : MethodName := ⟨RX6, "loudestMoment", "(II)I"⟩
abbrev cX6_meets : ByteArray := prog_1_method_22_code
def yX6_meets : MethodName := ⟨RX6, "meets", "(II)Z"⟩
abbrev cX6_hallsMeeting : ByteArray := prog_1_method_23_code
def yX6_hallsMeeting : MethodName := ⟨RX6, "hallsMeeting", "(I)I"⟩
abbrev cX6_isCertified : ByteArray := prog_1_method_24_code
def yX6_isCertified : MethodName := ⟨RX6, "isCertified", "(I)Z"⟩
abbrev cX6_certifiedBy : ByteArray := prog_1_method_25_code
def yX6_certifiedBy : MethodName := ⟨RX6, "certifiedBy", "(I)I"⟩
abbrev cX6_daysLeft : ByteArray := prog_1_method_26_code
def yX6_daysLeft : MethodName := ⟨RX6, "daysLeft", "(I)I"⟩
abbrev cX6_halls : ByteArray := prog_1_method_27_code
def yX6_halls : MethodName := ⟨RX6, "halls", "()I"⟩
abbrev cX6_standards : ByteArray := prog_1_method_28_code
def yX6_standards : MethodName := ⟨RX6, "standards", "()I"⟩
abbrev cX6_day : ByteArray := prog_1_method_29_code
def yX6_day : MethodName := ⟨RX6, "day", "()I"⟩
abbrev cX6_inspections : ByteArray := prog_1_method_30_code
def yX6_inspections : MethodName := ⟨RX6, "inspections", "()I"⟩
abbrev cX6_certifiedHalls : ByteArray := prog_1_method_31_code
def yX6_certifiedHalls : MethodName := ⟨RX6, "certifiedHalls", "()I"⟩
abbrev cX6_meetsWithDamping : ByteArray := prog_1_method_32_code
def yX6_meetsWithDamping : MethodName := ⟨RX6, "meetsWithDamping", "(III)Z"⟩
abbrev cX6_leastDamping : ByteArray := prog_1_method_33_code
def yX6_leastDamping : MethodName := ⟨RX6, "leastDamping", "(II)I"⟩
abbrev cX6_daysUntilMet : ByteArray := prog_1_method_34_code
def yX6_daysUntilMet : MethodName := ⟨RX6, "daysUntilMet", "(II)I"⟩
abbrev cX6_easiestHall : ByteArray := prog_1_method_35_code
def yX6_easiestHall : MethodName := ⟨RX6, "easiestHall", "(I)I"⟩
abbrev cX6_meanDamping : ByteArray := prog_1_method_36_code
def yX6_meanDamping : MethodName := ⟨RX6, "meanDamping", "()D"⟩
abbrev cX6_digest : ByteArray := prog_1_method_37_code
def yX6_digest : MethodName := ⟨RX6, "digest", "()J"⟩
abbrev cX6_mix : ByteArray := prog_1_method_38_code
def yX6_mix : MethodName := ⟨RX6, "mix", "(JI)J"⟩
abbrev cX6_mixHall : ByteArray := prog_1_method_39_code
def yX6_mixHall : MethodName := ⟨RX6, "mixHall", "(JLEchoBureau$Hall;)J"⟩
abbrev cX6_mixEchoes : ByteArray := prog_1_method_40_code
def yX6_mixEchoes : MethodName := ⟨RX6, "mixEchoes", "(JLEchoBureau$Hall;)J"⟩
abbrev cX6_isWithin : ByteArray := prog_1_method_41_code
def yX6_isWithin : MethodName := ⟨RX6, "isWithin", "(III)Z"⟩
abbrev cX6_checkDamping : ByteArray := prog_1_method_42_code
def yX6_checkDamping : MethodName := ⟨RX6, "checkDamping", "(I)V"⟩
abbrev cX6_checkDistance : ByteArray := prog_1_method_43_code
def yX6_checkDistance : MethodName := ⟨RX6, "checkDistance", "(I)V"⟩
abbrev cX6_checkLoudness : ByteArray := prog_1_method_44_code
def yX6_checkLoudness : MethodName := ⟨RX6, "checkLoudness", "(I)V"⟩
abbrev cX6_checkCertificate : ByteArray := prog_1_method_45_code
def yX6_checkCertificate : MethodName := ⟨RX6, "checkCertificate", "(LEchoBureau$Hall;)V"⟩
abbrev cX6_findHall : ByteArray := prog_1_method_46_code
def yX6_findHall : MethodName := ⟨RX6, "findHall", "(I)LEchoBureau$Hall;"⟩
abbrev cX6_findStandard : ByteArray := prog_1_method_47_code
def yX6_findStandard : MethodName := ⟨RX6, "findStandard", "(I)LEchoBureau$Standard;"⟩
abbrev cX6_findSurface : ByteArray := prog_1_method_48_code
def yX6_findSurface : MethodName := ⟨RX6, "findSurface", "(LEchoBureau$Hall;I)LEchoBureau$Surface;"⟩
abbrev cX6_countCertified : ByteArray := prog_1_method_49_code
def yX6_countCertified : MethodName := ⟨RX6, "countCertified", "()I"⟩
abbrev cX6_tallyOfClick : ByteArray := prog_1_method_50_code
def yX6_tallyOfClick : MethodName := ⟨RX6, "tallyOfClick", "(II)LEchoBureau$Tally;"⟩
abbrev cX6_tallyOf : ByteArray := prog_1_method_51_code
def yX6_tallyOf : MethodName := ⟨RX6, "tallyOf", "(LEchoBureau$Hall;II)LEchoBureau$Tally;"⟩
abbrev cX6_loudnessesOf : ByteArray := prog_1_method_52_code
def yX6_loudnessesOf : MethodName := ⟨RX6, "loudnessesOf", "(LEchoBureau$Hall;I)LEchoBureau$Loudnesses;"⟩
abbrev cX6_meetsNow : ByteArray := prog_1_method_53_code
def yX6_meetsNow : MethodName := ⟨RX6, "meetsNow", "(LEchoBureau$Hall;LEchoBureau$Standard;)Z"⟩
abbrev cX6_wouldMeet : ByteArray := prog_1_method_54_code
def yX6_wouldMeet : MethodName := ⟨RX6, "wouldMeet", "(LEchoBureau$Hall;LEchoBureau$Standard;II)Z"⟩
def RX7 : String := "EchoBureauModel"
def TX7 : u_T := fun k => match k with
  | 0 => ("EchoBureauModel", "thrown", "I", false)
  | 1 => ("EchoBureauModel", "halls", "I", false)
  | 2 => ("EchoBureauModel", "standards", "I", false)
  | 3 => ("EchoBureauModel", "day", "I", false)
  | 4 => ("EchoBureauModel", "inspections", "I", false)
  | 5 => ("EchoBureauModel", "surfaces", "[I", true)
  | 6 => ("EchoBureauModel", "damping", "[I", true)
  | 7 => ("EchoBureauModel", "dust", "[I", true)
  | 8 => ("EchoBureauModel", "certificate", "[I", true)
  | 9 => ("EchoBureauModel", "left", "[I", true)
  | 10 => ("EchoBureauModel", "distance", "[I", true)
  | 11 => ("EchoBureauModel", "hardness", "[I", true)
  | 12 => ("EchoBureauModel", "rules", "[I", true)
  | 13 => ("EchoBureauModel", "loud", "[I", true)
  | 14 => ("EchoBureauModel", "many", "[I", true)
  | 15 => ("EchoBureauModel", "apart", "[I", true)
  | _ => ("EchoBureauModel", "rows", "I", false)
def tyX7 : Nat → FieldType := fun k => match k with
  | 0 => .int
  | 1 => .int
  | 2 => .int
  | 3 => .int
  | 4 => .int
  | 5 => .array .int
  | 6 => .array .int
  | 7 => .array .int
  | 8 => .array .int
  | 9 => .array .int
  | 10 => .array .int
  | 11 => .array .int
  | 12 => .array .int
  | 13 => .array .int
  | 14 => .array .int
  | 15 => .array .int
  | _ => .int
theorem nmX7 : ∀ a, a < 17 → ∀ b, b < 17 → a ≠ b → (TX7 a).2.1 ≠ (TX7 b).2.1 := by decide +kernel
theorem tyX7_ok : ∀ k, k < 17 → parseFieldDescriptor (TX7 k).2.2.1 = some (tyX7 k) := by decide +kernel
abbrev cX7_init : ByteArray := prog_9_method_1_code
def yX7_init : MethodName := ⟨RX7, "<init>", "()V"⟩
abbrev cX7_thrown : ByteArray := prog_9_method_2_code
def yX7_thrown : MethodName := ⟨RX7, "thrown", "()I"⟩
abbrev cX7_fail : ByteArray := prog_9_method_3_code
def yX7_fail : MethodName := ⟨RX7, "fail", "(I)I"⟩
abbrev cX7_failed : ByteArray := prog_9_method_4_code
def yX7_failed : MethodName := ⟨RX7, "failed", "(I)Z"⟩
abbrev cX7_isIn : ByteArray := prog_9_method_5_code
def yX7_isIn : MethodName := ⟨RX7, "isIn", "(III)Z"⟩
abbrev cX7_isHall : ByteArray := prog_9_method_6_code
def yX7_isHall : MethodName := ⟨RX7, "isHall", "(I)Z"⟩
abbrev cX7_isStandard : ByteArray := prog_9_method_7_code
def yX7_isStandard : MethodName := ⟨RX7, "isStandard", "(I)Z"⟩
abbrev cX7_isSurface : ByteArray := prog_9_method_8_code
def yX7_isSurface : MethodName := ⟨RX7, "isSurface", "(II)Z"⟩
abbrev cX7_rule : ByteArray := prog_9_method_9_code
def yX7_rule : MethodName := ⟨RX7, "rule", "(II)I"⟩
abbrev cX7_hard : ByteArray := prog_9_method_10_code
def yX7_hard : MethodName := ⟨RX7, "hard", "(III)I"⟩
abbrev cX7_click : ByteArray := prog_9_method_11_code
def yX7_click : MethodName := ⟨RX7, "click", "(IIII)V"⟩
abbrev cX7_clickNow : ByteArray := prog_9_method_12_code
def yX7_clickNow : MethodName := ⟨RX7, "clickNow", "(II)V"⟩
abbrev cX7_all : ByteArray := prog_9_method_13_code
def yX7_all : MethodName := ⟨RX7, "all", "()I"⟩
abbrev cX7_louder : ByteArray := prog_9_method_14_code
def yX7_louder : MethodName := ⟨RX7, "louder", "(I)I"⟩
abbrev cX7_first : ByteArray := prog_9_method_15_code
def yX7_first : MethodName := ⟨RX7, "first", "()I"⟩
abbrev cX7_last : ByteArray := prog_9_method_16_code
def yX7_last : MethodName := ⟨RX7, "last", "()I"⟩
abbrev cX7_at : ByteArray := prog_9_method_17_code
def yX7_at : MethodName := ⟨RX7, "at", "(I)I"⟩
abbrev cX7_loudest : ByteArray := prog_9_method_18_code
def yX7_loudest : MethodName := ⟨RX7, "loudest", "()I"⟩
abbrev cX7_meets : ByteArray := prog_9_method_19_code
def yX7_meets : MethodName := ⟨RX7, "meets", "(IIII)Z"⟩
abbrev cX7_meetsNow : ByteArray := prog_9_method_20_code
def yX7_meetsNow : MethodName := ⟨RX7, "meetsNow", "(II)Z"⟩
abbrev cX7_addHall : ByteArray := prog_9_method_21_code
def yX7_addHall : MethodName := ⟨RX7, "addHall", "(I)I"⟩
abbrev cX7_strike : ByteArray := prog_9_method_22_code
def yX7_strike : MethodName := ⟨RX7, "strike", "(I)V"⟩
abbrev cX7_addSurface : ByteArray := prog_9_method_23_code
def yX7_addSurface : MethodName := ⟨RX7, "addSurface", "(III)I"⟩
abbrev cX7_moveSurface : ByteArray := prog_9_method_24_code
def yX7_moveSurface : MethodName := ⟨RX7, "moveSurface", "(III)I"⟩
abbrev cX7_setDamping : ByteArray := prog_9_method_25_code
def yX7_setDamping : MethodName := ⟨RX7, "setDamping", "(II)I"⟩
abbrev cX7_clean : ByteArray := prog_9_method_26_code
def yX7_clean : MethodName := ⟨RX7, "clean", "(I)I"⟩
abbrev cX7_addStandard : ByteArray := prog_9_method_27_code
def yX7_addStandard : MethodName := ⟨RX7, "addStandard", "(IIIII)I"⟩
abbrev cX7_isPair : ByteArray := prog_9_method_28_code
def yX7_isPair : MethodName := ⟨RX7, "isPair", "(II)Z"⟩
abbrev cX7_inspect : ByteArray := prog_9_method_29_code
def yX7_inspect : MethodName := ⟨RX7, "inspect", "(II)Z"⟩
abbrev cX7_revoke : ByteArray := prog_9_method_30_code
def yX7_revoke : MethodName := ⟨RX7, "revoke", "(I)I"⟩
abbrev cX7_certified : ByteArray := prog_9_method_31_code
def yX7_certified : MethodName := ⟨RX7, "certified", "()I"⟩
abbrev cX7_passDays : ByteArray := prog_9_method_32_code
def yX7_passDays : MethodName := ⟨RX7, "passDays", "(I)I"⟩
abbrev cX7_surfacesOf : ByteArray := prog_9_method_33_code
def yX7_surfacesOf : MethodName := ⟨RX7, "surfacesOf", "(I)I"⟩
abbrev cX7_distanceOf : ByteArray := prog_9_method_34_code
def yX7_distanceOf : MethodName := ⟨RX7, "distanceOf", "(II)I"⟩
abbrev cX7_hardnessOf : ByteArray := prog_9_method_35_code
def yX7_hardnessOf : MethodName := ⟨RX7, "hardnessOf", "(II)I"⟩
abbrev cX7_dampingOf : ByteArray := prog_9_method_36_code
def yX7_dampingOf : MethodName := ⟨RX7, "dampingOf", "(I)I"⟩
abbrev cX7_dustOf : ByteArray := prog_9_method_37_code
def yX7_dustOf : MethodName := ⟨RX7, "dustOf", "(I)I"⟩
abbrev cX7_isClick : ByteArray := prog_9_method_38_code
def yX7_isClick : MethodName := ⟨RX7, "isClick", "(IIZ)Z"⟩
abbrev cX7_echoes : ByteArray := prog_9_method_39_code
def yX7_echoes : MethodName := ⟨RX7, "echoes", "(II)I"⟩
abbrev cX7_loudEchoes : ByteArray := prog_9_method_40_code
def yX7_loudEchoes : MethodName := ⟨RX7, "loudEchoes", "(III)I"⟩
abbrev cX7_firstEcho : ByteArray := prog_9_method_41_code
def yX7_firstEcho : MethodName := ⟨RX7, "firstEcho", "(II)I"⟩
abbrev cX7_lastEcho : ByteArray := prog_9_method_42_code
def yX7_lastEcho : MethodName := ⟨RX7, "lastEcho", "(II)I"⟩
abbrev cX7_loudnessAt : ByteArray := prog_9_method_43_code
def yX7_loudnessAt : MethodName := ⟨RX7, "loudnessAt", "(III)I"⟩
abbrev cX7_loudestMoment : ByteArray := prog_9_method_44_code
def yX7_loudestMoment : MethodName := ⟨RX7, "loudestMoment", "(II)I"⟩
abbrev cX7_meets_ : ByteArray := prog_9_method_45_code
def yX7_meets_ : MethodName := ⟨RX7, "meets", "(II)Z"⟩
abbrev cX7_hallsMeeting : ByteArray := prog_9_method_46_code
def yX7_hallsMeeting : MethodName := ⟨RX7, "hallsMeeting", "(I)I"⟩
abbrev cX7_isCertified : ByteArray := prog_9_method_47_code
def yX7_isCertified : MethodName := ⟨RX7, "isCertified", "(I)Z"⟩
abbrev cX7_certifiedBy : ByteArray := prog_9_method_48_code
def yX7_certifiedBy : MethodName := ⟨RX7, "certifiedBy", "(I)I"⟩
abbrev cX7_daysLeft : ByteArray := prog_9_method_49_code
def yX7_daysLeft : MethodName := ⟨RX7, "daysLeft", "(I)I"⟩
abbrev cX7_halls : ByteArray := prog_9_method_50_code
def yX7_halls : MethodName := ⟨RX7, "halls", "()I"⟩
abbrev cX7_standards : ByteArray := prog_9_method_51_code
def yX7_standards : MethodName := ⟨RX7, "standards", "()I"⟩
abbrev cX7_day : ByteArray := prog_9_method_52_code
def yX7_day : MethodName := ⟨RX7, "day", "()I"⟩
abbrev cX7_inspections : ByteArray := prog_9_method_53_code
def yX7_inspections : MethodName := ⟨RX7, "inspections", "()I"⟩
abbrev cX7_certifiedHalls : ByteArray := prog_9_method_54_code
def yX7_certifiedHalls : MethodName := ⟨RX7, "certifiedHalls", "()I"⟩
abbrev cX7_meetsWithDamping : ByteArray := prog_9_method_55_code
def yX7_meetsWithDamping : MethodName := ⟨RX7, "meetsWithDamping", "(III)Z"⟩
abbrev cX7_least : ByteArray := prog_9_method_56_code
def yX7_least : MethodName := ⟨RX7, "least", "(II)I"⟩
abbrev cX7_leastDamping : ByteArray := prog_9_method_57_code
def yX7_leastDamping : MethodName := ⟨RX7, "leastDamping", "(II)I"⟩
abbrev cX7_daysUntilMet : ByteArray := prog_9_method_58_code
def yX7_daysUntilMet : MethodName := ⟨RX7, "daysUntilMet", "(II)I"⟩
abbrev cX7_easiestHall : ByteArray := prog_9_method_59_code
def yX7_easiestHall : MethodName := ⟨RX7, "easiestHall", "(I)I"⟩
abbrev cX7_meanDamping : ByteArray := prog_9_method_60_code
def yX7_meanDamping : MethodName := ⟨RX7, "meanDamping", "()D"⟩
abbrev cX7_digest : ByteArray := prog_9_method_61_code
def yX7_digest : MethodName := ⟨RX7, "digest", "()J"⟩
def RJx145de : String := "java/io/Serializable"
def RJ9 : String := "java/lang/Math"
abbrev cJ9_max_7cf53 : ByteArray := prog_14_method_65_code
def yJ9_max_7cf53 : MethodName := ⟨RJ9, "max", "(II)I"⟩
abbrev cJ9_min_7cf53 : ByteArray := prog_14_method_69_code
def yJ9_min_7cf53 : MethodName := ⟨RJ9, "min", "(II)I"⟩
def RJ0 : String := "java/lang/String"
def RJ10 : String := "java/lang/System"
def RJ7 : String := "java/util/Arrays"
abbrev cJ7_fill_53178 : ByteArray := prog_19_method_103_code
def yJ7_fill_53178 : MethodName := ⟨RJ7, "fill", "([II)V"⟩
def RL : String := "EchoBureauLaw"
abbrev cL_addHall : ByteArray := method_3_code
def yL_addHall : MethodName := ⟨RL, "addHall", "(LEchoBureau;I[J)I"⟩
abbrev cL_addSurface : ByteArray := method_4_code
def yL_addSurface : MethodName := ⟨RL, "addSurface", "(LEchoBureau;III[J)I"⟩
abbrev cL_moveSurface : ByteArray := method_5_code
def yL_moveSurface : MethodName := ⟨RL, "moveSurface", "(LEchoBureau;III[J)I"⟩
abbrev cL_setDamping : ByteArray := method_6_code
def yL_setDamping : MethodName := ⟨RL, "setDamping", "(LEchoBureau;II[J)I"⟩
abbrev cL_clean : ByteArray := method_7_code
def yL_clean : MethodName := ⟨RL, "clean", "(LEchoBureau;I[J)I"⟩
abbrev cL_addStandard : ByteArray := method_8_code
def yL_addStandard : MethodName := ⟨RL, "addStandard", "(LEchoBureau;IIIII[J)I"⟩
abbrev cL_inspect : ByteArray := method_9_code
def yL_inspect : MethodName := ⟨RL, "inspect", "(LEchoBureau;II[J)I"⟩
abbrev cL_revoke : ByteArray := method_10_code
def yL_revoke : MethodName := ⟨RL, "revoke", "(LEchoBureau;I[J)I"⟩
abbrev cL_passDays : ByteArray := method_11_code
def yL_passDays : MethodName := ⟨RL, "passDays", "(LEchoBureau;I[J)I"⟩
abbrev cL_surfacesOf : ByteArray := method_12_code
def yL_surfacesOf : MethodName := ⟨RL, "surfacesOf", "(LEchoBureau;I[J)I"⟩
abbrev cL_distanceOf : ByteArray := method_13_code
def yL_distanceOf : MethodName := ⟨RL, "distanceOf", "(LEchoBureau;II[J)I"⟩
abbrev cL_hardnessOf : ByteArray := method_14_code
def yL_hardnessOf : MethodName := ⟨RL, "hardnessOf", "(LEchoBureau;II[J)I"⟩
abbrev cL_dampingOf : ByteArray := method_15_code
def yL_dampingOf : MethodName := ⟨RL, "dampingOf", "(LEchoBureau;I[J)I"⟩
abbrev cL_dustOf : ByteArray := method_16_code
def yL_dustOf : MethodName := ⟨RL, "dustOf", "(LEchoBureau;I[J)I"⟩
abbrev cL_echoes : ByteArray := method_17_code
def yL_echoes : MethodName := ⟨RL, "echoes", "(LEchoBureau;II[J)I"⟩
abbrev cL_loudEchoes : ByteArray := method_18_code
def yL_loudEchoes : MethodName := ⟨RL, "loudEchoes", "(LEchoBureau;III[J)I"⟩
abbrev cL_firstEcho : ByteArray := method_19_code
def yL_firstEcho : MethodName := ⟨RL, "firstEcho", "(LEchoBureau;II[J)I"⟩
abbrev cL_lastEcho : ByteArray := method_20_code
def yL_lastEcho : MethodName := ⟨RL, "lastEcho", "(LEchoBureau;II[J)I"⟩
abbrev cL_loudnessAt : ByteArray := method_21_code
def yL_loudnessAt : MethodName := ⟨RL, "loudnessAt", "(LEchoBureau;III[J)I"⟩
abbrev cL_loudestMoment : ByteArray := method_22_code
def yL_loudestMoment : MethodName := ⟨RL, "loudestMoment", "(LEchoBureau;II[J)I"⟩
abbrev cL_meets : ByteArray := method_23_code
def yL_meets : MethodName := ⟨RL, "meets", "(LEchoBureau;II[J)I"⟩
abbrev cL_hallsMeeting : ByteArray := method_24_code
def yL_hallsMeeting : MethodName := ⟨RL, "hallsMeeting", "(LEchoBureau;I[J)I"⟩
abbrev cL_isCertified : ByteArray := method_25_code
def yL_isCertified : MethodName := ⟨RL, "isCertified", "(LEchoBureau;I[J)I"⟩
abbrev cL_certifiedBy : ByteArray := method_26_code
def yL_certifiedBy : MethodName := ⟨RL, "certifiedBy", "(LEchoBureau;I[J)I"⟩
abbrev cL_daysLeft : ByteArray := method_27_code
def yL_daysLeft : MethodName := ⟨RL, "daysLeft", "(LEchoBureau;I[J)I"⟩
abbrev cL_meetsWithDamping : ByteArray := method_28_code
def yL_meetsWithDamping : MethodName := ⟨RL, "meetsWithDamping", "(LEchoBureau;III[J)I"⟩
abbrev cL_leastDamping : ByteArray := method_29_code
def yL_leastDamping : MethodName := ⟨RL, "leastDamping", "(LEchoBureau;II[J)I"⟩
abbrev cL_daysUntilMet : ByteArray := method_30_code
def yL_daysUntilMet : MethodName := ⟨RL, "daysUntilMet", "(LEchoBureau;II[J)I"⟩
abbrev cL_easiestHall : ByteArray := method_31_code
def yL_easiestHall : MethodName := ⟨RL, "easiestHall", "(LEchoBureau;I[J)I"⟩
abbrev cL_law : ByteArray := code
def yL_law : MethodName := ⟨RL, "law", "([I)Z"⟩
abbrev vwCl : List vw_C := [(RX0, TX0, 6), (RX2, TX2, 1), (RX3, TX3, 5), (RX4, TX4, 2), (RX5, TX5, 5), (RX6, TX6, 8), (RX7, TX7, 17)]
