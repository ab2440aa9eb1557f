section
-- ===== PART A: goes FIRST, ahead of the names: the tables' words, and 'selects' of the private methods out of them =====
/-- a private method of a class that the tables say can be made, by its rows of tables_1 -/
def lw_okq (q : MethodName × Nat) : Prop := (q.1.cls ≠ "java/lang/invoke/MethodHandle" ∧ q.1.cls ≠ "java/lang/invoke/VarHandle") ∧ Cond.instantiable q.1.cls q.2 ∈ tables_1 ∧ Cond.privateMethod q.1 ∈ tables_1 ∧ Cond.instanceMethod q.1 ∈ tables_1
theorem lw_p0 : lw_okq (⟨"SagGates", "putOnTape", "(I)V"⟩, 16) := ⟨⟨by decide +kernel, by decide +kernel⟩, List.mem_of_getElem? (i := 26) (by decide +kernel), List.mem_of_getElem? (i := 647) (by decide +kernel), List.mem_of_getElem? (i := 648) (by decide +kernel)⟩
theorem lw_p1 : lw_okq (⟨"SagGates$Tokens", "readLetters", "()V"⟩, 7) := ⟨⟨by decide +kernel, by decide +kernel⟩, List.mem_of_getElem? (i := 253) (by decide +kernel), List.mem_of_getElem? (i := 674) (by decide +kernel), List.mem_of_getElem? (i := 675) (by decide +kernel)⟩
theorem lw_p2 : lw_okq (⟨"SagGates$Tokens", "readDigits", "()V"⟩, 7) := ⟨⟨by decide +kernel, by decide +kernel⟩, List.mem_of_getElem? (i := 253) (by decide +kernel), List.mem_of_getElem? (i := 678) (by decide +kernel), List.mem_of_getElem? (i := 679) (by decide +kernel)⟩
theorem lw_p3 : lw_okq (⟨"SagGates$Tokens", "readSign", "(I)V"⟩, 7) := ⟨⟨by decide +kernel, by decide +kernel⟩, List.mem_of_getElem? (i := 253) (by decide +kernel), List.mem_of_getElem? (i := 683) (by decide +kernel), List.mem_of_getElem? (i := 684) (by decide +kernel)⟩
theorem lw_p4 : lw_okq (⟨"SagGates$Tokens", "takes", "(I)Z"⟩, 7) := ⟨⟨by decide +kernel, by decide +kernel⟩, List.mem_of_getElem? (i := 253) (by decide +kernel), List.mem_of_getElem? (i := 687) (by decide +kernel), List.mem_of_getElem? (i := 688) (by decide +kernel)⟩
theorem lw_p5 : lw_okq (⟨"SagGates$Reader", "readGround", "()V"⟩, 6) := ⟨⟨by decide +kernel, by decide +kernel⟩, List.mem_of_getElem? (i := 247) (by decide +kernel), List.mem_of_getElem? (i := 691) (by decide +kernel), List.mem_of_getElem? (i := 692) (by decide +kernel)⟩
theorem lw_p6 : lw_okq (⟨"SagGates$Reader", "fail", "(I)I"⟩, 6) := ⟨⟨by decide +kernel, by decide +kernel⟩, List.mem_of_getElem? (i := 247) (by decide +kernel), List.mem_of_getElem? (i := 695) (by decide +kernel), List.mem_of_getElem? (i := 696) (by decide +kernel)⟩
theorem lw_p7 : lw_okq (⟨"SagGates$Reader", "readNumber", "(II)I"⟩, 6) := ⟨⟨by decide +kernel, by decide +kernel⟩, List.mem_of_getElem? (i := 247) (by decide +kernel), List.mem_of_getElem? (i := 700) (by decide +kernel), List.mem_of_getElem? (i := 701) (by decide +kernel)⟩
theorem lw_p8 : lw_okq (⟨"SagGates$Reader", "readLaw", "()V"⟩, 6) := ⟨⟨by decide +kernel, by decide +kernel⟩, List.mem_of_getElem? (i := 247) (by decide +kernel), List.mem_of_getElem? (i := 704) (by decide +kernel), List.mem_of_getElem? (i := 705) (by decide +kernel)⟩
theorem lw_p9 : lw_okq (⟨"SagGates$Formula", "signOf", "()I"⟩, 8) := ⟨⟨by decide +kernel, by decide +kernel⟩, List.mem_of_getElem? (i := 338) (by decide +kernel), List.mem_of_getElem? (i := 720) (by decide +kernel), List.mem_of_getElem? (i := 721) (by decide +kernel)⟩
theorem lw_p10 : lw_okq (⟨"SagGates$Formula", "release", "(I)V"⟩, 8) := ⟨⟨by decide +kernel, by decide +kernel⟩, List.mem_of_getElem? (i := 338) (by decide +kernel), List.mem_of_getElem? (i := 728) (by decide +kernel), List.mem_of_getElem? (i := 729) (by decide +kernel)⟩
theorem lw_p11 : lw_okq (⟨"SagGates$Formula", "latestHeld", "()I"⟩, 8) := ⟨⟨by decide +kernel, by decide +kernel⟩, List.mem_of_getElem? (i := 338) (by decide +kernel), List.mem_of_getElem? (i := 732) (by decide +kernel), List.mem_of_getElem? (i := 733) (by decide +kernel)⟩
theorem lw_p12 : lw_okq (⟨"SagGates$Formula", "readValue", "()I"⟩, 8) := ⟨⟨by decide +kernel, by decide +kernel⟩, List.mem_of_getElem? (i := 338) (by decide +kernel), List.mem_of_getElem? (i := 743) (by decide +kernel), List.mem_of_getElem? (i := 744) (by decide +kernel)⟩
theorem lw_p13 : lw_okq (⟨"SagGates$Formula", "openParen", "()I"⟩, 8) := ⟨⟨by decide +kernel, by decide +kernel⟩, List.mem_of_getElem? (i := 338) (by decide +kernel), List.mem_of_getElem? (i := 747) (by decide +kernel), List.mem_of_getElem? (i := 748) (by decide +kernel)⟩
theorem lw_p14 : lw_okq (⟨"SagGates$Formula", "hold", "(I)V"⟩, 8) := ⟨⟨by decide +kernel, by decide +kernel⟩, List.mem_of_getElem? (i := 338) (by decide +kernel), List.mem_of_getElem? (i := 751) (by decide +kernel), List.mem_of_getElem? (i := 752) (by decide +kernel)⟩
theorem lw_p15 : lw_okq (⟨"SagGates$Formula", "holdKnot", "(I)I"⟩, 8) := ⟨⟨by decide +kernel, by decide +kernel⟩, List.mem_of_getElem? (i := 338) (by decide +kernel), List.mem_of_getElem? (i := 755) (by decide +kernel), List.mem_of_getElem? (i := 756) (by decide +kernel)⟩
def lw_privs_1 : List (MethodName × Nat) := [(⟨"SagGates", "putOnTape", "(I)V"⟩, 16), (⟨"SagGates$Tokens", "readLetters", "()V"⟩, 7), (⟨"SagGates$Tokens", "readDigits", "()V"⟩, 7), (⟨"SagGates$Tokens", "readSign", "(I)V"⟩, 7), (⟨"SagGates$Tokens", "takes", "(I)Z"⟩, 7), (⟨"SagGates$Reader", "readGround", "()V"⟩, 6), (⟨"SagGates$Reader", "fail", "(I)I"⟩, 6), (⟨"SagGates$Reader", "readNumber", "(II)I"⟩, 6), (⟨"SagGates$Reader", "readLaw", "()V"⟩, 6), (⟨"SagGates$Formula", "signOf", "()I"⟩, 8), (⟨"SagGates$Formula", "release", "(I)V"⟩, 8), (⟨"SagGates$Formula", "latestHeld", "()I"⟩, 8), (⟨"SagGates$Formula", "readValue", "()I"⟩, 8), (⟨"SagGates$Formula", "openParen", "()I"⟩, 8), (⟨"SagGates$Formula", "hold", "(I)V"⟩, 8), (⟨"SagGates$Formula", "holdKnot", "(I)I"⟩, 8)]
theorem lw_r1 : ∀ q ∈ lw_privs_1, lw_okq q := List.forall_mem_cons.mpr ⟨lw_p0, List.forall_mem_cons.mpr ⟨lw_p1, List.forall_mem_cons.mpr ⟨lw_p2, List.forall_mem_cons.mpr ⟨lw_p3, List.forall_mem_cons.mpr ⟨lw_p4, List.forall_mem_cons.mpr ⟨lw_p5, List.forall_mem_cons.mpr ⟨lw_p6, List.forall_mem_cons.mpr ⟨lw_p7, List.forall_mem_cons.mpr ⟨lw_p8, List.forall_mem_cons.mpr ⟨lw_p9, List.forall_mem_cons.mpr ⟨lw_p10, List.forall_mem_cons.mpr ⟨lw_p11, List.forall_mem_cons.mpr ⟨lw_p12, List.forall_mem_cons.mpr ⟨lw_p13, List.forall_mem_cons.mpr ⟨lw_p14, List.forall_mem_cons.mpr ⟨lw_p15, fun _ h => absurd h List.not_mem_nil⟩⟩⟩⟩⟩⟩⟩⟩⟩⟩⟩⟩⟩⟩⟩⟩
theorem lw_p16 : lw_okq (⟨"SagGates$Formula", "valueKnot", "()I"⟩, 8) := ⟨⟨by decide +kernel, by decide +kernel⟩, List.mem_of_getElem? (i := 338) (by decide +kernel), List.mem_of_getElem? (i := 759) (by decide +kernel), List.mem_of_getElem? (i := 760) (by decide +kernel)⟩
theorem lw_p17 : lw_okq (⟨"SagGates$Formula", "readJoint", "()I"⟩, 8) := ⟨⟨by decide +kernel, by decide +kernel⟩, List.mem_of_getElem? (i := 338) (by decide +kernel), List.mem_of_getElem? (i := 766) (by decide +kernel), List.mem_of_getElem? (i := 767) (by decide +kernel)⟩
theorem lw_p18 : lw_okq (⟨"SagGates$Reader", "readGate", "()V"⟩, 6) := ⟨⟨by decide +kernel, by decide +kernel⟩, List.mem_of_getElem? (i := 247) (by decide +kernel), List.mem_of_getElem? (i := 772) (by decide +kernel), List.mem_of_getElem? (i := 773) (by decide +kernel)⟩
theorem lw_p19 : lw_okq (⟨"SagGates$Reader", "readNewName", "([II)I"⟩, 6) := ⟨⟨by decide +kernel, by decide +kernel⟩, List.mem_of_getElem? (i := 247) (by decide +kernel), List.mem_of_getElem? (i := 776) (by decide +kernel), List.mem_of_getElem? (i := 777) (by decide +kernel)⟩
theorem lw_p20 : lw_okq (⟨"SagGates$Reader", "readPart", "(LSagGates$Told;)V"⟩, 6) := ⟨⟨by decide +kernel, by decide +kernel⟩, List.mem_of_getElem? (i := 247) (by decide +kernel), List.mem_of_getElem? (i := 784) (by decide +kernel), List.mem_of_getElem? (i := 785) (by decide +kernel)⟩
theorem lw_p21 : lw_okq (⟨"SagGates$Reader", "readBrace", "(LSagGates$Told;)V"⟩, 6) := ⟨⟨by decide +kernel, by decide +kernel⟩, List.mem_of_getElem? (i := 247) (by decide +kernel), List.mem_of_getElem? (i := 788) (by decide +kernel), List.mem_of_getElem? (i := 789) (by decide +kernel)⟩
theorem lw_p22 : lw_okq (⟨"SagGates$Reader", "readHas", "(LSagGates$Told;)V"⟩, 6) := ⟨⟨by decide +kernel, by decide +kernel⟩, List.mem_of_getElem? (i := 247) (by decide +kernel), List.mem_of_getElem? (i := 792) (by decide +kernel), List.mem_of_getElem? (i := 793) (by decide +kernel)⟩
theorem lw_p23 : lw_okq (⟨"SagGates$Reader", "readWork", "()V"⟩, 6) := ⟨⟨by decide +kernel, by decide +kernel⟩, List.mem_of_getElem? (i := 247) (by decide +kernel), List.mem_of_getElem? (i := 796) (by decide +kernel), List.mem_of_getElem? (i := 797) (by decide +kernel)⟩
theorem lw_p24 : lw_okq (⟨"SagGates$Reader", "readCause", "()V"⟩, 6) := ⟨⟨by decide +kernel, by decide +kernel⟩, List.mem_of_getElem? (i := 247) (by decide +kernel), List.mem_of_getElem? (i := 806) (by decide +kernel), List.mem_of_getElem? (i := 807) (by decide +kernel)⟩
theorem lw_p25 : lw_okq (⟨"SagGates$Reader", "readSemicolon", "()V"⟩, 6) := ⟨⟨by decide +kernel, by decide +kernel⟩, List.mem_of_getElem? (i := 247) (by decide +kernel), List.mem_of_getElem? (i := 810) (by decide +kernel), List.mem_of_getElem? (i := 811) (by decide +kernel)⟩
theorem lw_p26 : lw_okq (⟨"SagGates", "takeSpare", "()V"⟩, 16) := ⟨⟨by decide +kernel, by decide +kernel⟩, List.mem_of_getElem? (i := 26) (by decide +kernel), List.mem_of_getElem? (i := 814) (by decide +kernel), List.mem_of_getElem? (i := 815) (by decide +kernel)⟩
theorem lw_p27 : lw_okq (⟨"SagGates$Laws", "put", "(IJ)V"⟩, 5) := ⟨⟨by decide +kernel, by decide +kernel⟩, List.mem_of_getElem? (i := 391) (by decide +kernel), List.mem_of_getElem? (i := 893) (by decide +kernel), List.mem_of_getElem? (i := 894) (by decide +kernel)⟩
theorem lw_p28 : lw_okq (⟨"SagGates$Laws", "refresh", "(LSagGates$Plan;I)V"⟩, 5) := ⟨⟨by decide +kernel, by decide +kernel⟩, List.mem_of_getElem? (i := 391) (by decide +kernel), List.mem_of_getElem? (i := 910) (by decide +kernel), List.mem_of_getElem? (i := 911) (by decide +kernel)⟩
theorem lw_p29 : lw_okq (⟨"SagGates$Laws", "valueOf", "(I)J"⟩, 5) := ⟨⟨by decide +kernel, by decide +kernel⟩, List.mem_of_getElem? (i := 391) (by decide +kernel), List.mem_of_getElem? (i := 919) (by decide +kernel), List.mem_of_getElem? (i := 920) (by decide +kernel)⟩
theorem lw_p30 : lw_okq (⟨"SagGates$Laws", "join", "(IJJ)J"⟩, 5) := ⟨⟨by decide +kernel, by decide +kernel⟩, List.mem_of_getElem? (i := 391) (by decide +kernel), List.mem_of_getElem? (i := 923) (by decide +kernel), List.mem_of_getElem? (i := 924) (by decide +kernel)⟩
theorem lw_p31 : lw_okq (⟨"SagGates$Laws", "bounded", "(J)J"⟩, 5) := ⟨⟨by decide +kernel, by decide +kernel⟩, List.mem_of_getElem? (i := 391) (by decide +kernel), List.mem_of_getElem? (i := 927) (by decide +kernel), List.mem_of_getElem? (i := 928) (by decide +kernel)⟩
def lw_privs_2 : List (MethodName × Nat) := [(⟨"SagGates$Formula", "valueKnot", "()I"⟩, 8), (⟨"SagGates$Formula", "readJoint", "()I"⟩, 8), (⟨"SagGates$Reader", "readGate", "()V"⟩, 6), (⟨"SagGates$Reader", "readNewName", "([II)I"⟩, 6), (⟨"SagGates$Reader", "readPart", "(LSagGates$Told;)V"⟩, 6), (⟨"SagGates$Reader", "readBrace", "(LSagGates$Told;)V"⟩, 6), (⟨"SagGates$Reader", "readHas", "(LSagGates$Told;)V"⟩, 6), (⟨"SagGates$Reader", "readWork", "()V"⟩, 6), (⟨"SagGates$Reader", "readCause", "()V"⟩, 6), (⟨"SagGates$Reader", "readSemicolon", "()V"⟩, 6), (⟨"SagGates", "takeSpare", "()V"⟩, 16), (⟨"SagGates$Laws", "put", "(IJ)V"⟩, 5), (⟨"SagGates$Laws", "refresh", "(LSagGates$Plan;I)V"⟩, 5), (⟨"SagGates$Laws", "valueOf", "(I)J"⟩, 5), (⟨"SagGates$Laws", "join", "(IJJ)J"⟩, 5), (⟨"SagGates$Laws", "bounded", "(J)J"⟩, 5)]
theorem lw_r2 : ∀ q ∈ lw_privs_2, lw_okq q := List.forall_mem_cons.mpr ⟨lw_p16, List.forall_mem_cons.mpr ⟨lw_p17, List.forall_mem_cons.mpr ⟨lw_p18, List.forall_mem_cons.mpr ⟨lw_p19, List.forall_mem_cons.mpr ⟨lw_p20, List.forall_mem_cons.mpr ⟨lw_p21, List.forall_mem_cons.mpr ⟨lw_p22, List.forall_mem_cons.mpr ⟨lw_p23, List.forall_mem_cons.mpr ⟨lw_p24, List.forall_mem_cons.mpr ⟨lw_p25, List.forall_mem_cons.mpr ⟨lw_p26, List.forall_mem_cons.mpr ⟨lw_p27, List.forall_mem_cons.mpr ⟨lw_p28, List.forall_mem_cons.mpr ⟨lw_p29, List.forall_mem_cons.mpr ⟨lw_p30, List.forall_mem_cons.mpr ⟨lw_p31, fun _ h => absurd h List.not_mem_nil⟩⟩⟩⟩⟩⟩⟩⟩⟩⟩⟩⟩⟩⟩⟩⟩
theorem lw_p32 : lw_okq (⟨"SagGates$Laws", "times", "(JJ)J"⟩, 5) := ⟨⟨by decide +kernel, by decide +kernel⟩, List.mem_of_getElem? (i := 391) (by decide +kernel), List.mem_of_getElem? (i := 933) (by decide +kernel), List.mem_of_getElem? (i := 934) (by decide +kernel)⟩
theorem lw_p33 : lw_okq (⟨"SagGates$Laws", "by", "(JJ)J"⟩, 5) := ⟨⟨by decide +kernel, by decide +kernel⟩, List.mem_of_getElem? (i := 391) (by decide +kernel), List.mem_of_getElem? (i := 940) (by decide +kernel), List.mem_of_getElem? (i := 941) (by decide +kernel)⟩
theorem lw_p34 : lw_okq (⟨"SagGates", "isGate", "(I)Z"⟩, 16) := ⟨⟨by decide +kernel, by decide +kernel⟩, List.mem_of_getElem? (i := 26) (by decide +kernel), List.mem_of_getElem? (i := 961) (by decide +kernel), List.mem_of_getElem? (i := 962) (by decide +kernel)⟩
theorem lw_p35 : lw_okq (⟨"SagGates$Undone", "dropEarliest", "()V"⟩, 3) := ⟨⟨by decide +kernel, by decide +kernel⟩, List.mem_of_getElem? (i := 419) (by decide +kernel), List.mem_of_getElem? (i := 991) (by decide +kernel), List.mem_of_getElem? (i := 992) (by decide +kernel)⟩
theorem lw_p36 : lw_okq (⟨"SagGates", "holds", "(IIII)Z"⟩, 16) := ⟨⟨by decide +kernel, by decide +kernel⟩, List.mem_of_getElem? (i := 26) (by decide +kernel), List.mem_of_getElem? (i := 1034) (by decide +kernel), List.mem_of_getElem? (i := 1035) (by decide +kernel)⟩
theorem lw_p37 : lw_okq (⟨"SagGates", "dropWithBrace", "(III)I"⟩, 16) := ⟨⟨by decide +kernel, by decide +kernel⟩, List.mem_of_getElem? (i := 26) (by decide +kernel), List.mem_of_getElem? (i := 1042) (by decide +kernel), List.mem_of_getElem? (i := 1043) (by decide +kernel)⟩
theorem lw_p38 : lw_okq (⟨"SagGates$Notes", "findStruck", "()V"⟩, 11) := ⟨⟨by decide +kernel, by decide +kernel⟩, List.mem_of_getElem? (i := 511) (by decide +kernel), List.mem_of_getElem? (i := 1101) (by decide +kernel), List.mem_of_getElem? (i := 1102) (by decide +kernel)⟩
theorem lw_p39 : lw_okq (⟨"SagGates$Trials", "record", "(I)V"⟩, 3) := ⟨⟨by decide +kernel, by decide +kernel⟩, List.mem_of_getElem? (i := 554) (by decide +kernel), List.mem_of_getElem? (i := 1114) (by decide +kernel), List.mem_of_getElem? (i := 1115) (by decide +kernel)⟩
theorem lw_p40 : lw_okq (⟨"SagGates$Trials", "recorded", "(II)I"⟩, 3) := ⟨⟨by decide +kernel, by decide +kernel⟩, List.mem_of_getElem? (i := 554) (by decide +kernel), List.mem_of_getElem? (i := 1159) (by decide +kernel), List.mem_of_getElem? (i := 1160) (by decide +kernel)⟩
theorem lw_p41 : lw_okq (⟨"SagGates", "unlatchedWeeks", "(III)I"⟩, 16) := ⟨⟨by decide +kernel, by decide +kernel⟩, List.mem_of_getElem? (i := 26) (by decide +kernel), List.mem_of_getElem? (i := 1217) (by decide +kernel), List.mem_of_getElem? (i := 1218) (by decide +kernel)⟩
theorem lw_p42 : lw_okq (⟨"SagGates$Turns", "sumOf", "(II)I"⟩, 4) := ⟨⟨by decide +kernel, by decide +kernel⟩, List.mem_of_getElem? (i := 574) (by decide +kernel), List.mem_of_getElem? (i := 1229) (by decide +kernel), List.mem_of_getElem? (i := 1230) (by decide +kernel)⟩
theorem lw_p43 : lw_okq (⟨"SagGates", "costOfAllDone", "()I"⟩, 16) := ⟨⟨by decide +kernel, by decide +kernel⟩, List.mem_of_getElem? (i := 26) (by decide +kernel), List.mem_of_getElem? (i := 1258) (by decide +kernel), List.mem_of_getElem? (i := 1259) (by decide +kernel)⟩
theorem lw_p44 : lw_okq (⟨"java/lang/Throwable", "fillInStackTrace", "(I)Ljava/lang/Throwable;"⟩, 6) := ⟨⟨by decide +kernel, by decide +kernel⟩, List.mem_of_getElem? (i := 1308) (by decide +kernel), List.mem_of_getElem? (i := 1306) (by decide +kernel), List.mem_of_getElem? (i := 1307) (by decide +kernel)⟩
theorem lw_p45 : lw_okq (⟨"SagGatesModel", "plain", "()V"⟩, 69) := ⟨⟨by decide +kernel, by decide +kernel⟩, List.mem_of_getElem? (i := 1354) (by decide +kernel), List.mem_of_getElem? (i := 1360) (by decide +kernel), List.mem_of_getElem? (i := 1361) (by decide +kernel)⟩
theorem lw_p46 : lw_okq (⟨"SagGatesModel", "keepText", "()V"⟩, 69) := ⟨⟨by decide +kernel, by decide +kernel⟩, List.mem_of_getElem? (i := 1354) (by decide +kernel), List.mem_of_getElem? (i := 1364) (by decide +kernel), List.mem_of_getElem? (i := 1365) (by decide +kernel)⟩
theorem lw_p47 : lw_okq (⟨"SagGatesModel", "begins", "(I)V"⟩, 69) := ⟨⟨by decide +kernel, by decide +kernel⟩, List.mem_of_getElem? (i := 1354) (by decide +kernel), List.mem_of_getElem? (i := 1371) (by decide +kernel), List.mem_of_getElem? (i := 1372) (by decide +kernel)⟩
def lw_privs_3 : List (MethodName × Nat) := [(⟨"SagGates$Laws", "times", "(JJ)J"⟩, 5), (⟨"SagGates$Laws", "by", "(JJ)J"⟩, 5), (⟨"SagGates", "isGate", "(I)Z"⟩, 16), (⟨"SagGates$Undone", "dropEarliest", "()V"⟩, 3), (⟨"SagGates", "holds", "(IIII)Z"⟩, 16), (⟨"SagGates", "dropWithBrace", "(III)I"⟩, 16), (⟨"SagGates$Notes", "findStruck", "()V"⟩, 11), (⟨"SagGates$Trials", "record", "(I)V"⟩, 3), (⟨"SagGates$Trials", "recorded", "(II)I"⟩, 3), (⟨"SagGates", "unlatchedWeeks", "(III)I"⟩, 16), (⟨"SagGates$Turns", "sumOf", "(II)I"⟩, 4), (⟨"SagGates", "costOfAllDone", "()I"⟩, 16), (⟨"java/lang/Throwable", "fillInStackTrace", "(I)Ljava/lang/Throwable;"⟩, 6), (⟨"SagGatesModel", "plain", "()V"⟩, 69), (⟨"SagGatesModel", "keepText", "()V"⟩, 69), (⟨"SagGatesModel", "begins", "(I)V"⟩, 69)]
theorem lw_r3 : ∀ q ∈ lw_privs_3, lw_okq q := List.forall_mem_cons.mpr ⟨lw_p32, List.forall_mem_cons.mpr ⟨lw_p33, List.forall_mem_cons.mpr ⟨lw_p34, List.forall_mem_cons.mpr ⟨lw_p35, List.forall_mem_cons.mpr ⟨lw_p36, List.forall_mem_cons.mpr ⟨lw_p37, List.forall_mem_cons.mpr ⟨lw_p38, List.forall_mem_cons.mpr ⟨lw_p39, List.forall_mem_cons.mpr ⟨lw_p40, List.forall_mem_cons.mpr ⟨lw_p41, List.forall_mem_cons.mpr ⟨lw_p42, List.forall_mem_cons.mpr ⟨lw_p43, List.forall_mem_cons.mpr ⟨lw_p44, List.forall_mem_cons.mpr ⟨lw_p45, List.forall_mem_cons.mpr ⟨lw_p46, List.forall_mem_cons.mpr ⟨lw_p47, fun _ h => absurd h List.not_mem_nil⟩⟩⟩⟩⟩⟩⟩⟩⟩⟩⟩⟩⟩⟩⟩⟩
theorem lw_p48 : lw_okq (⟨"SagGatesModel", "token", "()V"⟩, 69) := ⟨⟨by decide +kernel, by decide +kernel⟩, List.mem_of_getElem? (i := 1354) (by decide +kernel), List.mem_of_getElem? (i := 1598) (by decide +kernel), List.mem_of_getElem? (i := 1599) (by decide +kernel)⟩
theorem lw_p49 : lw_okq (⟨"SagGatesModel", "isSmall", "(I)Z"⟩, 69) := ⟨⟨by decide +kernel, by decide +kernel⟩, List.mem_of_getElem? (i := 1354) (by decide +kernel), List.mem_of_getElem? (i := 1602) (by decide +kernel), List.mem_of_getElem? (i := 1603) (by decide +kernel)⟩
theorem lw_p50 : lw_okq (⟨"SagGatesModel", "wordAt", "(II)I"⟩, 69) := ⟨⟨by decide +kernel, by decide +kernel⟩, List.mem_of_getElem? (i := 1354) (by decide +kernel), List.mem_of_getElem? (i := 1606) (by decide +kernel), List.mem_of_getElem? (i := 1607) (by decide +kernel)⟩
theorem lw_p51 : lw_okq (⟨"SagGatesModel", "packed", "(II)I"⟩, 69) := ⟨⟨by decide +kernel, by decide +kernel⟩, List.mem_of_getElem? (i := 1354) (by decide +kernel), List.mem_of_getElem? (i := 1610) (by decide +kernel), List.mem_of_getElem? (i := 1611) (by decide +kernel)⟩
theorem lw_p52 : lw_okq (⟨"SagGatesModel", "isDigit", "(I)Z"⟩, 69) := ⟨⟨by decide +kernel, by decide +kernel⟩, List.mem_of_getElem? (i := 1354) (by decide +kernel), List.mem_of_getElem? (i := 1614) (by decide +kernel), List.mem_of_getElem? (i := 1615) (by decide +kernel)⟩
theorem lw_p53 : lw_okq (⟨"SagGatesModel", "signToken", "()V"⟩, 69) := ⟨⟨by decide +kernel, by decide +kernel⟩, List.mem_of_getElem? (i := 1354) (by decide +kernel), List.mem_of_getElem? (i := 1618) (by decide +kernel), List.mem_of_getElem? (i := 1619) (by decide +kernel)⟩
theorem lw_p54 : lw_okq (⟨"SagGatesModel", "lineRead", "()Z"⟩, 69) := ⟨⟨by decide +kernel, by decide +kernel⟩, List.mem_of_getElem? (i := 1354) (by decide +kernel), List.mem_of_getElem? (i := 1622) (by decide +kernel), List.mem_of_getElem? (i := 1623) (by decide +kernel)⟩
theorem lw_p55 : lw_okq (⟨"SagGatesModel", "wrong", "(I)Z"⟩, 69) := ⟨⟨by decide +kernel, by decide +kernel⟩, List.mem_of_getElem? (i := 1354) (by decide +kernel), List.mem_of_getElem? (i := 1626) (by decide +kernel), List.mem_of_getElem? (i := 1627) (by decide +kernel)⟩
theorem lw_p56 : lw_okq (⟨"SagGatesModel", "groundLine", "()Z"⟩, 69) := ⟨⟨by decide +kernel, by decide +kernel⟩, List.mem_of_getElem? (i := 1354) (by decide +kernel), List.mem_of_getElem? (i := 1630) (by decide +kernel), List.mem_of_getElem? (i := 1631) (by decide +kernel)⟩
theorem lw_p57 : lw_okq (⟨"SagGatesModel", "numbers", "([IIIII)Z"⟩, 69) := ⟨⟨by decide +kernel, by decide +kernel⟩, List.mem_of_getElem? (i := 1354) (by decide +kernel), List.mem_of_getElem? (i := 1634) (by decide +kernel), List.mem_of_getElem? (i := 1635) (by decide +kernel)⟩
theorem lw_p58 : lw_okq (⟨"SagGatesModel", "number", "(II)Z"⟩, 69) := ⟨⟨by decide +kernel, by decide +kernel⟩, List.mem_of_getElem? (i := 1354) (by decide +kernel), List.mem_of_getElem? (i := 1638) (by decide +kernel), List.mem_of_getElem? (i := 1639) (by decide +kernel)⟩
theorem lw_p59 : lw_okq (⟨"SagGatesModel", "lawLine", "()Z"⟩, 69) := ⟨⟨by decide +kernel, by decide +kernel⟩, List.mem_of_getElem? (i := 1354) (by decide +kernel), List.mem_of_getElem? (i := 1645) (by decide +kernel), List.mem_of_getElem? (i := 1646) (by decide +kernel)⟩
theorem lw_p60 : lw_okq (⟨"SagGatesModel", "sumRead", "()Z"⟩, 69) := ⟨⟨by decide +kernel, by decide +kernel⟩, List.mem_of_getElem? (i := 1354) (by decide +kernel), List.mem_of_getElem? (i := 1649) (by decide +kernel), List.mem_of_getElem? (i := 1650) (by decide +kernel)⟩
theorem lw_p61 : lw_okq (⟨"SagGatesModel", "isSign", "(I)Z"⟩, 69) := ⟨⟨by decide +kernel, by decide +kernel⟩, List.mem_of_getElem? (i := 1354) (by decide +kernel), List.mem_of_getElem? (i := 1653) (by decide +kernel), List.mem_of_getElem? (i := 1654) (by decide +kernel)⟩
theorem lw_p62 : lw_okq (⟨"SagGatesModel", "leafRead", "()Z"⟩, 69) := ⟨⟨by decide +kernel, by decide +kernel⟩, List.mem_of_getElem? (i := 1354) (by decide +kernel), List.mem_of_getElem? (i := 1657) (by decide +kernel), List.mem_of_getElem? (i := 1658) (by decide +kernel)⟩
theorem lw_p63 : lw_okq (⟨"SagGatesModel", "waitsFor", "(I)V"⟩, 69) := ⟨⟨by decide +kernel, by decide +kernel⟩, List.mem_of_getElem? (i := 1354) (by decide +kernel), List.mem_of_getElem? (i := 1661) (by decide +kernel), List.mem_of_getElem? (i := 1662) (by decide +kernel)⟩
def lw_privs_4 : List (MethodName × Nat) := [(⟨"SagGatesModel", "token", "()V"⟩, 69), (⟨"SagGatesModel", "isSmall", "(I)Z"⟩, 69), (⟨"SagGatesModel", "wordAt", "(II)I"⟩, 69), (⟨"SagGatesModel", "packed", "(II)I"⟩, 69), (⟨"SagGatesModel", "isDigit", "(I)Z"⟩, 69), (⟨"SagGatesModel", "signToken", "()V"⟩, 69), (⟨"SagGatesModel", "lineRead", "()Z"⟩, 69), (⟨"SagGatesModel", "wrong", "(I)Z"⟩, 69), (⟨"SagGatesModel", "groundLine", "()Z"⟩, 69), (⟨"SagGatesModel", "numbers", "([IIIII)Z"⟩, 69), (⟨"SagGatesModel", "number", "(II)Z"⟩, 69), (⟨"SagGatesModel", "lawLine", "()Z"⟩, 69), (⟨"SagGatesModel", "sumRead", "()Z"⟩, 69), (⟨"SagGatesModel", "isSign", "(I)Z"⟩, 69), (⟨"SagGatesModel", "leafRead", "()Z"⟩, 69), (⟨"SagGatesModel", "waitsFor", "(I)V"⟩, 69)]
theorem lw_r4 : ∀ q ∈ lw_privs_4, lw_okq q := List.forall_mem_cons.mpr ⟨lw_p48, List.forall_mem_cons.mpr ⟨lw_p49, List.forall_mem_cons.mpr ⟨lw_p50, List.forall_mem_cons.mpr ⟨lw_p51, List.forall_mem_cons.mpr ⟨lw_p52, List.forall_mem_cons.mpr ⟨lw_p53, List.forall_mem_cons.mpr ⟨lw_p54, List.forall_mem_cons.mpr ⟨lw_p55, List.forall_mem_cons.mpr ⟨lw_p56, List.forall_mem_cons.mpr ⟨lw_p57, List.forall_mem_cons.mpr ⟨lw_p58, List.forall_mem_cons.mpr ⟨lw_p59, List.forall_mem_cons.mpr ⟨lw_p60, List.forall_mem_cons.mpr ⟨lw_p61, List.forall_mem_cons.mpr ⟨lw_p62, List.forall_mem_cons.mpr ⟨lw_p63, fun _ h => absurd h List.not_mem_nil⟩⟩⟩⟩⟩⟩⟩⟩⟩⟩⟩⟩⟩⟩⟩⟩
theorem lw_p64 : lw_okq (⟨"SagGatesModel", "isKey", "(I)Z"⟩, 69) := ⟨⟨by decide +kernel, by decide +kernel⟩, List.mem_of_getElem? (i := 1354) (by decide +kernel), List.mem_of_getElem? (i := 1665) (by decide +kernel), List.mem_of_getElem? (i := 1666) (by decide +kernel)⟩
theorem lw_p65 : lw_okq (⟨"SagGatesModel", "isCounted", "()Z"⟩, 69) := ⟨⟨by decide +kernel, by decide +kernel⟩, List.mem_of_getElem? (i := 1354) (by decide +kernel), List.mem_of_getElem? (i := 1669) (by decide +kernel), List.mem_of_getElem? (i := 1670) (by decide +kernel)⟩
theorem lw_p66 : lw_okq (⟨"SagGatesModel", "grown", "(III)V"⟩, 69) := ⟨⟨by decide +kernel, by decide +kernel⟩, List.mem_of_getElem? (i := 1354) (by decide +kernel), List.mem_of_getElem? (i := 1673) (by decide +kernel), List.mem_of_getElem? (i := 1674) (by decide +kernel)⟩
theorem lw_p67 : lw_okq (⟨"SagGatesModel", "signs", "()Z"⟩, 69) := ⟨⟨by decide +kernel, by decide +kernel⟩, List.mem_of_getElem? (i := 1354) (by decide +kernel), List.mem_of_getElem? (i := 1677) (by decide +kernel), List.mem_of_getElem? (i := 1678) (by decide +kernel)⟩
theorem lw_p68 : lw_okq (⟨"SagGatesModel", "bind", "(I)V"⟩, 69) := ⟨⟨by decide +kernel, by decide +kernel⟩, List.mem_of_getElem? (i := 1354) (by decide +kernel), List.mem_of_getElem? (i := 1681) (by decide +kernel), List.mem_of_getElem? (i := 1682) (by decide +kernel)⟩
theorem lw_p69 : lw_okq (⟨"SagGatesModel", "dropHeld", "()I"⟩, 69) := ⟨⟨by decide +kernel, by decide +kernel⟩, List.mem_of_getElem? (i := 1354) (by decide +kernel), List.mem_of_getElem? (i := 1688) (by decide +kernel), List.mem_of_getElem? (i := 1689) (by decide +kernel)⟩
theorem lw_p70 : lw_okq (⟨"SagGatesModel", "gateLine", "()Z"⟩, 69) := ⟨⟨by decide +kernel, by decide +kernel⟩, List.mem_of_getElem? (i := 1354) (by decide +kernel), List.mem_of_getElem? (i := 1692) (by decide +kernel), List.mem_of_getElem? (i := 1693) (by decide +kernel)⟩
theorem lw_p71 : lw_okq (⟨"SagGatesModel", "newName", "([III)Z"⟩, 69) := ⟨⟨by decide +kernel, by decide +kernel⟩, List.mem_of_getElem? (i := 1354) (by decide +kernel), List.mem_of_getElem? (i := 1696) (by decide +kernel), List.mem_of_getElem? (i := 1697) (by decide +kernel)⟩
theorem lw_p72 : lw_okq (⟨"SagGatesModel", "hasWord", "()I"⟩, 69) := ⟨⟨by decide +kernel, by decide +kernel⟩, List.mem_of_getElem? (i := 1354) (by decide +kernel), List.mem_of_getElem? (i := 1703) (by decide +kernel), List.mem_of_getElem? (i := 1704) (by decide +kernel)⟩
theorem lw_p73 : lw_okq (⟨"SagGatesModel", "hasRead", "(II)Z"⟩, 69) := ⟨⟨by decide +kernel, by decide +kernel⟩, List.mem_of_getElem? (i := 1354) (by decide +kernel), List.mem_of_getElem? (i := 1710) (by decide +kernel), List.mem_of_getElem? (i := 1711) (by decide +kernel)⟩
theorem lw_p74 : lw_okq (⟨"SagGatesModel", "hooksRead", "(I)Z"⟩, 69) := ⟨⟨by decide +kernel, by decide +kernel⟩, List.mem_of_getElem? (i := 1354) (by decide +kernel), List.mem_of_getElem? (i := 1714) (by decide +kernel), List.mem_of_getElem? (i := 1715) (by decide +kernel)⟩
theorem lw_p75 : lw_okq (⟨"SagGatesModel", "signed", "(I)Z"⟩, 69) := ⟨⟨by decide +kernel, by decide +kernel⟩, List.mem_of_getElem? (i := 1354) (by decide +kernel), List.mem_of_getElem? (i := 1718) (by decide +kernel), List.mem_of_getElem? (i := 1719) (by decide +kernel)⟩
theorem lw_p76 : lw_okq (⟨"SagGatesModel", "causeRead", "(I)Z"⟩, 69) := ⟨⟨by decide +kernel, by decide +kernel⟩, List.mem_of_getElem? (i := 1354) (by decide +kernel), List.mem_of_getElem? (i := 1722) (by decide +kernel), List.mem_of_getElem? (i := 1723) (by decide +kernel)⟩
theorem lw_p77 : lw_okq (⟨"SagGatesModel", "workLine", "()Z"⟩, 69) := ⟨⟨by decide +kernel, by decide +kernel⟩, List.mem_of_getElem? (i := 1354) (by decide +kernel), List.mem_of_getElem? (i := 1726) (by decide +kernel), List.mem_of_getElem? (i := 1727) (by decide +kernel)⟩
theorem lw_p78 : lw_okq (⟨"SagGatesModel", "workWord", "()I"⟩, 69) := ⟨⟨by decide +kernel, by decide +kernel⟩, List.mem_of_getElem? (i := 1354) (by decide +kernel), List.mem_of_getElem? (i := 1730) (by decide +kernel), List.mem_of_getElem? (i := 1731) (by decide +kernel)⟩
theorem lw_p79 : lw_okq (⟨"SagGatesModel", "causeLine", "()Z"⟩, 69) := ⟨⟨by decide +kernel, by decide +kernel⟩, List.mem_of_getElem? (i := 1354) (by decide +kernel), List.mem_of_getElem? (i := 1737) (by decide +kernel), List.mem_of_getElem? (i := 1738) (by decide +kernel)⟩
def lw_privs_5 : List (MethodName × Nat) := [(⟨"SagGatesModel", "isKey", "(I)Z"⟩, 69), (⟨"SagGatesModel", "isCounted", "()Z"⟩, 69), (⟨"SagGatesModel", "grown", "(III)V"⟩, 69), (⟨"SagGatesModel", "signs", "()Z"⟩, 69), (⟨"SagGatesModel", "bind", "(I)V"⟩, 69), (⟨"SagGatesModel", "dropHeld", "()I"⟩, 69), (⟨"SagGatesModel", "gateLine", "()Z"⟩, 69), (⟨"SagGatesModel", "newName", "([III)Z"⟩, 69), (⟨"SagGatesModel", "hasWord", "()I"⟩, 69), (⟨"SagGatesModel", "hasRead", "(II)Z"⟩, 69), (⟨"SagGatesModel", "hooksRead", "(I)Z"⟩, 69), (⟨"SagGatesModel", "signed", "(I)Z"⟩, 69), (⟨"SagGatesModel", "causeRead", "(I)Z"⟩, 69), (⟨"SagGatesModel", "workLine", "()Z"⟩, 69), (⟨"SagGatesModel", "workWord", "()I"⟩, 69), (⟨"SagGatesModel", "causeLine", "()Z"⟩, 69)]
theorem lw_r5 : ∀ q ∈ lw_privs_5, lw_okq q := List.forall_mem_cons.mpr ⟨lw_p64, List.forall_mem_cons.mpr ⟨lw_p65, List.forall_mem_cons.mpr ⟨lw_p66, List.forall_mem_cons.mpr ⟨lw_p67, List.forall_mem_cons.mpr ⟨lw_p68, List.forall_mem_cons.mpr ⟨lw_p69, List.forall_mem_cons.mpr ⟨lw_p70, List.forall_mem_cons.mpr ⟨lw_p71, List.forall_mem_cons.mpr ⟨lw_p72, List.forall_mem_cons.mpr ⟨lw_p73, List.forall_mem_cons.mpr ⟨lw_p74, List.forall_mem_cons.mpr ⟨lw_p75, List.forall_mem_cons.mpr ⟨lw_p76, List.forall_mem_cons.mpr ⟨lw_p77, List.forall_mem_cons.mpr ⟨lw_p78, List.forall_mem_cons.mpr ⟨lw_p79, fun _ h => absurd h List.not_mem_nil⟩⟩⟩⟩⟩⟩⟩⟩⟩⟩⟩⟩⟩⟩⟩⟩
theorem lw_p80 : lw_okq (⟨"SagGatesModel", "isGate", "(I)Z"⟩, 69) := ⟨⟨by decide +kernel, by decide +kernel⟩, List.mem_of_getElem? (i := 1354) (by decide +kernel), List.mem_of_getElem? (i := 1753) (by decide +kernel), List.mem_of_getElem? (i := 1754) (by decide +kernel)⟩
theorem lw_p81 : lw_okq (⟨"SagGatesModel", "fails", "(I)I"⟩, 69) := ⟨⟨by decide +kernel, by decide +kernel⟩, List.mem_of_getElem? (i := 1354) (by decide +kernel), List.mem_of_getElem? (i := 1757) (by decide +kernel), List.mem_of_getElem? (i := 1758) (by decide +kernel)⟩
theorem lw_p82 : lw_okq (⟨"SagGatesModel", "loads", "(I)V"⟩, 69) := ⟨⟨by decide +kernel, by decide +kernel⟩, List.mem_of_getElem? (i := 1354) (by decide +kernel), List.mem_of_getElem? (i := 1761) (by decide +kernel), List.mem_of_getElem? (i := 1762) (by decide +kernel)⟩
theorem lw_p83 : lw_okq (⟨"SagGatesModel", "spanOf", "(I)I"⟩, 69) := ⟨⟨by decide +kernel, by decide +kernel⟩, List.mem_of_getElem? (i := 1354) (by decide +kernel), List.mem_of_getElem? (i := 1765) (by decide +kernel), List.mem_of_getElem? (i := 1766) (by decide +kernel)⟩
theorem lw_p84 : lw_okq (⟨"SagGatesModel", "pullOf", "(I)I"⟩, 69) := ⟨⟨by decide +kernel, by decide +kernel⟩, List.mem_of_getElem? (i := 1354) (by decide +kernel), List.mem_of_getElem? (i := 1769) (by decide +kernel), List.mem_of_getElem? (i := 1770) (by decide +kernel)⟩
theorem lw_p85 : lw_okq (⟨"SagGatesModel", "firmOf", "(I)I"⟩, 69) := ⟨⟨by decide +kernel, by decide +kernel⟩, List.mem_of_getElem? (i := 1354) (by decide +kernel), List.mem_of_getElem? (i := 1781) (by decide +kernel), List.mem_of_getElem? (i := 1782) (by decide +kernel)⟩
theorem lw_p86 : lw_okq (⟨"SagGatesModel", "goesOn", "(II)V"⟩, 69) := ⟨⟨by decide +kernel, by decide +kernel⟩, List.mem_of_getElem? (i := 1354) (by decide +kernel), List.mem_of_getElem? (i := 1789) (by decide +kernel), List.mem_of_getElem? (i := 1790) (by decide +kernel)⟩
theorem lw_p87 : lw_okq (⟨"SagGatesModel", "goes", "(II)V"⟩, 69) := ⟨⟨by decide +kernel, by decide +kernel⟩, List.mem_of_getElem? (i := 1354) (by decide +kernel), List.mem_of_getElem? (i := 1793) (by decide +kernel), List.mem_of_getElem? (i := 1794) (by decide +kernel)⟩
theorem lw_p88 : lw_okq (⟨"SagGatesModel", "layNames", "(III)V"⟩, 69) := ⟨⟨by decide +kernel, by decide +kernel⟩, List.mem_of_getElem? (i := 1354) (by decide +kernel), List.mem_of_getElem? (i := 1797) (by decide +kernel), List.mem_of_getElem? (i := 1798) (by decide +kernel)⟩
theorem lw_p89 : lw_okq (⟨"SagGatesModel", "dropOf", "(I)I"⟩, 69) := ⟨⟨by decide +kernel, by decide +kernel⟩, List.mem_of_getElem? (i := 1354) (by decide +kernel), List.mem_of_getElem? (i := 1801) (by decide +kernel), List.mem_of_getElem? (i := 1802) (by decide +kernel)⟩
theorem lw_p90 : lw_okq (⟨"SagGatesModel", "partOf", "(II)I"⟩, 69) := ⟨⟨by decide +kernel, by decide +kernel⟩, List.mem_of_getElem? (i := 1354) (by decide +kernel), List.mem_of_getElem? (i := 1805) (by decide +kernel), List.mem_of_getElem? (i := 1806) (by decide +kernel)⟩
theorem lw_p91 : lw_okq (⟨"SagGatesModel", "lawOf", "(I)J"⟩, 69) := ⟨⟨by decide +kernel, by decide +kernel⟩, List.mem_of_getElem? (i := 1354) (by decide +kernel), List.mem_of_getElem? (i := 1809) (by decide +kernel), List.mem_of_getElem? (i := 1810) (by decide +kernel)⟩
theorem lw_p92 : lw_okq (⟨"SagGatesModel", "valueOf", "(I)J"⟩, 69) := ⟨⟨by decide +kernel, by decide +kernel⟩, List.mem_of_getElem? (i := 1354) (by decide +kernel), List.mem_of_getElem? (i := 1813) (by decide +kernel), List.mem_of_getElem? (i := 1814) (by decide +kernel)⟩
theorem lw_p93 : lw_okq (⟨"SagGatesModel", "bounded", "(J)J"⟩, 69) := ⟨⟨by decide +kernel, by decide +kernel⟩, List.mem_of_getElem? (i := 1354) (by decide +kernel), List.mem_of_getElem? (i := 1817) (by decide +kernel), List.mem_of_getElem? (i := 1818) (by decide +kernel)⟩
theorem lw_p94 : lw_okq (⟨"SagGatesModel", "times", "(JJ)J"⟩, 69) := ⟨⟨by decide +kernel, by decide +kernel⟩, List.mem_of_getElem? (i := 1354) (by decide +kernel), List.mem_of_getElem? (i := 1823) (by decide +kernel), List.mem_of_getElem? (i := 1824) (by decide +kernel)⟩
theorem lw_p95 : lw_okq (⟨"SagGatesModel", "isLatched", "(I)Z"⟩, 69) := ⟨⟨by decide +kernel, by decide +kernel⟩, List.mem_of_getElem? (i := 1354) (by decide +kernel), List.mem_of_getElem? (i := 1841) (by decide +kernel), List.mem_of_getElem? (i := 1842) (by decide +kernel)⟩
def lw_privs_6 : List (MethodName × Nat) := [(⟨"SagGatesModel", "isGate", "(I)Z"⟩, 69), (⟨"SagGatesModel", "fails", "(I)I"⟩, 69), (⟨"SagGatesModel", "loads", "(I)V"⟩, 69), (⟨"SagGatesModel", "spanOf", "(I)I"⟩, 69), (⟨"SagGatesModel", "pullOf", "(I)I"⟩, 69), (⟨"SagGatesModel", "firmOf", "(I)I"⟩, 69), (⟨"SagGatesModel", "goesOn", "(II)V"⟩, 69), (⟨"SagGatesModel", "goes", "(II)V"⟩, 69), (⟨"SagGatesModel", "layNames", "(III)V"⟩, 69), (⟨"SagGatesModel", "dropOf", "(I)I"⟩, 69), (⟨"SagGatesModel", "partOf", "(II)I"⟩, 69), (⟨"SagGatesModel", "lawOf", "(I)J"⟩, 69), (⟨"SagGatesModel", "valueOf", "(I)J"⟩, 69), (⟨"SagGatesModel", "bounded", "(J)J"⟩, 69), (⟨"SagGatesModel", "times", "(JJ)J"⟩, 69), (⟨"SagGatesModel", "isLatched", "(I)Z"⟩, 69)]
theorem lw_r6 : ∀ q ∈ lw_privs_6, lw_okq q := List.forall_mem_cons.mpr ⟨lw_p80, List.forall_mem_cons.mpr ⟨lw_p81, List.forall_mem_cons.mpr ⟨lw_p82, List.forall_mem_cons.mpr ⟨lw_p83, List.forall_mem_cons.mpr ⟨lw_p84, List.forall_mem_cons.mpr ⟨lw_p85, List.forall_mem_cons.mpr ⟨lw_p86, List.forall_mem_cons.mpr ⟨lw_p87, List.forall_mem_cons.mpr ⟨lw_p88, List.forall_mem_cons.mpr ⟨lw_p89, List.forall_mem_cons.mpr ⟨lw_p90, List.forall_mem_cons.mpr ⟨lw_p91, List.forall_mem_cons.mpr ⟨lw_p92, List.forall_mem_cons.mpr ⟨lw_p93, List.forall_mem_cons.mpr ⟨lw_p94, List.forall_mem_cons.mpr ⟨lw_p95, fun _ h => absurd h List.not_mem_nil⟩⟩⟩⟩⟩⟩⟩⟩⟩⟩⟩⟩⟩⟩⟩⟩
theorem lw_p96 : lw_okq (⟨"SagGatesModel", "does", "(I)V"⟩, 69) := ⟨⟨by decide +kernel, by decide +kernel⟩, List.mem_of_getElem? (i := 1354) (by decide +kernel), List.mem_of_getElem? (i := 1853) (by decide +kernel), List.mem_of_getElem? (i := 1854) (by decide +kernel)⟩
theorem lw_p97 : lw_okq (⟨"SagGatesModel", "costOf", "(I)I"⟩, 69) := ⟨⟨by decide +kernel, by decide +kernel⟩, List.mem_of_getElem? (i := 1354) (by decide +kernel), List.mem_of_getElem? (i := 1874) (by decide +kernel), List.mem_of_getElem? (i := 1875) (by decide +kernel)⟩
theorem lw_p98 : lw_okq (⟨"SagGatesModel", "dropBy", "(III)I"⟩, 69) := ⟨⟨by decide +kernel, by decide +kernel⟩, List.mem_of_getElem? (i := 1354) (by decide +kernel), List.mem_of_getElem? (i := 1882) (by decide +kernel), List.mem_of_getElem? (i := 1883) (by decide +kernel)⟩
theorem lw_p99 : lw_okq (⟨"SagGatesModel", "fitting", "(I)I"⟩, 69) := ⟨⟨by decide +kernel, by decide +kernel⟩, List.mem_of_getElem? (i := 1354) (by decide +kernel), List.mem_of_getElem? (i := 1917) (by decide +kernel), List.mem_of_getElem? (i := 1918) (by decide +kernel)⟩
theorem lw_p100 : lw_okq (⟨"SagGatesModel", "layCounts", "()V"⟩, 69) := ⟨⟨by decide +kernel, by decide +kernel⟩, List.mem_of_getElem? (i := 1354) (by decide +kernel), List.mem_of_getElem? (i := 1921) (by decide +kernel), List.mem_of_getElem? (i := 1922) (by decide +kernel)⟩
theorem lw_p101 : lw_okq (⟨"SagGatesModel", "knownMany", "()I"⟩, 69) := ⟨⟨by decide +kernel, by decide +kernel⟩, List.mem_of_getElem? (i := 1354) (by decide +kernel), List.mem_of_getElem? (i := 1925) (by decide +kernel), List.mem_of_getElem? (i := 1926) (by decide +kernel)⟩
theorem lw_p102 : lw_okq (⟨"SagGatesModel", "isFit", "(II)Z"⟩, 69) := ⟨⟨by decide +kernel, by decide +kernel⟩, List.mem_of_getElem? (i := 1354) (by decide +kernel), List.mem_of_getElem? (i := 1929) (by decide +kernel), List.mem_of_getElem? (i := 1930) (by decide +kernel)⟩
theorem lw_p103 : lw_okq (⟨"SagGatesModel", "beginsBy", "(II)V"⟩, 69) := ⟨⟨by decide +kernel, by decide +kernel⟩, List.mem_of_getElem? (i := 1354) (by decide +kernel), List.mem_of_getElem? (i := 1933) (by decide +kernel), List.mem_of_getElem? (i := 1934) (by decide +kernel)⟩
theorem lw_p104 : lw_okq (⟨"SagGatesModel", "isSo", "(II)Z"⟩, 69) := ⟨⟨by decide +kernel, by decide +kernel⟩, List.mem_of_getElem? (i := 1354) (by decide +kernel), List.mem_of_getElem? (i := 1937) (by decide +kernel), List.mem_of_getElem? (i := 1938) (by decide +kernel)⟩
theorem lw_p105 : lw_okq (⟨"SagGatesModel", "valueNow", "(II)I"⟩, 69) := ⟨⟨by decide +kernel, by decide +kernel⟩, List.mem_of_getElem? (i := 1354) (by decide +kernel), List.mem_of_getElem? (i := 1941) (by decide +kernel), List.mem_of_getElem? (i := 1942) (by decide +kernel)⟩
theorem lw_p106 : lw_okq (⟨"SagGatesModel", "weightOf", "(I)I"⟩, 69) := ⟨⟨by decide +kernel, by decide +kernel⟩, List.mem_of_getElem? (i := 1354) (by decide +kernel), List.mem_of_getElem? (i := 1949) (by decide +kernel), List.mem_of_getElem? (i := 1950) (by decide +kernel)⟩
theorem lw_p107 : lw_okq (⟨"SagGatesModel", "heaviest", "(III)I"⟩, 69) := ⟨⟨by decide +kernel, by decide +kernel⟩, List.mem_of_getElem? (i := 1354) (by decide +kernel), List.mem_of_getElem? (i := 1960) (by decide +kernel), List.mem_of_getElem? (i := 1961) (by decide +kernel)⟩
theorem lw_p108 : lw_okq (⟨"SagGatesModel", "isAngle", "(I)Z"⟩, 69) := ⟨⟨by decide +kernel, by decide +kernel⟩, List.mem_of_getElem? (i := 1354) (by decide +kernel), List.mem_of_getElem? (i := 1968) (by decide +kernel), List.mem_of_getElem? (i := 1969) (by decide +kernel)⟩
theorem lw_p109 : lw_okq (⟨"SagGatesModel", "lowOf", "(II)I"⟩, 69) := ⟨⟨by decide +kernel, by decide +kernel⟩, List.mem_of_getElem? (i := 1354) (by decide +kernel), List.mem_of_getElem? (i := 1972) (by decide +kernel), List.mem_of_getElem? (i := 1973) (by decide +kernel)⟩
theorem lw_p110 : lw_okq (⟨"SagGatesModel", "shutsFrom", "(I)I"⟩, 69) := ⟨⟨by decide +kernel, by decide +kernel⟩, List.mem_of_getElem? (i := 1354) (by decide +kernel), List.mem_of_getElem? (i := 1984) (by decide +kernel), List.mem_of_getElem? (i := 1985) (by decide +kernel)⟩
theorem lw_p111 : lw_okq (⟨"SagGatesModel", "aboveOf", "(II)I"⟩, 69) := ⟨⟨by decide +kernel, by decide +kernel⟩, List.mem_of_getElem? (i := 1354) (by decide +kernel), List.mem_of_getElem? (i := 1992) (by decide +kernel), List.mem_of_getElem? (i := 1993) (by decide +kernel)⟩
def lw_privs_7 : List (MethodName × Nat) := [(⟨"SagGatesModel", "does", "(I)V"⟩, 69), (⟨"SagGatesModel", "costOf", "(I)I"⟩, 69), (⟨"SagGatesModel", "dropBy", "(III)I"⟩, 69), (⟨"SagGatesModel", "fitting", "(I)I"⟩, 69), (⟨"SagGatesModel", "layCounts", "()V"⟩, 69), (⟨"SagGatesModel", "knownMany", "()I"⟩, 69), (⟨"SagGatesModel", "isFit", "(II)Z"⟩, 69), (⟨"SagGatesModel", "beginsBy", "(II)V"⟩, 69), (⟨"SagGatesModel", "isSo", "(II)Z"⟩, 69), (⟨"SagGatesModel", "valueNow", "(II)I"⟩, 69), (⟨"SagGatesModel", "weightOf", "(I)I"⟩, 69), (⟨"SagGatesModel", "heaviest", "(III)I"⟩, 69), (⟨"SagGatesModel", "isAngle", "(I)Z"⟩, 69), (⟨"SagGatesModel", "lowOf", "(II)I"⟩, 69), (⟨"SagGatesModel", "shutsFrom", "(I)I"⟩, 69), (⟨"SagGatesModel", "aboveOf", "(II)I"⟩, 69)]
theorem lw_r7 : ∀ q ∈ lw_privs_7, lw_okq q := List.forall_mem_cons.mpr ⟨lw_p96, List.forall_mem_cons.mpr ⟨lw_p97, List.forall_mem_cons.mpr ⟨lw_p98, List.forall_mem_cons.mpr ⟨lw_p99, List.forall_mem_cons.mpr ⟨lw_p100, List.forall_mem_cons.mpr ⟨lw_p101, List.forall_mem_cons.mpr ⟨lw_p102, List.forall_mem_cons.mpr ⟨lw_p103, List.forall_mem_cons.mpr ⟨lw_p104, List.forall_mem_cons.mpr ⟨lw_p105, List.forall_mem_cons.mpr ⟨lw_p106, List.forall_mem_cons.mpr ⟨lw_p107, List.forall_mem_cons.mpr ⟨lw_p108, List.forall_mem_cons.mpr ⟨lw_p109, List.forall_mem_cons.mpr ⟨lw_p110, List.forall_mem_cons.mpr ⟨lw_p111, fun _ h => absurd h List.not_mem_nil⟩⟩⟩⟩⟩⟩⟩⟩⟩⟩⟩⟩⟩⟩⟩⟩
theorem lw_p112 : lw_okq (⟨"SagGatesModel", "opensTo", "(I)I"⟩, 69) := ⟨⟨by decide +kernel, by decide +kernel⟩, List.mem_of_getElem? (i := 1354) (by decide +kernel), List.mem_of_getElem? (i := 2002) (by decide +kernel), List.mem_of_getElem? (i := 2003) (by decide +kernel)⟩
theorem lw_p113 : lw_okq (⟨"SagGatesModel", "sumBy", "(I)I"⟩, 69) := ⟨⟨by decide +kernel, by decide +kernel⟩, List.mem_of_getElem? (i := 1354) (by decide +kernel), List.mem_of_getElem? (i := 2017) (by decide +kernel), List.mem_of_getElem? (i := 2018) (by decide +kernel)⟩
theorem lw_p114 : lw_okq (⟨"SagGatesModel", "weekOfAll", "(I)I"⟩, 69) := ⟨⟨by decide +kernel, by decide +kernel⟩, List.mem_of_getElem? (i := 1354) (by decide +kernel), List.mem_of_getElem? (i := 2021) (by decide +kernel), List.mem_of_getElem? (i := 2022) (by decide +kernel)⟩
def lw_privs_8 : List (MethodName × Nat) := [(⟨"SagGatesModel", "opensTo", "(I)I"⟩, 69), (⟨"SagGatesModel", "sumBy", "(I)I"⟩, 69), (⟨"SagGatesModel", "weekOfAll", "(I)I"⟩, 69)]
theorem lw_r8 : ∀ q ∈ lw_privs_8, lw_okq q := List.forall_mem_cons.mpr ⟨lw_p112, List.forall_mem_cons.mpr ⟨lw_p113, List.forall_mem_cons.mpr ⟨lw_p114, fun _ h => absurd h List.not_mem_nil⟩⟩⟩
def lw_privs : List (MethodName × Nat) := lw_privs_1 ++ (lw_privs_2 ++ (lw_privs_3 ++ (lw_privs_4 ++ (lw_privs_5 ++ (lw_privs_6 ++ (lw_privs_7 ++ (lw_privs_8)))))))
def lw_tbl : List Cond := k2_sels lw_privs ++ tables_1
theorem lw_privs_ok : ∀ q ∈ lw_privs, lw_okq q := by
  show ∀ q ∈ lw_privs_1 ++ (lw_privs_2 ++ (lw_privs_3 ++ (lw_privs_4 ++ (lw_privs_5 ++ (lw_privs_6 ++ (lw_privs_7 ++ (lw_privs_8))))))), lw_okq q
  exact List.forall_mem_append.mpr ⟨lw_r1, List.forall_mem_append.mpr ⟨lw_r2, List.forall_mem_append.mpr ⟨lw_r3, List.forall_mem_append.mpr ⟨lw_r4, List.forall_mem_append.mpr ⟨lw_r5, List.forall_mem_append.mpr ⟨lw_r6, List.forall_mem_append.mpr ⟨lw_r7, lw_r8⟩⟩⟩⟩⟩⟩⟩
end
section
/-! ===== BEGIN words of one list among another's, by their places ===== -/
theorem goodIn_r {big : List Cond} (ws : List Cond) (ps : List Nat) (hp : ws = ps.filterMap (fun i => big[i]?)) (h : ws.all goodWord = true) : GoodIn big ws := by
  intro w hw
  have h1 := List.all_eq_true.mp h w hw
  rw [hp] at hw
  obtain ⟨i, -, hi⟩ := List.mem_filterMap.mp hw
  have hm : w ∈ big := by first | exact List.mem_of_getElem? hi | exact List.getElem?_mem hi
  exact ⟨hm, good_of_word h1⟩
theorem goodIn_app {big a b : List Cond} (ha : GoodIn big a) (hb : GoodIn big b) : GoodIn big (a ++ b) := fun w h => (List.mem_append.mp h).elim (ha w) (hb w)
theorem goodIn_ca {big a b : List Cond} {c : Cond} (ha : GoodIn big (c :: a)) (hb : GoodIn big b) : GoodIn big (c :: (a ++ b)) := fun w h => (List.mem_cons.mp h).elim (fun e => ha w (List.mem_cons.mpr (Or.inl e))) (fun h => (List.mem_append.mp h).elim (fun h => ha w (List.mem_cons.mpr (Or.inr h))) (hb w))
theorem goodIn_sub {big ws : List Cond} (hm : ∀ w ∈ ws, w ∈ big) (h : ws.all goodWord = true) : GoodIn big ws := fun w hw => ⟨hm w hw, good_of_word (List.all_eq_true.mp h w hw)⟩
/-! ===== END ===== -/
def RX0 : String := "SagGates$Formula"
def TX0 : u_T := fun k => match k with
  | 0 => ("SagGates$Formula", "tokens", "LSagGates$Tokens;", true)
  | 1 => ("SagGates$Formula", "held", "[I", true)
  | 2 => ("SagGates$Formula", "heldCount", "I", false)
  | 3 => ("SagGates$Formula", "open", "I", false)
  | 4 => ("SagGates$Formula", "names", "I", false)
  | 5 => ("SagGates$Formula", "wantsValue", "Z", false)
  | 6 => ("SagGates$Formula", "mayNot", "Z", false)
  | _ => ("SagGates$Formula", "plan", "LSagGates$Plan;", false)
def tyX0 : Nat → FieldType := fun k => match k with
  | 0 => .object "SagGates$Tokens"
  | 1 => .array .int
  | 2 => .int
  | 3 => .int
  | 4 => .int
  | 5 => .boolean
  | 6 => .boolean
  | _ => .object "SagGates$Plan"
abbrev wsX00 : List Cond := u_ws RX0 TX0 8
theorem nmX0 : ∀ a, a < 8 → ∀ b, b < 8 → a ≠ b → (TX0 a).2.1 ≠ (TX0 b).2.1 := by decide +kernel
theorem tyX0_ok : ∀ k, k < 8 → parseFieldDescriptor (TX0 k).2.2.1 = some (tyX0 k) := by decide +kernel
abbrev cX0_init : ByteArray := prog_2_method_1_code
def yX0_init : MethodName := ⟨RX0, "<init>", "(LSagGates$Tokens;LSagGates$Plan;)V"⟩
def RX1 : String := "SagGates$Gate"
def TX1 : u_T := fun k => match k with
  | 0 => ("SagGates$Gate", "told", "LSagGates$Told;", false)
  | 1 => ("SagGates$Gate", "lean", "I", false)
  | 2 => ("SagGates$Gate", "square", "I", false)
  | 3 => ("SagGates$Gate", "hooks", "I", false)
  | 4 => ("SagGates$Gate", "lift", "I", false)
  | 5 => ("SagGates$Gate", "deep", "I", false)
  | 6 => ("SagGates$Gate", "brace", "I", false)
  | 7 => ("SagGates$Gate", "wheel", "I", false)
  | 8 => ("SagGates$Gate", "stones", "I", false)
  | 9 => ("SagGates$Gate", "child", "I", false)
  | 10 => ("SagGates$Gate", "done", "I", false)
  | 11 => ("SagGates$Gate", "causes", "I", false)
  | 12 => ("SagGates$Gate", "leanMore", "I", false)
  | 13 => ("SagGates$Gate", "openMore", "I", false)
  | 14 => ("SagGates$Gate", "bendMore", "I", false)
  | 15 => ("SagGates$Gate", "out", "I", false)
  | _ => ("SagGates$Gate", "aside", "I", false)
def tyX1 : Nat → FieldType := fun k => match k with
  | 0 => .object "SagGates$Told"
  | 1 => .int
  | 2 => .int
  | 3 => .int
  | 4 => .int
  | 5 => .int
  | 6 => .int
  | 7 => .int
  | 8 => .int
  | 9 => .int
  | 10 => .int
  | 11 => .int
  | 12 => .int
  | 13 => .int
  | 14 => .int
  | 15 => .int
  | _ => .int
abbrev wsX10 : List Cond := u_ws RX1 TX1 17
theorem nmX1 : ∀ a, a < 17 → ∀ b, b < 17 → a ≠ b → (TX1 a).2.1 ≠ (TX1 b).2.1 := by decide +kernel
theorem tyX1_ok : ∀ k, k < 17 → parseFieldDescriptor (TX1 k).2.2.1 = some (tyX1 k) := by decide +kernel
abbrev cX1_init : ByteArray := prog_3_method_1_code
def yX1_init : MethodName := ⟨RX1, "<init>", "(LSagGates$Told;)V"⟩
abbrev cX1_begin : ByteArray := prog_3_method_2_code
def yX1_begin : MethodName := ⟨RX1, "begin", "(LSagGates$Plan;I)V"⟩
abbrev cX1_setCauses : ByteArray := prog_3_method_3_code
def yX1_setCauses : MethodName := ⟨RX1, "setCauses", "(LSagGates$Plan;I)V"⟩
abbrev cX1_copy : ByteArray := prog_3_method_4_code
def yX1_copy : MethodName := ⟨RX1, "copy", "(LSagGates$Gate;)V"⟩
def RX2 : String := "SagGates$Laws"
def TX2 : u_T := fun k => match k with
  | 0 => ("SagGates$Laws", "values", "[J", true)
  | 1 => ("SagGates$Laws", "stack", "[J", true)
  | 2 => ("SagGates$Laws", "growth", "[I", true)
  | 3 => ("SagGates$Laws", "stale", "I", false)
  | _ => ("SagGates$Laws", "error", "Z", false)
def tyX2 : Nat → FieldType := fun k => match k with
  | 0 => .array .long
  | 1 => .array .long
  | 2 => .array .int
  | 3 => .int
  | _ => .boolean
abbrev wsX20 : List Cond := u_ws RX2 TX2 5
theorem nmX2 : ∀ a, a < 5 → ∀ b, b < 5 → a ≠ b → (TX2 a).2.1 ≠ (TX2 b).2.1 := by decide +kernel
theorem tyX2_ok : ∀ k, k < 5 → parseFieldDescriptor (TX2 k).2.2.1 = some (tyX2 k) := by decide +kernel
abbrev cX2_init : ByteArray := prog_4_method_1_code
def yX2_init : MethodName := ⟨RX2, "<init>", "()V"⟩
abbrev cX2_forget : ByteArray := prog_4_method_2_code
def yX2_forget : MethodName := ⟨RX2, "forget", "()V"⟩
def RX3 : String := "SagGates$Notes"
def TX3 : u_T := fun k => match k with
  | 0 => ("SagGates$Notes", "gates", "[I", true)
  | 1 => ("SagGates$Notes", "weeks", "[I", true)
  | 2 => ("SagGates$Notes", "whats", "[I", true)
  | 3 => ("SagGates$Notes", "lows", "[I", true)
  | 4 => ("SagGates$Notes", "highs", "[I", true)
  | 5 => ("SagGates$Notes", "strikes", "[I", true)
  | 6 => ("SagGates$Notes", "struck", "[Z", true)
  | 7 => ("SagGates$Notes", "picked", "[I", true)
  | 8 => ("SagGates$Notes", "pickedCount", "I", false)
  | 9 => ("SagGates$Notes", "count", "I", false)
  | _ => ("SagGates$Notes", "knownBy", "I", false)
def tyX3 : Nat → FieldType := fun k => match k with
  | 0 => .array .int
  | 1 => .array .int
  | 2 => .array .int
  | 3 => .array .int
  | 4 => .array .int
  | 5 => .array .int
  | 6 => .array .boolean
  | 7 => .array .int
  | 8 => .int
  | 9 => .int
  | _ => .int
abbrev wsX30 : List Cond := u_ws RX3 TX3 11
theorem nmX3 : ∀ a, a < 11 → ∀ b, b < 11 → a ≠ b → (TX3 a).2.1 ≠ (TX3 b).2.1 := by decide +kernel
theorem tyX3_ok : ∀ k, k < 11 → parseFieldDescriptor (TX3 k).2.2.1 = some (tyX3 k) := by decide +kernel
abbrev cX3_init : ByteArray := prog_5_method_1_code
def yX3_init : MethodName := ⟨RX3, "<init>", "()V"⟩
abbrev cX3_clear : ByteArray := prog_5_method_2_code
def yX3_clear : MethodName := ⟨RX3, "clear", "()V"⟩
abbrev cX3_knownCount : ByteArray := prog_5_method_3_code
def yX3_knownCount : MethodName := ⟨RX3, "knownCount", "()I"⟩
def RX4 : String := "SagGates$Plan"
def TX4 : u_T := fun k => match k with
  | 0 => ("SagGates$Plan", "ground", "[I", true)
  | 1 => ("SagGates$Plan", "code", "[I", true)
  | 2 => ("SagGates$Plan", "coded", "I", false)
  | 3 => ("SagGates$Plan", "knots", "I", false)
  | 4 => ("SagGates$Plan", "lawFrom", "[I", true)
  | 5 => ("SagGates$Plan", "lawTo", "[I", true)
  | 6 => ("SagGates$Plan", "lawNames", "[I", true)
  | 7 => ("SagGates$Plan", "gates", "[LSagGates$Told;", true)
  | 8 => ("SagGates$Plan", "gateNames", "[I", true)
  | 9 => ("SagGates$Plan", "gateCount", "I", false)
  | 10 => ("SagGates$Plan", "workNames", "[I", true)
  | 11 => ("SagGates$Plan", "workCosts", "[I", true)
  | 12 => ("SagGates$Plan", "workKinds", "[I", true)
  | 13 => ("SagGates$Plan", "workNumbers", "[I", true)
  | 14 => ("SagGates$Plan", "workCount", "I", false)
  | 15 => ("SagGates$Plan", "causeNames", "[I", true)
  | 16 => ("SagGates$Plan", "causeWeights", "[I", true)
  | 17 => ("SagGates$Plan", "causeKinds", "[I", true)
  | 18 => ("SagGates$Plan", "causeNumbers", "[I", true)
  | _ => ("SagGates$Plan", "causeCount", "I", false)
def tyX4 : Nat → FieldType := fun k => match k with
  | 0 => .array .int
  | 1 => .array .int
  | 2 => .int
  | 3 => .int
  | 4 => .array .int
  | 5 => .array .int
  | 6 => .array .int
  | 7 => .array (.object "SagGates$Told")
  | 8 => .array .int
  | 9 => .int
  | 10 => .array .int
  | 11 => .array .int
  | 12 => .array .int
  | 13 => .array .int
  | 14 => .int
  | 15 => .array .int
  | 16 => .array .int
  | 17 => .array .int
  | 18 => .array .int
  | _ => .int
abbrev wsX40 : List Cond := u_ws RX4 TX4 20
theorem nmX4 : ∀ a, a < 20 → ∀ b, b < 20 → a ≠ b → (TX4 a).2.1 ≠ (TX4 b).2.1 := by decide +kernel
theorem tyX4_ok : ∀ k, k < 20 → parseFieldDescriptor (TX4 k).2.2.1 = some (tyX4 k) := by decide +kernel
abbrev cX4_init : ByteArray := prog_6_method_1_code
def yX4_init : MethodName := ⟨RX4, "<init>", "()V"⟩
abbrev cX4_clear : ByteArray := prog_6_method_2_code
def yX4_clear : MethodName := ⟨RX4, "clear", "()V"⟩
abbrev cX4_isWork : ByteArray := prog_6_method_3_code
def yX4_isWork : MethodName := ⟨RX4, "isWork", "(I)Z"⟩
abbrev cX4_firmIn : ByteArray := prog_6_method_6_code
def yX4_firmIn : MethodName := ⟨RX4, "firmIn", "(I)I"⟩
abbrev cX4_moreBy : ByteArray := prog_6_method_9_code
def yX4_moreBy : MethodName := ⟨RX4, "moreBy", "(II)I"⟩
def RX5 : String := "SagGates$Reader"
def TX5 : u_T := fun k => match k with
  | 0 => ("SagGates$Reader", "tokens", "LSagGates$Tokens;", true)
  | 1 => ("SagGates$Reader", "formula", "LSagGates$Formula;", true)
  | 2 => ("SagGates$Reader", "plan", "LSagGates$Plan;", false)
  | 3 => ("SagGates$Reader", "groundTold", "Z", false)
  | 4 => ("SagGates$Reader", "fault", "I", false)
  | _ => ("SagGates$Reader", "place", "I", false)
def tyX5 : Nat → FieldType := fun k => match k with
  | 0 => .object "SagGates$Tokens"
  | 1 => .object "SagGates$Formula"
  | 2 => .object "SagGates$Plan"
  | 3 => .boolean
  | 4 => .int
  | _ => .int
abbrev wsX50 : List Cond := u_ws RX5 TX5 6
theorem nmX5 : ∀ a, a < 6 → ∀ b, b < 6 → a ≠ b → (TX5 a).2.1 ≠ (TX5 b).2.1 := by decide +kernel
theorem tyX5_ok : ∀ k, k < 6 → parseFieldDescriptor (TX5 k).2.2.1 = some (tyX5 k) := by decide +kernel
abbrev cX5_init : ByteArray := prog_7_method_1_code
def yX5_init : MethodName := ⟨RX5, "<init>", "([BLSagGates$Plan;)V"⟩
abbrev cX5_readText : ByteArray := prog_7_method_2_code
def yX5_readText : MethodName := ⟨RX5, "readText", "(LSagGates$Plan;I)I"⟩
def RX6 : String := "SagGates$Tokens"
def TX6 : u_T := fun k => match k with
  | 0 => ("SagGates$Tokens", "bytes", "[B", true)
  | 1 => ("SagGates$Tokens", "words", "[I", true)
  | 2 => ("SagGates$Tokens", "length", "I", false)
  | 3 => ("SagGates$Tokens", "at", "I", false)
  | 4 => ("SagGates$Tokens", "kind", "I", false)
  | 5 => ("SagGates$Tokens", "place", "I", false)
  | _ => ("SagGates$Tokens", "value", "I", false)
def tyX6 : Nat → FieldType := fun k => match k with
  | 0 => .array .byte
  | 1 => .array .int
  | 2 => .int
  | 3 => .int
  | 4 => .int
  | 5 => .int
  | _ => .int
abbrev wsX60 : List Cond := u_ws RX6 TX6 7
theorem nmX6 : ∀ a, a < 7 → ∀ b, b < 7 → a ≠ b → (TX6 a).2.1 ≠ (TX6 b).2.1 := by decide +kernel
theorem tyX6_ok : ∀ k, k < 7 → parseFieldDescriptor (TX6 k).2.2.1 = some (tyX6 k) := by decide +kernel
abbrev cX6_init : ByteArray := prog_8_method_1_code
def yX6_init : MethodName := ⟨RX6, "<init>", "([B)V"⟩
abbrev cX6_letterBits : ByteArray := prog_8_method_2_code
def yX6_letterBits : MethodName := ⟨RX6, "letterBits", "(II)I"⟩
abbrev cX6_begin : ByteArray := prog_8_method_3_code
def yX6_begin : MethodName := ⟨RX6, "begin", "(I)V"⟩
abbrev cX6_step : ByteArray := prog_8_method_4_code
def yX6_step : MethodName := ⟨RX6, "step", "()V"⟩
def RX7 : String := "SagGates$Told"
def TX7 : u_T := fun k => match k with
  | 0 => ("SagGates$Told", "length", "I", false)
  | 1 => ("SagGates$Told", "height", "I", false)
  | 2 => ("SagGates$Told", "weight", "I", false)
  | 3 => ("SagGates$Told", "lower", "I", false)
  | 4 => ("SagGates$Told", "upper", "I", false)
  | 5 => ("SagGates$Told", "out", "I", false)
  | 6 => ("SagGates$Told", "aside", "I", false)
  | 7 => ("SagGates$Told", "deep", "I", false)
  | 8 => ("SagGates$Told", "thick", "I", false)
  | 9 => ("SagGates$Told", "brace", "I", false)
  | 10 => ("SagGates$Told", "mayRise", "I", false)
  | 11 => ("SagGates$Told", "mayDrop", "I", false)
  | 12 => ("SagGates$Told", "child", "I", false)
  | 13 => ("SagGates$Told", "gap", "I", false)
  | 14 => ("SagGates$Told", "causes", "I", false)
  | 15 => ("SagGates$Told", "parts", "I", false)
  | _ => ("SagGates$Told", "rise", "[I", true)
def tyX7 : Nat → FieldType := fun k => match k with
  | 0 => .int
  | 1 => .int
  | 2 => .int
  | 3 => .int
  | 4 => .int
  | 5 => .int
  | 6 => .int
  | 7 => .int
  | 8 => .int
  | 9 => .int
  | 10 => .int
  | 11 => .int
  | 12 => .int
  | 13 => .int
  | 14 => .int
  | 15 => .int
  | _ => .array .int
abbrev wsX70 : List Cond := u_ws RX7 TX7 17
theorem nmX7 : ∀ a, a < 17 → ∀ b, b < 17 → a ≠ b → (TX7 a).2.1 ≠ (TX7 b).2.1 := by decide +kernel
theorem tyX7_ok : ∀ k, k < 17 → parseFieldDescriptor (TX7 k).2.2.1 = some (tyX7 k) := by decide +kernel
abbrev cX7_init : ByteArray := prog_9_method_1_code
def yX7_init : MethodName := ⟨RX7, "<init>", "()V"⟩
abbrev cX7_clear : ByteArray := prog_9_method_2_code
def yX7_clear : MethodName := ⟨RX7, "clear", "()V"⟩
abbrev cX7_setHeight : ByteArray := prog_9_method_3_code
def yX7_setHeight : MethodName := ⟨RX7, "setHeight", "(I)V"⟩
def RX8 : String := "SagGates$Trials"
def TX8 : u_T := fun k => match k with
  | 0 => ("SagGates$Trials", "behind", "[I", true)
  | 1 => ("SagGates$Trials", "run", "LSagGates$Gate;", true)
  | _ => ("SagGates$Trials", "fitting", "I", false)
def tyX8 : Nat → FieldType := fun k => match k with
  | 0 => .array .int
  | 1 => .object "SagGates$Gate"
  | _ => .int
abbrev wsX80 : List Cond := u_ws RX8 TX8 3
theorem nmX8 : ∀ a, a < 3 → ∀ b, b < 3 → a ≠ b → (TX8 a).2.1 ≠ (TX8 b).2.1 := by decide +kernel
theorem tyX8_ok : ∀ k, k < 3 → parseFieldDescriptor (TX8 k).2.2.1 = some (tyX8 k) := by decide +kernel
abbrev cX8_init : ByteArray := prog_10_method_1_code
def yX8_init : MethodName := ⟨RX8, "<init>", "(LSagGates$Told;)V"⟩
def RX9 : String := "SagGates$Turns"
def TX9 : u_T := fun k => match k with
  | 0 => ("SagGates$Turns", "costs", "[I", true)
  | 1 => ("SagGates$Turns", "order", "[I", true)
  | 2 => ("SagGates$Turns", "best", "[I", true)
  | _ => ("SagGates$Turns", "leastSum", "I", false)
def tyX9 : Nat → FieldType := fun k => match k with
  | 0 => .array .int
  | 1 => .array .int
  | 2 => .array .int
  | _ => .int
abbrev wsX90 : List Cond := u_ws RX9 TX9 4
theorem nmX9 : ∀ a, a < 4 → ∀ b, b < 4 → a ≠ b → (TX9 a).2.1 ≠ (TX9 b).2.1 := by decide +kernel
theorem tyX9_ok : ∀ k, k < 4 → parseFieldDescriptor (TX9 k).2.2.1 = some (tyX9 k) := by decide +kernel
abbrev cX9_init : ByteArray := prog_11_method_1_code
def yX9_init : MethodName := ⟨RX9, "<init>", "()V"⟩
def RX10 : String := "SagGates$Undone"
def TX10 : u_T := fun k => match k with
  | 0 => ("SagGates$Undone", "before", "[LSagGates$Gate;", true)
  | 1 => ("SagGates$Undone", "numbers", "[I", true)
  | _ => ("SagGates$Undone", "count", "I", false)
def tyX10 : Nat → FieldType := fun k => match k with
  | 0 => .array (.object "SagGates$Gate")
  | 1 => .array .int
  | _ => .int
abbrev wsX100 : List Cond := u_ws RX10 TX10 3
theorem nmX10 : ∀ a, a < 3 → ∀ b, b < 3 → a ≠ b → (TX10 a).2.1 ≠ (TX10 b).2.1 := by decide +kernel
theorem tyX10_ok : ∀ k, k < 3 → parseFieldDescriptor (TX10 k).2.2.1 = some (tyX10 k) := by decide +kernel
abbrev cX10_init : ByteArray := prog_12_method_1_code
def yX10_init : MethodName := ⟨RX10, "<init>", "(LSagGates$Told;)V"⟩
abbrev cX10_clear : ByteArray := prog_12_method_2_code
def yX10_clear : MethodName := ⟨RX10, "clear", "()V"⟩
def RX11 : String := "SagGates"
def TX11 : u_T := fun k => match k with
  | 0 => ("SagGates", "tape", "[B", true)
  | 1 => ("SagGates", "taped", "I", false)
  | 2 => ("SagGates", "plan", "LSagGates$Plan;", false)
  | 3 => ("SagGates", "spare", "LSagGates$Plan;", false)
  | 4 => ("SagGates", "reader", "LSagGates$Reader;", true)
  | 5 => ("SagGates", "laws", "LSagGates$Laws;", true)
  | 6 => ("SagGates", "untold", "LSagGates$Told;", true)
  | 7 => ("SagGates", "gates", "[LSagGates$Gate;", true)
  | 8 => ("SagGates", "next", "I", false)
  | 9 => ("SagGates", "image", "[LSagGates$Gate;", true)
  | 10 => ("SagGates", "imageNext", "I", false)
  | 11 => ("SagGates", "undone", "LSagGates$Undone;", true)
  | 12 => ("SagGates", "notes", "LSagGates$Notes;", true)
  | 13 => ("SagGates", "trials", "LSagGates$Trials;", true)
  | 14 => ("SagGates", "trial", "LSagGates$Gate;", true)
  | _ => ("SagGates", "turns", "LSagGates$Turns;", true)
def tyX11 : Nat → FieldType := fun k => match k with
  | 0 => .array .byte
  | 1 => .int
  | 2 => .object "SagGates$Plan"
  | 3 => .object "SagGates$Plan"
  | 4 => .object "SagGates$Reader"
  | 5 => .object "SagGates$Laws"
  | 6 => .object "SagGates$Told"
  | 7 => .array (.object "SagGates$Gate")
  | 8 => .int
  | 9 => .array (.object "SagGates$Gate")
  | 10 => .int
  | 11 => .object "SagGates$Undone"
  | 12 => .object "SagGates$Notes"
  | 13 => .object "SagGates$Trials"
  | 14 => .object "SagGates$Gate"
  | _ => .object "SagGates$Turns"
abbrev wsX110 : List Cond := u_ws RX11 TX11 16
theorem nmX11 : ∀ a, a < 16 → ∀ b, b < 16 → a ≠ b → (TX11 a).2.1 ≠ (TX11 b).2.1 := by decide +kernel
theorem tyX11_ok : ∀ k, k < 16 → parseFieldDescriptor (TX11 k).2.2.1 = some (tyX11 k) := by decide +kernel
abbrev cX11_init : ByteArray := prog_1_method_1_code
def yX11_init : MethodName := ⟨RX11, "<init>", "()V"⟩
abbrev cX11_feed : ByteArray := prog_1_method_2_code
def yX11_feed : MethodName := ⟨RX11, "feed", "(IIIII)I"⟩
abbrev cX11_putOnTape : ByteArray := prog_1_method_3_code
def yX11_putOnTape : MethodName := ⟨RX11, "putOnTape", "(I)V"⟩
abbrev cX11_text : ByteArray := prog_1_method_4_code
def yX11_text : MethodName := ⟨RX11, "text", "(I)I"⟩
abbrev cX11_takeSpare : ByteArray := prog_1_method_5_code
def yX11_takeSpare : MethodName := ⟨RX11, "takeSpare", "()V"⟩
abbrev cX11_fault : ByteArray := prog_1_method_6_code
def yX11_fault : MethodName := ⟨RX11, "fault", "(I)I"⟩
abbrev cX11_named : ByteArray := prog_1_method_7_code
def yX11_named : MethodName := ⟨RX11, "named", "(II)I"⟩
abbrev cX11_placeOf : ByteArray := prog_1_method_8_code
def yX11_placeOf : MethodName := ⟨RX11, "placeOf", "(I[II)I"⟩
abbrev cX11_isGate : ByteArray := prog_1_method_9_code
def yX11_isGate : MethodName := ⟨RX11, "isGate", "(I)Z"⟩
abbrev cX11_isAhead : ByteArray := prog_1_method_11_code
def yX11_isAhead : MethodName := ⟨RX11, "isAhead", "(I)Z"⟩
abbrev cX11_isWeek : ByteArray := prog_1_method_13_code
def yX11_isWeek : MethodName := ⟨RX11, "isWeek", "(I)Z"⟩
abbrev cX11_look : ByteArray := prog_1_method_14_code
def yX11_look : MethodName := ⟨RX11, "look", "(II)I"⟩
abbrev cX11_works : ByteArray := prog_1_method_15_code
def yX11_works : MethodName := ⟨RX11, "works", "(II)I"⟩
abbrev cX11_firm : ByteArray := prog_1_method_16_code
def yX11_firm : MethodName := ⟨RX11, "firm", "(I)I"⟩
abbrev cX11_weeks : ByteArray := prog_1_method_17_code
def yX11_weeks : MethodName := ⟨RX11, "weeks", "(I)I"⟩
abbrev cX11_sags : ByteArray := prog_1_method_18_code
def yX11_sags : MethodName := ⟨RX11, "sags", "(II)I"⟩
abbrev cX11_latched : ByteArray := prog_1_method_19_code
def yX11_latched : MethodName := ⟨RX11, "latched", "(I)I"⟩
abbrev cX11_gives : ByteArray := prog_1_method_20_code
def yX11_gives : MethodName := ⟨RX11, "gives", "(I)I"⟩
abbrev cX11_work : ByteArray := prog_1_method_21_code
def yX11_work : MethodName := ⟨RX11, "work", "(II)Z"⟩
abbrev cX11_undo : ByteArray := prog_1_method_22_code
def yX11_undo : MethodName := ⟨RX11, "undo", "()I"⟩
abbrev cX11_lasts : ByteArray := prog_1_method_23_code
def yX11_lasts : MethodName := ⟨RX11, "lasts", "(II)I"⟩
abbrev cX11_least : ByteArray := prog_1_method_24_code
def yX11_least : MethodName := ⟨RX11, "least", "(IIII)I"⟩
abbrev cX11_way : ByteArray := prog_1_method_26_code
def yX11_way : MethodName := ⟨RX11, "way", "(II)I"⟩
abbrev cX11_enough : ByteArray := prog_1_method_28_code
def yX11_enough : MethodName := ⟨RX11, "enough", "(III)I"⟩
abbrev cX11_bears : ByteArray := prog_1_method_29_code
def yX11_bears : MethodName := ⟨RX11, "bears", "(III)I"⟩
abbrev cX11_knock : ByteArray := prog_1_method_30_code
def yX11_knock : MethodName := ⟨RX11, "knock", "(II)J"⟩
abbrev cX11_measure : ByteArray := prog_1_method_31_code
def yX11_measure : MethodName := ⟨RX11, "measure", "(IIIII)I"⟩
abbrev cX11_strike : ByteArray := prog_1_method_32_code
def yX11_strike : MethodName := ⟨RX11, "strike", "(I)I"⟩
abbrev cX11_known : ByteArray := prog_1_method_33_code
def yX11_known : MethodName := ⟨RX11, "known", "(I)Z"⟩
abbrev cX11_fits : ByteArray := prog_1_method_34_code
def yX11_fits : MethodName := ⟨RX11, "fits", "(I)I"⟩
abbrev cX11_odds : ByteArray := prog_1_method_35_code
def yX11_odds : MethodName := ⟨RX11, "odds", "(III)I"⟩
abbrev cX11_test : ByteArray := prog_1_method_36_code
def yX11_test : MethodName := ⟨RX11, "test", "(II)I"⟩
abbrev cX11_low : ByteArray := prog_1_method_37_code
def yX11_low : MethodName := ⟨RX11, "low", "(II)I"⟩
abbrev cX11_rest : ByteArray := prog_1_method_38_code
def yX11_rest : MethodName := ⟨RX11, "rest", "(I)I"⟩
abbrev cX11_shuts : ByteArray := prog_1_method_39_code
def yX11_shuts : MethodName := ⟨RX11, "shuts", "(I)I"⟩
abbrev cX11_above : ByteArray := prog_1_method_40_code
def yX11_above : MethodName := ⟨RX11, "above", "(II)I"⟩
abbrev cX11_opens : ByteArray := prog_1_method_41_code
def yX11_opens : MethodName := ⟨RX11, "opens", "(I)I"⟩
abbrev cX11_stand : ByteArray := prog_1_method_42_code
def yX11_stand : MethodName := ⟨RX11, "stand", "(III)I"⟩
abbrev cX11_first : ByteArray := prog_1_method_43_code
def yX11_first : MethodName := ⟨RX11, "first", "(II)I"⟩
abbrev cX11_wind : ByteArray := prog_1_method_45_code
def yX11_wind : MethodName := ⟨RX11, "wind", "(IIIII)I"⟩
abbrev cX11_keep : ByteArray := prog_1_method_46_code
def yX11_keep : MethodName := ⟨RX11, "keep", "()I"⟩
abbrev cX11_back : ByteArray := prog_1_method_47_code
def yX11_back : MethodName := ⟨RX11, "back", "()I"⟩
abbrev cX11_count : ByteArray := prog_1_method_48_code
def yX11_count : MethodName := ⟨RX11, "count", "(I)I"⟩
abbrev cX11_costOfAllDone : ByteArray := prog_1_method_49_code
def yX11_costOfAllDone : MethodName := ⟨RX11, "costOfAllDone", "()I"⟩
def RX12 : String := "SagGatesModel"
def TX12 : u_T := fun k => match k with
  | 0 => ("SagGatesModel", "tape", "[I", true)
  | 1 => ("SagGatesModel", "tapeSize", "I", false)
  | 2 => ("SagGatesModel", "thrown", "I", false)
  | 3 => ("SagGatesModel", "words", "[I", true)
  | 4 => ("SagGatesModel", "fault", "I", false)
  | 5 => ("SagGatesModel", "faultPlace", "I", false)
  | 6 => ("SagGatesModel", "stop", "I", false)
  | 7 => ("SagGatesModel", "next", "I", false)
  | 8 => ("SagGatesModel", "kind", "I", false)
  | 9 => ("SagGatesModel", "which", "I", false)
  | 10 => ("SagGatesModel", "at", "I", false)
  | 11 => ("SagGatesModel", "got", "I", false)
  | 12 => ("SagGatesModel", "gates", "I", false)
  | 13 => ("SagGatesModel", "works", "I", false)
  | 14 => ("SagGatesModel", "causes", "I", false)
  | 15 => ("SagGatesModel", "knots", "I", false)
  | 16 => ("SagGatesModel", "gatesRead", "I", false)
  | 17 => ("SagGatesModel", "worksRead", "I", false)
  | 18 => ("SagGatesModel", "causesRead", "I", false)
  | 19 => ("SagGatesModel", "knotsRead", "I", false)
  | 20 => ("SagGatesModel", "groundTold", "Z", false)
  | 21 => ("SagGatesModel", "ground", "[I", true)
  | 22 => ("SagGatesModel", "lawFirst", "[I", true)
  | 23 => ("SagGatesModel", "lawLast", "[I", true)
  | 24 => ("SagGatesModel", "lawTold", "[Z", true)
  | 25 => ("SagGatesModel", "gateName", "[I", true)
  | 26 => ("SagGatesModel", "gateHas", "[I", true)
  | 27 => ("SagGatesModel", "rise", "[I", true)
  | 28 => ("SagGatesModel", "workName", "[I", true)
  | 29 => ("SagGatesModel", "workHas", "[I", true)
  | 30 => ("SagGatesModel", "causeName", "[I", true)
  | 31 => ("SagGatesModel", "causeHas", "[I", true)
  | 32 => ("SagGatesModel", "knot", "[I", true)
  | 33 => ("SagGatesModel", "part", "[I", true)
  | 34 => ("SagGatesModel", "other", "[I", true)
  | 35 => ("SagGatesModel", "wait", "[I", true)
  | 36 => ("SagGatesModel", "held", "[I", true)
  | 37 => ("SagGatesModel", "waits", "I", false)
  | 38 => ("SagGatesModel", "helds", "I", false)
  | 39 => ("SagGatesModel", "brackets", "I", false)
  | 40 => ("SagGatesModel", "counted", "I", false)
  | 41 => ("SagGatesModel", "wants", "Z", false)
  | 42 => ("SagGatesModel", "mayNot", "Z", false)
  | 43 => ("SagGatesModel", "week", "I", false)
  | 44 => ("SagGatesModel", "state", "[I", true)
  | 45 => ("SagGatesModel", "now", "[I", true)
  | 46 => ("SagGatesModel", "names", "[J", true)
  | 47 => ("SagGatesModel", "value", "[J", true)
  | 48 => ("SagGatesModel", "isError", "Z", false)
  | 49 => ("SagGatesModel", "grows", "[J", true)
  | 50 => ("SagGatesModel", "undos", "I", false)
  | 51 => ("SagGatesModel", "undo", "[I", true)
  | 52 => ("SagGatesModel", "measures", "I", false)
  | 53 => ("SagGatesModel", "seenBy", "I", false)
  | 54 => ("SagGatesModel", "readGate", "[I", true)
  | 55 => ("SagGatesModel", "readWeek", "[I", true)
  | 56 => ("SagGatesModel", "readWhat", "[I", true)
  | 57 => ("SagGatesModel", "readLow", "[I", true)
  | 58 => ("SagGatesModel", "readHigh", "[I", true)
  | 59 => ("SagGatesModel", "counts", "[Z", true)
  | 60 => ("SagGatesModel", "tells", "[I", true)
  | 61 => ("SagGatesModel", "cosines", "[I", true)
  | 62 => ("SagGatesModel", "sines", "[I", true)
  | 63 => ("SagGatesModel", "order", "[I", true)
  | 64 => ("SagGatesModel", "bestOrder", "[I", true)
  | 65 => ("SagGatesModel", "tried", "[I", true)
  | 66 => ("SagGatesModel", "hasImage", "Z", false)
  | 67 => ("SagGatesModel", "keptWeek", "I", false)
  | _ => ("SagGatesModel", "keptState", "[I", true)
def tyX12 : Nat → FieldType := fun k => match k with
  | 0 => .array .int
  | 1 => .int
  | 2 => .int
  | 3 => .array .int
  | 4 => .int
  | 5 => .int
  | 6 => .int
  | 7 => .int
  | 8 => .int
  | 9 => .int
  | 10 => .int
  | 11 => .int
  | 12 => .int
  | 13 => .int
  | 14 => .int
  | 15 => .int
  | 16 => .int
  | 17 => .int
  | 18 => .int
  | 19 => .int
  | 20 => .boolean
  | 21 => .array .int
  | 22 => .array .int
  | 23 => .array .int
  | 24 => .array .boolean
  | 25 => .array .int
  | 26 => .array .int
  | 27 => .array .int
  | 28 => .array .int
  | 29 => .array .int
  | 30 => .array .int
  | 31 => .array .int
  | 32 => .array .int
  | 33 => .array .int
  | 34 => .array .int
  | 35 => .array .int
  | 36 => .array .int
  | 37 => .int
  | 38 => .int
  | 39 => .int
  | 40 => .int
  | 41 => .boolean
  | 42 => .boolean
  | 43 => .int
  | 44 => .array .int
  | 45 => .array .int
  | 46 => .array .long
  | 47 => .array .long
  | 48 => .boolean
  | 49 => .array .long
  | 50 => .int
  | 51 => .array .int
  | 52 => .int
  | 53 => .int
  | 54 => .array .int
  | 55 => .array .int
  | 56 => .array .int
  | 57 => .array .int
  | 58 => .array .int
  | 59 => .array .boolean
  | 60 => .array .int
  | 61 => .array .int
  | 62 => .array .int
  | 63 => .array .int
  | 64 => .array .int
  | 65 => .array .int
  | 66 => .boolean
  | 67 => .int
  | _ => .array .int
abbrev wsX120 : List Cond := u_ws RX12 TX12 69
theorem nmX12 : ∀ a, a < 69 → ∀ b, b < 69 → a ≠ b → (TX12 a).2.1 ≠ (TX12 b).2.1 := by decide +kernel
theorem tyX12_ok : ∀ k, k < 69 → parseFieldDescriptor (TX12 k).2.2.1 = some (tyX12 k) := by decide +kernel
abbrev cX12_init : ByteArray := prog_14_method_1_code
def yX12_init : MethodName := ⟨RX12, "<init>", "()V"⟩
abbrev cX12_thrown : ByteArray := prog_14_method_2_code
def yX12_thrown : MethodName := ⟨RX12, "thrown", "()I"⟩
abbrev cX12_feed : ByteArray := prog_14_method_3_code
def yX12_feed : MethodName := ⟨RX12, "feed", "(IIIII)I"⟩
abbrev cX12_isIn : ByteArray := prog_14_method_4_code
def yX12_isIn : MethodName := ⟨RX12, "isIn", "(III)Z"⟩
abbrev cX12_token : ByteArray := prog_14_method_11_code
def yX12_token : MethodName := ⟨RX12, "token", "()V"⟩
abbrev cX12_plain : ByteArray := prog_14_method_19_code
def yX12_plain : MethodName := ⟨RX12, "plain", "()V"⟩
abbrev cX12_copies : ByteArray := prog_14_method_20_code
def yX12_copies : MethodName := ⟨RX12, "copies", "([II)V"⟩
abbrev cX12_keepText : ByteArray := prog_14_method_21_code
def yX12_keepText : MethodName := ⟨RX12, "keepText", "()V"⟩
abbrev cX12_find : ByteArray := prog_14_method_22_code
def yX12_find : MethodName := ⟨RX12, "find", "([IIII)I"⟩
abbrev cX12_text : ByteArray := prog_14_method_36_code
def yX12_text : MethodName := ⟨RX12, "text", "(I)I"⟩
abbrev cX12_fault : ByteArray := prog_14_method_37_code
def yX12_fault : MethodName := ⟨RX12, "fault", "(I)I"⟩
abbrev cX12_named : ByteArray := prog_14_method_38_code
def yX12_named : MethodName := ⟨RX12, "named", "(II)I"⟩
abbrev cX12_lays : ByteArray := prog_14_method_48_code
def yX12_lays : MethodName := ⟨RX12, "lays", "([II[II)V"⟩
abbrev cX12_begins : ByteArray := prog_14_method_49_code
def yX12_begins : MethodName := ⟨RX12, "begins", "(I)V"⟩
abbrev cX12_firmOf : ByteArray := prog_14_method_55_code
def yX12_firmOf : MethodName := ⟨RX12, "firmOf", "(I)I"⟩
abbrev cX12_isGate : ByteArray := prog_14_method_64_code
def yX12_isGate : MethodName := ⟨RX12, "isGate", "(I)Z"⟩
abbrev cX12_fails : ByteArray := prog_14_method_65_code
def yX12_fails : MethodName := ⟨RX12, "fails", "(I)I"⟩
abbrev cX12_look : ByteArray := prog_14_method_66_code
def yX12_look : MethodName := ⟨RX12, "look", "(II)I"⟩
abbrev cX12_works : ByteArray := prog_14_method_67_code
def yX12_works : MethodName := ⟨RX12, "works", "(II)I"⟩
abbrev cX12_firm : ByteArray := prog_14_method_68_code
def yX12_firm : MethodName := ⟨RX12, "firm", "(I)I"⟩
abbrev cX12_weeks : ByteArray := prog_14_method_69_code
def yX12_weeks : MethodName := ⟨RX12, "weeks", "(I)I"⟩
abbrev cX12_sags : ByteArray := prog_14_method_70_code
def yX12_sags : MethodName := ⟨RX12, "sags", "(II)I"⟩
abbrev cX12_latched : ByteArray := prog_14_method_72_code
def yX12_latched : MethodName := ⟨RX12, "latched", "(I)I"⟩
abbrev cX12_gives : ByteArray := prog_14_method_73_code
def yX12_gives : MethodName := ⟨RX12, "gives", "(I)I"⟩
abbrev cX12_work : ByteArray := prog_14_method_75_code
def yX12_work : MethodName := ⟨RX12, "work", "(II)Z"⟩
abbrev cX12_undo : ByteArray := prog_14_method_76_code
def yX12_undo : MethodName := ⟨RX12, "undo", "()I"⟩
abbrev cX12_lasts : ByteArray := prog_14_method_78_code
def yX12_lasts : MethodName := ⟨RX12, "lasts", "(II)I"⟩
abbrev cX12_least : ByteArray := prog_14_method_80_code
def yX12_least : MethodName := ⟨RX12, "least", "(IIII)I"⟩
abbrev cX12_way : ByteArray := prog_14_method_82_code
def yX12_way : MethodName := ⟨RX12, "way", "(II)I"⟩
abbrev cX12_enough : ByteArray := prog_14_method_83_code
def yX12_enough : MethodName := ⟨RX12, "enough", "(III)I"⟩
abbrev cX12_bears : ByteArray := prog_14_method_84_code
def yX12_bears : MethodName := ⟨RX12, "bears", "(III)I"⟩
abbrev cX12_knock : ByteArray := prog_14_method_85_code
def yX12_knock : MethodName := ⟨RX12, "knock", "(II)J"⟩
abbrev cX12_measure : ByteArray := prog_14_method_86_code
def yX12_measure : MethodName := ⟨RX12, "measure", "(IIIII)I"⟩
abbrev cX12_strike : ByteArray := prog_14_method_87_code
def yX12_strike : MethodName := ⟨RX12, "strike", "(I)I"⟩
abbrev cX12_known : ByteArray := prog_14_method_88_code
def yX12_known : MethodName := ⟨RX12, "known", "(I)Z"⟩
abbrev cX12_knownMany : ByteArray := prog_14_method_89_code
def yX12_knownMany : MethodName := ⟨RX12, "knownMany", "()I"⟩
abbrev cX12_fits : ByteArray := prog_14_method_96_code
def yX12_fits : MethodName := ⟨RX12, "fits", "(I)I"⟩
abbrev cX12_odds : ByteArray := prog_14_method_99_code
def yX12_odds : MethodName := ⟨RX12, "odds", "(III)I"⟩
abbrev cX12_test : ByteArray := prog_14_method_101_code
def yX12_test : MethodName := ⟨RX12, "test", "(II)I"⟩
abbrev cX12_low : ByteArray := prog_14_method_104_code
def yX12_low : MethodName := ⟨RX12, "low", "(II)I"⟩
abbrev cX12_rest : ByteArray := prog_14_method_105_code
def yX12_rest : MethodName := ⟨RX12, "rest", "(I)I"⟩
abbrev cX12_shuts : ByteArray := prog_14_method_107_code
def yX12_shuts : MethodName := ⟨RX12, "shuts", "(I)I"⟩
abbrev cX12_above : ByteArray := prog_14_method_109_code
def yX12_above : MethodName := ⟨RX12, "above", "(II)I"⟩
abbrev cX12_opens : ByteArray := prog_14_method_111_code
def yX12_opens : MethodName := ⟨RX12, "opens", "(I)I"⟩
abbrev cX12_stand : ByteArray := prog_14_method_112_code
def yX12_stand : MethodName := ⟨RX12, "stand", "(III)I"⟩
abbrev cX12_first : ByteArray := prog_14_method_116_code
def yX12_first : MethodName := ⟨RX12, "first", "(II)I"⟩
abbrev cX12_wind : ByteArray := prog_14_method_117_code
def yX12_wind : MethodName := ⟨RX12, "wind", "(IIIII)I"⟩
abbrev cX12_keep : ByteArray := prog_14_method_118_code
def yX12_keep : MethodName := ⟨RX12, "keep", "()I"⟩
abbrev cX12_back : ByteArray := prog_14_method_119_code
def yX12_back : MethodName := ⟨RX12, "back", "()I"⟩
abbrev cX12_count : ByteArray := prog_14_method_120_code
def yX12_count : MethodName := ⟨RX12, "count", "(I)I"⟩
def RJx145de : String := "java/io/Serializable"
def TJx145de : u_T := fun k => match k with
  | _ => ("", "", "", false)
def tyJx145de : Nat → FieldType := fun k => match k with
  | _ => .int
theorem nmJx145de : ∀ a, a < 0 → ∀ b, b < 0 → a ≠ b → (TJx145de a).2.1 ≠ (TJx145de b).2.1 := by decide +kernel
theorem tyJx145de_ok : ∀ k, k < 0 → parseFieldDescriptor (TJx145de k).2.2.1 = some (tyJx145de k) := by decide +kernel
def RJx9f9b0 : String := "java/lang/CharSequence"
def TJx9f9b0 : u_T := fun k => match k with
  | _ => ("", "", "", false)
def tyJx9f9b0 : Nat → FieldType := fun k => match k with
  | _ => .int
theorem nmJx9f9b0 : ∀ a, a < 0 → ∀ b, b < 0 → a ≠ b → (TJx9f9b0 a).2.1 ≠ (TJx9f9b0 b).2.1 := by decide +kernel
theorem tyJx9f9b0_ok : ∀ k, k < 0 → parseFieldDescriptor (TJx9f9b0 k).2.2.1 = some (tyJx9f9b0 k) := by decide +kernel
def RJxb160c : String := "java/lang/Comparable"
def TJxb160c : u_T := fun k => match k with
  | _ => ("", "", "", false)
def tyJxb160c : Nat → FieldType := fun k => match k with
  | _ => .int
theorem nmJxb160c : ∀ a, a < 0 → ∀ b, b < 0 → a ≠ b → (TJxb160c a).2.1 ≠ (TJxb160c b).2.1 := by decide +kernel
theorem tyJxb160c_ok : ∀ k, k < 0 → parseFieldDescriptor (TJxb160c k).2.2.1 = some (tyJxb160c k) := by decide +kernel
def RJ6 : String := "java/lang/Integer"
def TJ6 : u_T := fun k => match k with
  | _ => ("", "", "", false)
def tyJ6 : Nat → FieldType := fun k => match k with
  | _ => .int
theorem nmJ6 : ∀ a, a < 0 → ∀ b, b < 0 → a ≠ b → (TJ6 a).2.1 ≠ (TJ6 b).2.1 := by decide +kernel
theorem tyJ6_ok : ∀ k, k < 0 → parseFieldDescriptor (TJ6 k).2.2.1 = some (tyJ6 k) := by decide +kernel
def RJ9 : String := "java/lang/Math"
def TJ9 : u_T := fun k => match k with
  | _ => ("", "", "", false)
def tyJ9 : Nat → FieldType := fun k => match k with
  | _ => .int
theorem nmJ9 : ∀ a, a < 0 → ∀ b, b < 0 → a ≠ b → (TJ9 a).2.1 ≠ (TJ9 b).2.1 := by decide +kernel
theorem tyJ9_ok : ∀ k, k < 0 → parseFieldDescriptor (TJ9 k).2.2.1 = some (tyJ9 k) := by decide +kernel
def RJ0 : String := "java/lang/String"
def TJ0 : u_T := fun k => match k with
  | _ => ("", "", "", false)
def tyJ0 : Nat → FieldType := fun k => match k with
  | _ => .int
theorem nmJ0 : ∀ a, a < 0 → ∀ b, b < 0 → a ≠ b → (TJ0 a).2.1 ≠ (TJ0 b).2.1 := by decide +kernel
theorem tyJ0_ok : ∀ k, k < 0 → parseFieldDescriptor (TJ0 k).2.2.1 = some (tyJ0 k) := by decide +kernel
abbrev cJ0_length_8abf5 : ByteArray := prog_23_method_54_code
def yJ0_length_8abf5 : MethodName := ⟨RJ0, "length", "()I"⟩
abbrev cJ0_charAt_5068e : ByteArray := prog_23_method_56_code
def yJ0_charAt_5068e : MethodName := ⟨RJ0, "charAt", "(I)C"⟩
abbrev cJ0_coder_7d493 : ByteArray := prog_23_method_152_code
def yJ0_coder_7d493 : MethodName := ⟨RJ0, "coder", "()B"⟩
abbrev cJ0_isLatin1_aae02 : ByteArray := prog_23_method_154_code
def yJ0_isLatin1_aae02 : MethodName := ⟨RJ0, "isLatin1", "()Z"⟩
abbrev cJ0_checkIndex_df160 : ByteArray := prog_23_method_155_code
def yJ0_checkIndex_df160 : MethodName := ⟨RJ0, "checkIndex", "(II)V"⟩
def RJ1 : String := "java/lang/StringLatin1"
def TJ1 : u_T := fun k => match k with
  | _ => ("", "", "", false)
def tyJ1 : Nat → FieldType := fun k => match k with
  | _ => .int
theorem nmJ1 : ∀ a, a < 0 → ∀ b, b < 0 → a ≠ b → (TJ1 a).2.1 ≠ (TJ1 b).2.1 := by decide +kernel
theorem tyJ1_ok : ∀ k, k < 0 → parseFieldDescriptor (TJ1 k).2.2.1 = some (tyJ1 k) := by decide +kernel
abbrev cJ1_charAt_3b067 : ByteArray := prog_24_method_2_code
def yJ1_charAt_3b067 : MethodName := ⟨RJ1, "charAt", "([BI)C"⟩
def RJ2 : String := "java/lang/StringUTF16"
def TJ2 : u_T := fun k => match k with
  | _ => ("", "", "", false)
def tyJ2 : Nat → FieldType := fun k => match k with
  | _ => .int
theorem nmJ2 : ∀ a, a < 0 → ∀ b, b < 0 → a ≠ b → (TJ2 a).2.1 ≠ (TJ2 b).2.1 := by decide +kernel
theorem tyJ2_ok : ∀ k, k < 0 → parseFieldDescriptor (TJ2 k).2.2.1 = some (tyJ2 k) := by decide +kernel
def RJxfd54e : String := "java/lang/constant/Constable"
def TJxfd54e : u_T := fun k => match k with
  | _ => ("", "", "", false)
def tyJxfd54e : Nat → FieldType := fun k => match k with
  | _ => .int
theorem nmJxfd54e : ∀ a, a < 0 → ∀ b, b < 0 → a ≠ b → (TJxfd54e a).2.1 ≠ (TJxfd54e b).2.1 := by decide +kernel
theorem tyJxfd54e_ok : ∀ k, k < 0 → parseFieldDescriptor (TJxfd54e k).2.2.1 = some (tyJxfd54e k) := by decide +kernel
def RJx3cf43 : String := "java/lang/constant/ConstantDesc"
def TJx3cf43 : u_T := fun k => match k with
  | _ => ("", "", "", false)
def tyJx3cf43 : Nat → FieldType := fun k => match k with
  | _ => .int
theorem nmJx3cf43 : ∀ a, a < 0 → ∀ b, b < 0 → a ≠ b → (TJx3cf43 a).2.1 ≠ (TJx3cf43 b).2.1 := by decide +kernel
theorem tyJx3cf43_ok : ∀ k, k < 0 → parseFieldDescriptor (TJx3cf43 k).2.2.1 = some (tyJx3cf43 k) := by decide +kernel
def RJ3 : String := "jdk/internal/util/Preconditions"
def TJ3 : u_T := fun k => match k with
  | _ => ("", "", "", false)
def tyJ3 : Nat → FieldType := fun k => match k with
  | _ => .int
theorem nmJ3 : ∀ a, a < 0 → ∀ b, b < 0 → a ≠ b → (TJ3 a).2.1 ≠ (TJ3 b).2.1 := by decide +kernel
theorem tyJ3_ok : ∀ k, k < 0 → parseFieldDescriptor (TJ3 k).2.2.1 = some (tyJ3 k) := by decide +kernel
abbrev cJ3_checkIndex_8e157 : ByteArray := prog_30_method_11_code
def yJ3_checkIndex_8e157 : MethodName := ⟨RJ3, "checkIndex", "(IILjava/util/function/BiFunction;)I"⟩
def RL : String := "SagGatesLaw"
abbrev cL_look : ByteArray := method_3_code
def yL_look : MethodName := ⟨RL, "look", "(LSagGates;II[J)I"⟩
abbrev cL_law : ByteArray := code
def yL_law : MethodName := ⟨RL, "law", "([I)Z"⟩
abbrev vwCl : List vw_C := [(RX0, TX0, 8), (RX1, TX1, 17), (RX2, TX2, 5), (RX3, TX3, 11), (RX4, TX4, 20), (RX5, TX5, 6), (RX6, TX6, 7), (RX7, TX7, 17), (RX8, TX8, 3), (RX9, TX9, 4), (RX10, TX10, 3), (RX11, TX11, 16), (RX12, TX12, 69)]
end
section
/-! ===== an evaluator of bytecode over intervals: abstract values, cells, frames; what it says of the machine is proved in the next parts ===== -/
abbrev av_V : Type := Option Nat ⊕ ((Int × Int) ⊕ ((Int × Int) ⊕ Nat))
abbrev av_C : Type := (Nat × List av_V) ⊕ (Nat × List av_V)
abbrev av_H : Type := List av_C
abbrev av_Q : Type := Nat × Instr × Nat × Nat × Nat × Int
abbrev av_L : Type := List (Nat × av_V)
abbrev av_S : Type := Nat × av_L × List av_V × av_H × Nat × Nat
abbrev av_M : Type := (String × MethodName × ByteArray × Nat × Option FieldType) × List av_Q × Nat × Nat × Nat × Nat
abbrev av_i (a : Int × Int) : av_V := .inr (.inl a)
abbrev av_l (a : Int × Int) : av_V := .inr (.inr (.inl a))
abbrev av_r (k : Nat) : av_V := .inl (some k)
abbrev av_s (j : Nat) : av_V := .inr (.inr (.inr j))
def av_top : Int × Int := (-2147483648, 2147483647)
def av_c (x : Int32) : av_V := av_i (x.toInt, x.toInt)
def av_b2 (f : Int32 → Int32 → Int32) (a b : Int × Int) : Int × Int :=
  bif decide (a.1 = a.2) && decide (b.1 = b.2) then ((f (Int32.ofInt a.1) (Int32.ofInt b.1)).toInt, (f (Int32.ofInt a.1) (Int32.ofInt b.1)).toInt) else av_top
def av_u1 (f : Int32 → Int32) (a : Int × Int) : Int × Int :=
  bif decide (a.1 = a.2) then ((f (Int32.ofInt a.1)).toInt, (f (Int32.ofInt a.1)).toInt) else av_top
def av_mul (a b : Int × Int) : Int × Int :=
  bif decide (b.1 = b.2) && (decide (0 ≤ a.1) && (decide (0 ≤ b.1) && (decide (a.1 < a.2) && decide (a.2 * b.1 ≤ 2147483647)))) then (a.1 * b.1, a.2 * b.1) else av_b2 (fun x y => x * y) a b
def av_div (a b : Int × Int) : Option (Int × Int) :=
  bif decide (b.1 = b.2) && (decide (0 < b.1) && (decide (0 ≤ a.1) && decide (a.1 < a.2))) then some (0, a.2) else
  bif decide (b.1 = b.2) && (decide (a.1 = a.2) && !decide (b.1 = 0)) then some (av_b2 (fun x y => x / y) a b) else none
def av_rem (a b : Int × Int) : Option (Int × Int) :=
  bif decide (b.1 = b.2) && (decide (0 < b.1) && (decide (0 ≤ a.1) && decide (a.1 < a.2))) then some (0, b.1 - 1) else
  bif decide (b.1 = b.2) && (decide (a.1 = a.2) && !decide (b.1 = 0)) then some (av_b2 (fun x y => x - x / y * y) a b) else none
/-- binary operations on ints -/
def av_bin (q : Instr) : Option ((Int × Int) → (Int × Int) → Option (Int × Int)) := match q with
  | .iadd => some fun a b => some (av_b2 (fun x y => x + y) a b)
  | .isub => some fun a b => some (av_b2 (fun x y => x - y) a b)
  | .imul => some fun a b => some (av_mul a b)
  | .iand => some fun a b => some (av_b2 (fun x y => x &&& y) a b)
  | .ior => some fun a b => some (av_b2 (fun x y => x ||| y) a b)
  | .ishl => some fun a b => some (av_b2 (fun x y => x <<< (y &&& 31)) a b)
  | .ishr => some fun a b => some (av_b2 (fun x y => x >>> (y &&& 31)) a b)
  | .iushr => some fun a b => some (av_b2 (fun x y => (x.toUInt32 >>> (y.toUInt32 &&& Int32.toUInt32 31)).toInt32) a b)
  | .idiv => some av_div
  | .irem => some av_rem
  | _ => none
/-- what is pushed -/
def av_push (q : av_Q) : Option av_V := match q.2.1 with
  | .iconst n => some (av_c (Int32.ofInt n))
  | .bipush n => some (av_c (Int8.ofInt n).toInt32)
  | .sipush n => some (av_c (Int16.ofInt n).toInt32)
  | .ldc _ => some (bif q.2.2.2.1 == 0 then av_c (Int32.ofInt q.2.2.2.2.2) else av_s 0)
  | .ldc_w _ => some (av_c (Int32.ofInt q.2.2.2.2.2))
  | .ldc2_w _ => some (av_l ((Int64.ofInt q.2.2.2.2.2).toInt, (Int64.ofInt q.2.2.2.2.2).toInt))
  | .getstatic _ => some (bif q.2.2.2.1 == 0 then av_c 1 else av_s 3)
  | _ => none
def av_load (q : Instr) : Option (Nat × Nat) := match q with
  | .iload_n k => some (k.val, 1)
  | .iload k => some (k, 1)
  | .aload_n k => some (k.val, 2)
  | .aload k => some (k, 2)
  | _ => none
/-- 1: the local i gets an int; 2: a reference -/
def av_store (q : Instr) : Option (Nat × Nat) := match q with
  | .istore_n k => some (k.val, 1)
  | .istore k => some (k, 1)
  | .astore_n k => some (k.val, 2)
  | .astore k => some (k, 2)
  | _ => none
def av_isI : av_V → Bool
  | .inr (.inl _) => true
  | _ => false
def av_isL : av_V → Bool
  | .inr (.inr (.inl _)) => true
  | _ => false
def av_isR : av_V → Bool
  | .inl (some _) => true
  | _ => false
def av_isA : av_V → Bool
  | .inl _ => true
  | .inr (.inr (.inr _)) => true
  | _ => false
def av_get (L : av_L) (i : Nat) : Option av_V := (L.find? (fun q => q.1 == i)).map Prod.snd
def av_set (L : av_L) (i : Nat) (v : av_V) : av_L := (i, v) :: L.filter (fun q => !(q.1 == i) && !(q.1 + 1 == i && av_isL q.2))
/-- always, never, or not known -/
def av_lt (a b : Int × Int) : Option Bool := bif decide (a.2 < b.1) then some true else bif decide (b.2 ≤ a.1) then some false else none
def av_eq (a b : Int × Int) : Option Bool := bif decide (a.1 = a.2) && (decide (b.1 = b.2) && decide (a.1 = b.1)) then some true else bif decide (a.2 < b.1) || decide (b.2 < a.1) then some false else none
def av_cmp (c : Jvm.ClassFile.Cond) (a b : Int × Int) : Option Bool := match c with
  | .lt => av_lt a b
  | .ge => (av_lt a b).map not
  | .gt => av_lt b a
  | .le => (av_lt b a).map not
  | .eq => av_eq a b
  | .ne => (av_eq a b).map not
def av_tgt (pc : Nat) (off : Int) : Nat := ((pc : Int) + off).toNat
def av_jmp (pc : Nat) (off : Int) : Bool := decide (((pc : Int) + off) = ((((pc : Int) + off).toNat : Nat) : Int))
def av_br (r : Option Bool) (t f : av_S) : List av_S := match r with
  | some true => [t]
  | some false => [f]
  | none => [t, f]
/-- does the value fit a place of this kind: 0 int, 1 byte, 2 boolean, 3 long, 4 and on references -/
def av_fit (t : Nat) (v : av_V) : Bool := match t, v with
  | 0, .inr (.inl _) => true
  | 1, .inr (.inl a) => decide (-128 ≤ a.1) && decide (a.2 ≤ 127)
  | 2, .inr (.inl a) => decide (0 ≤ a.1) && decide (a.2 ≤ 1)
  | 3, .inr (.inr (.inl _)) => true
  | 4, .inl _ => true
  | _, _ => false
/-- the hull of intervals -/
def av_hull : List av_V → Option (Int × Int)
  | [] => some (2147483647, -2147483648)
  | x :: l => match x, av_hull l with
    | .inr (.inl a), some b => some (bif decide (a.1 ≤ b.1) then a.1 else b.1, bif decide (a.2 ≤ b.2) then b.2 else a.2)
    | _, _ => none
/-- reading an array's element: kind t is wanted -/
def av_rd (xs : List av_V) (i : Int × Int) : Option av_V :=
  bif decide (0 ≤ i.1) && decide (i.2 < (xs.length : Int)) then
    bif decide (i.1 = i.2) then xs[i.1.toNat]? else (av_hull ((xs.drop i.1.toNat).take ((i.2 - i.1).toNat + 1))).map av_i
  else none
def av_dfl (t : Nat) : av_V := match t with
  | 3 => av_l (0, 0)
  | 4 => .inl none
  | 5 => .inl none
  | _ => av_i (0, 0)
/-- what an array's element may be: 0 int, 1 byte, 2 boolean, 3 long, 4 and 5 references -/
def av_ldk (q : Instr) : Option Nat := match q with
  | .iaload => some 0
  | .baload => some 1
  | .laload => some 3
  | .aaload => some 4
  | _ => none
def av_stk (q : Instr) : Option Nat := match q with
  | .iastore => some 0
  | .bastore => some 1
  | .aastore => some 4
  | _ => none
/-- static rows: the bytes of the text (1) and the script (2) -/
abbrev av_X : Type := List av_V × Option (List av_V)
def av_row (X : av_X) (j : Nat) : Option (List av_V) := match j with
  | 1 => some X.1
  | 2 => X.2
  | _ => none
/-- the kinds of the fields of a class's objects -/
abbrev av_F : Type := List (List Nat)
def av_one (X : av_X) (F : av_F) (q : av_Q) (S : av_S) : Option (List av_S) :=
  let pc := S.1
  let L := S.2.1
  let st := S.2.2.1
  let h := S.2.2.2.1
  let c := S.2.2.2.2.1
  let n := S.2.2.2.2.2
  let nx := pc + q.2.2.1
  match av_push q with
  | some v => some [(nx, L, v :: st, h, c, n)]
  | none =>
  match av_load q.2.1 with
  | some (i, k) => match av_get L i with
    | some v => bif (bif k == 1 then av_isI v else av_isA v) then some [(nx, L, v :: st, h, c, n)] else none
    | none => none
  | none =>
  match av_store q.2.1 with
  | some (i, k) => match st with
    | v :: st => bif (bif k == 1 then av_isI v else av_isR v) then some [(nx, av_set L i v, st, h, c, n)] else none
    | _ => none
  | none =>
  match av_bin q.2.1 with
  | some f => match st with
    | .inr (.inl b) :: .inr (.inl a) :: st => (f a b).map fun r => [(nx, L, av_i r :: st, h, c, n)]
    | _ => none
  | none =>
  match av_ldk q.2.1 with
  | some t => match st with
    | .inr (.inl i) :: .inl (some k) :: st => match h[k]? with
      | some (.inl (t', xs)) => bif t' == t || (t == 1 && t' == 2) || (t == 4 && t' == 5) then (av_rd xs i).map fun v => [(nx, L, v :: st, h, c, n)] else none
      | _ => none
    | .inr (.inl i) :: .inr (.inr (.inr j)) :: st => match av_row X j with
      | some xs => bif t + j == 2 then (av_rd xs i).map fun v => [(nx, L, v :: st, h, c, n)] else none
      | none => none
    | _ => none
  | none =>
  match av_stk q.2.1 with
  | some t => match st with
    | v :: .inr (.inl i) :: .inl (some k) :: st => match h[k]? with
      | some (.inl (t', xs)) => bif (t' == t || (t == 1 && t' == 2) || (t == 4 && t' == 5)) && (decide (i.1 = i.2) && (decide (0 ≤ i.1) && (decide (i.1 < (xs.length : Int)) && bif t == 4 then (match v with
          | .inl (some j) => match h[j]? with
            | some (.inr (ci, _)) => ci == (bif t' == 4 then 1 else 7)
            | _ => false
          | _ => false) else av_fit t' v)))
          then some [(nx, L, st, h.set k (.inl (t', xs.set i.1.toNat v)), c, n)] else none
      | _ => none
    | _ => none
  | none =>
  match q.2.1 with
  | .getfield _ => match st with
    | .inl (some k) :: st => match h[k]? with
      | some (.inr (ci, fs)) => bif ci == q.2.2.2.1 then (fs[q.2.2.2.2.1]?).map fun v => [(nx, L, v :: st, h, c, n)] else none
      | _ => none
    | .inr (.inr (.inr 0)) :: st => bif q.2.2.2.1 == 100 then some [(nx, L, (bif q.2.2.2.2.1 == 0 then av_s 1 else av_c 0) :: st, h, c, n)] else none
    | _ => none
  | .putfield _ => match st with
    | v :: .inl (some k) :: st => match h[k]? with
      | some (.inr (ci, fs)) => bif ci == q.2.2.2.1 && (decide (q.2.2.2.2.1 < fs.length) && av_fit q.2.2.2.2.2.toNat v) then some [(nx, L, st, h.set k (.inr (ci, fs.set q.2.2.2.2.1 v)), c, n)] else none
      | _ => none
    | _ => none
  | .iinc i z => match av_get L i with
    | some (.inr (.inl a)) => some [(nx, av_set L i (av_i (av_b2 (fun x y => x + y) a (z, z))), st, h, c, n)]
    | _ => none
  | .goto off => bif av_jmp pc off then some [(av_tgt pc off, L, st, h, c, n)] else none
  | .if_icmp o off => match st with
    | .inr (.inl b) :: .inr (.inl a) :: st => bif av_jmp pc off then some (av_br (av_cmp o a b) (av_tgt pc off, L, st, h, c, n) (nx, L, st, h, c, n)) else none
    | _ => none
  | .ifCond o off => match st with
    | .inr (.inl a) :: st => bif av_jmp pc off then some (av_br (av_cmp o a (0, 0)) (av_tgt pc off, L, st, h, c, n) (nx, L, st, h, c, n)) else none
    | _ => none
  | .dup => match st with
    | v :: st => bif !av_isL v then some [(nx, L, v :: v :: st, h, c, n)] else none
    | _ => none
  | .pop => match st with
    | v :: st => bif !av_isL v then some [(nx, L, st, h, c, n)] else none
    | _ => none
  | .dup2 => match st with
    | v :: w :: st => bif !av_isL v && !av_isL w then some [(nx, L, v :: w :: v :: w :: st, h, c, n)] else none
    | _ => none
  | .arraylength => match st with
    | .inl (some k) :: st => match h[k]? with
      | some (.inl (_, xs)) => some [(nx, L, av_c (Int32.ofNat xs.length) :: st, h, c, n)]
      | _ => none
    | .inr (.inr (.inr j)) :: st => (av_row X j).map fun xs => [(nx, L, av_c (Int32.ofNat xs.length) :: st, h, c, n)]
    | _ => none
  | .i2c => match st with
    | .inr (.inl a) :: st => some [(nx, L, av_i (av_u1 (fun x => (x.toUInt32 % 65536).toInt32) a) :: st, h, c, n)]
    | _ => none
  | .i2b => match st with
    | .inr (.inl a) :: st => some [(nx, L, av_i (bif decide (a.1 = a.2) then av_u1 (fun x => x.toInt8.toInt32) a else (-128, 127)) :: st, h, c, n)]
    | _ => none
  | .lcmp => match st with
    | .inr (.inr (.inl b)) :: .inr (.inr (.inl a)) :: st => bif decide (a.1 = a.2) && (decide (b.1 = b.2) && decide (a.1 = b.1)) then some [(nx, L, av_c 0 :: st, h, c, n)] else none
    | _ => none
  | .tableswitch d lo hi offs => match st with
    | .inr (.inl a) :: st => bif decide (a.2 < lo) || decide (hi < a.1) then (bif av_jmp pc d then some [(av_tgt pc d, L, st, h, c, n)] else none) else
      bif decide (a.1 = a.2) && (decide (lo ≤ a.1) && decide (a.1 ≤ hi)) then (match offs[(a.1 - lo).toNat]? with
        | some off => bif av_jmp pc off then some [(av_tgt pc off, L, st, h, c, n)] else none
        | none => none) else none
    | _ => none
  | _ => none
/-- what makes cells -/
def av_mk (mc ms : Nat) (F : av_F) (q : av_Q) (S : av_S) : Option av_S :=
  let pc := S.1
  let L := S.2.1
  let st := S.2.2.1
  let h := S.2.2.2.1
  let c := S.2.2.2.2.1
  let n := S.2.2.2.2.2
  let nx := pc + q.2.2.1
  match q.2.1 with
  | .new _ => match F[q.2.2.2.1]? with
    | some ks => bif decide (c + 1 ≤ mc) && decide (n + ks.length ≤ ms) then some (nx, L, av_r h.length :: st, h ++ [.inr (q.2.2.2.1, ks.map av_dfl)], c + 1, n + ks.length) else none
    | none => none
  | .newarray _ => match st with
    | .inr (.inl a) :: st => bif decide (a.1 = a.2) && (decide (0 ≤ a.1) && (decide (a.1 ≤ 10000) && (decide (q.2.2.2.1 ≤ 3) && (decide (c + 1 ≤ mc) && decide (n + a.1.toNat ≤ ms))))) then
        some (nx, L, av_r h.length :: st, h ++ [.inl (q.2.2.2.1, List.replicate a.1.toNat (av_dfl q.2.2.2.1))], c + 1, n + a.1.toNat) else none
    | _ => none
  | .anewarray _ => match st with
    | .inr (.inl a) :: st => bif decide (a.1 = a.2) && (decide (0 ≤ a.1) && (decide (a.1 ≤ 10000) && ((q.2.2.2.1 == 4 || q.2.2.2.1 == 5) && (decide (c + 1 ≤ mc) && decide (n + a.1.toNat ≤ ms))))) then
        some (nx, L, av_r h.length :: st, h ++ [.inl (q.2.2.2.1, List.replicate a.1.toNat (.inl none))], c + 1, n + a.1.toNat) else none
    | _ => none
  | _ => none
def av_all {α β : Type} (f : α → Option (List β)) : List α → Option (List β)
  | [] => some []
  | x :: l => match f x with
    | none => none
    | some a => match av_all f l with
      | none => none
      | some b => some (a ++ b)
def av_from (pc : Nat) : List av_Q → List av_Q
  | [] => []
  | q :: l => bif q.1 == pc then q :: l else av_from pc l
def av_ent (i : Nat) : List av_V → av_L
  | [] => []
  | v :: l => (i, v) :: av_ent (i + 1) l
def av_wid (st : List av_V) : Nat := (st.map fun v => bif av_isL v then 2 else 1).sum
/-- a callee's room within the caller's -/
def av_fits (M M' : av_M) (c n na : Nat) (rest : List av_V) : Bool :=
  decide (na ≤ M'.1.2.2.2.1) && (  decide (c + M'.2.2.1 ≤ M.2.2.1) && (decide (n + M'.2.2.2.1 ≤ M.2.2.2.1) && (decide (M'.2.2.2.2.1 + 1 ≤ M.2.2.2.2.1) && (decide (8 + (M'.1.2.2.2.1 + 11) + M'.2.2.2.2.2 ≤ M.2.2.2.2.2) && decide (av_wid rest ≤ 8)))))
/-- the call's callee, its arguments, the rest of the stack; 0 virtual, 1 special, 2 static -/
def av_call (q : av_Q) (S : av_S) : Option (Nat × List av_V × List av_V) :=
  let st := S.2.2.1
  let h := S.2.2.2.1
  let np := q.2.2.2.2.1
  bif decide (np ≤ st.length) && (st.take np).all (fun v => !av_isL v) then
    match q.2.1 with
    | .invokestatic _ => some (q.2.2.2.1, (st.take np).reverse, st.drop np)
    | .invokevirtual _ => match st.drop np with
      | .inl (some k) :: rest => match h[k]? with
        | some (.inr (ci, _)) => bif ci == q.2.2.2.2.2.toNat then some (q.2.2.2.1, av_r k :: (st.take np).reverse, rest) else none
        | _ => none
      | .inr (.inr (.inr 0)) :: rest => bif q.2.2.2.2.2.toNat == 100 then some (q.2.2.2.1, av_s 0 :: (st.take np).reverse, rest) else none
      | _ => none
    | .invokespecial _ => match st.drop np with
      | .inl (some k) :: rest => some (q.2.2.2.1, av_r k :: (st.take np).reverse, rest)
      | _ => none
    | _ => none
  else none
/-- a return: what is returned -/
def av_ret (M : av_M) (q : av_Q) (S : av_S) : Option (Option av_V) :=
  bif decide (S.2.2.2.2.1 ≤ M.2.2.1) && decide (S.2.2.2.2.2 ≤ M.2.2.2.1) then
  match q.2.1, S.2.2.1, M.1.2.2.2.2 with
  | .ireturn, [.inr (.inl a)], some .int => some (some (av_i a))
  | .ireturn, [.inr (.inl a)], some .boolean => bif av_fit 2 (av_i a) then some (some (av_i a)) else none
  | .ireturn, [.inr (.inl a)], some .byte => bif av_fit 1 (av_i a) then some (some (av_i a)) else none
  | .ireturn, [.inr (.inl a)], some .char => bif decide (0 ≤ a.1) && decide (a.2 ≤ 65535) then some (some (av_i a)) else none
  | .lreturn, [.inr (.inr (.inl a))], some .long => some (some (av_l a))
  | .return_, [], none => some none
  | _, _, _ => none
  else none
abbrev av_O : Type := List (Option av_V × av_H)
/-- Object.<init> -/
def av_obj (M : av_M) (q : av_Q) (S : av_S) : Option av_S := match q.2.1 with
  | .invokespecial _ => bif q.2.2.2.1 == 9999 then (match S.2.2.1 with
    | .inl (some _) :: rest => bif decide (1 ≤ M.2.2.2.2.1) && decide (av_wid rest + 12 ≤ M.2.2.2.2.2) then some (S.1 + q.2.2.1, S.2.1, rest, S.2.2.2) else none
    | _ => none) else none
  | .invokestatic _ => bif q.2.2.2.1 == 9001 || q.2.2.2.1 == 9002 then (match S.2.2.1 with
    | .inr (.inl b) :: .inr (.inl a) :: rest => bif decide (1 ≤ M.2.2.2.2.1) && (decide (av_wid rest + 13 ≤ M.2.2.2.2.2) && (decide (S.2.2.2.2.1 ≤ M.2.2.1) && decide (S.2.2.2.2.2 ≤ M.2.2.2.1))) then
        some (S.1 + q.2.2.1, S.2.1, av_i (bif q.2.2.2.1 == 9001 then av_b2 (fun x y => if x < y then y else x) a b else av_b2 (fun x y => if y < x then y else x) a b) :: rest, S.2.2.2) else none
    | _ => none) else none
  | _ => none
noncomputable def av_run (F : av_F) (mt : Nat → av_M) (fuel : Nat) : av_X → Nat → List av_Q → av_S → Option av_O :=
  Nat.rec (motive := fun _ => av_X → Nat → List av_Q → av_S → Option av_O) (fun _ _ _ _ => none) (fun _ ih X mi sfx S =>
    match sfx with
    | [] => none
    | q :: rest =>
      bif q.1 == S.1 then
        match av_one X F q S with
        | some ss => av_all (fun S' => ih X mi (bif S'.1 == S.1 + q.2.2.1 then rest else av_from S'.1 (mt mi).2.1) S') ss
        | none =>
        match av_mk (mt mi).2.2.1 (mt mi).2.2.2.1 F q S with
        | some S' => ih X mi rest S'
        | none =>
        match av_obj (mt mi) q S with
        | some S' => ih X mi rest S'
        | none =>
        match av_call q S with
        | some (j, args, stk) =>
          bif av_fits (mt mi) (mt j) S.2.2.2.2.1 S.2.2.2.2.2 args.length stk then
            match ih (X.1, none) j (mt j).2.1 (0, av_ent 0 args, [], S.2.2.2.1, 0, 0) with
            | some outs => av_all (fun (o : Option av_V × av_H) => ih X mi rest (S.1 + q.2.2.1, S.2.1, o.1.toList ++ stk, o.2, S.2.2.2.2.1 + (mt j).2.2.1, S.2.2.2.2.2 + (mt j).2.2.2.1)) outs
            | none => none
          else none
        | none =>
        match av_ret (mt mi) q S with
        | some r => some [(r, S.2.2.2.1)]
        | none => none
      else none) fuel
end
section
/-! ===== what the abstract values, cells and frames say of the machine's ===== -/
def av_dn (sv : Nat → Value) (as : List Nat) (v : av_V) (x : Value) : Prop := match v with
  | .inl none => x = .null
  | .inl (some k) => ∃ a : Nat, as[k]? = some a ∧ x = .ref a
  | .inr (.inl a) => ∃ n : Int32, x = .int n ∧ a.1 ≤ n.toInt ∧ n.toInt ≤ a.2
  | .inr (.inr (.inl a)) => ∃ n : Int64, x = .long n ∧ a.1 ≤ n.toInt ∧ n.toInt ≤ a.2
  | .inr (.inr (.inr j)) => x = sv j
theorem av_pre {as as' : List Nat} (h : as <+: as') {k a : Nat} (hk : as[k]? = some a) : as'[k]? = some a := by
  obtain ⟨t, rfl⟩ := h
  rw [List.getElem?_append_left (List.getElem?_eq_some_iff.mp hk).1]
  exact hk
theorem av_dn_up {sv : Nat → Value} {as as' : List Nat} (h : as <+: as') {v : av_V} {x : Value} (hd : av_dn sv as v x) : av_dn sv as' v x := by
  match v, hd with
  | .inl none, hd => exact hd
  | .inl (some k), ⟨a, h1, h2⟩ => exact ⟨a, av_pre h h1, h2⟩
  | .inr (.inl a), hd => exact hd
  | .inr (.inr (.inl a)), hd => exact hd
  | .inr (.inr (.inr j)), hd => exact hd
theorem av_dn_c {sv : Nat → Value} {as : List Nat} (x : Int32) : av_dn sv as (av_c x) (.int x) := ⟨x, rfl, Int.le_refl _, Int.le_refl _⟩
def av_relS (sv : Nat → Value) (as : List Nat) : List av_V → List Value → Prop
  | [], [] => True
  | v :: l, x :: r => av_dn sv as v x ∧ av_relS sv as l r
  | _, _ => False
theorem av_relS_up {sv : Nat → Value} {as as' : List Nat} (h : as <+: as') : ∀ {l : List av_V} {r : List Value}, av_relS sv as l r → av_relS sv as' l r
  | [], [], _ => trivial
  | _ :: _, _ :: _, ⟨h1, h2⟩ => ⟨av_dn_up h h1, av_relS_up h h2⟩
  | [], _ :: _, hh => hh.elim
  | _ :: _, [], hh => hh.elim
theorem av_relS_cons {sv : Nat → Value} {as : List Nat} {v : av_V} {l : List av_V} {r : List Value} (h : av_relS sv as (v :: l) r) : ∃ x r', r = x :: r' ∧ av_dn sv as v x ∧ av_relS sv as l r' := by
  cases r with
  | nil => exact h.elim
  | cons x r' => exact ⟨x, r', rfl, h.1, h.2⟩
theorem av_relS_nil {sv : Nat → Value} {as : List Nat} {r : List Value} (h : av_relS sv as [] r) : r = [] := by
  cases r with
  | nil => rfl
  | cons x r' => exact h.elim
theorem av_relS_len {sv : Nat → Value} {as : List Nat} : ∀ {l : List av_V} {r : List Value}, av_relS sv as l r → r.length = l.length
  | [], [], _ => rfl
  | _ :: _, _ :: _, ⟨_, h2⟩ => by simp [av_relS_len h2]
  | [], _ :: _, hh => hh.elim
  | _ :: _, [], hh => hh.elim
theorem av_relS_app {sv : Nat → Value} {as : List Nat} : ∀ {l1 l2 : List av_V} {r1 r2 : List Value}, av_relS sv as l1 r1 → av_relS sv as l2 r2 → av_relS sv as (l1 ++ l2) (r1 ++ r2)
  | [], _, [], _, _, h => h
  | _ :: _, _, _ :: _, _, ⟨a, b⟩, h => ⟨a, av_relS_app b h⟩
  | [], _, _ :: _, _, hh, _ => hh.elim
  | _ :: _, _, [], _, hh, _ => hh.elim
theorem av_relS_rev {sv : Nat → Value} {as : List Nat} : ∀ {l : List av_V} {r : List Value}, av_relS sv as l r → av_relS sv as l.reverse r.reverse
  | [], [], _ => trivial
  | v :: l, x :: r, ⟨a, b⟩ => by
    rw [List.reverse_cons, List.reverse_cons]
    exact av_relS_app (av_relS_rev b) ⟨a, trivial⟩
  | [], _ :: _, hh => hh.elim
  | _ :: _, [], hh => hh.elim
theorem av_relS_take {sv : Nat → Value} {as : List Nat} : ∀ (n : Nat) {l : List av_V} {r : List Value}, av_relS sv as l r → av_relS sv as (l.take n) (r.take n)
  | 0, _, _, _ => trivial
  | n + 1, [], [], _ => trivial
  | n + 1, _ :: _, _ :: _, ⟨a, b⟩ => ⟨a, av_relS_take n b⟩
  | _ + 1, [], _ :: _, hh => hh.elim
  | _ + 1, _ :: _, [], hh => hh.elim
theorem av_relS_drop {sv : Nat → Value} {as : List Nat} : ∀ (n : Nat) {l : List av_V} {r : List Value}, av_relS sv as l r → av_relS sv as (l.drop n) (r.drop n)
  | 0, _, _, h => h
  | n + 1, [], [], _ => trivial
  | n + 1, _ :: _, _ :: _, ⟨a, b⟩ => av_relS_drop n b
  | _ + 1, [], _ :: _, hh => hh.elim
  | _ + 1, _ :: _, [], hh => hh.elim
theorem av_cat {sv : Nat → Value} (hsv : ∀ j, sv j = .null ∨ ∃ a, sv j = .ref a) {as : List Nat} {v : av_V} {x : Value} (h : av_dn sv as v x) : x.category = bif av_isL v then 2 else 1 := by
  match v, h with
  | .inl none, h => subst h; rfl
  | .inl (some k), ⟨a, _, h⟩ => subst h; rfl
  | .inr (.inl a), ⟨n, h, _⟩ => subst h; rfl
  | .inr (.inr (.inl a)), ⟨n, h, _⟩ => subst h; rfl
  | .inr (.inr (.inr j)), h =>
    rcases hsv j with h' | ⟨a, h'⟩
    · rw [show x = sv j from h, h']; rfl
    · rw [show x = sv j from h, h']; rfl
theorem av_wid_ok {sv : Nat → Value} (hsv : ∀ j, sv j = .null ∨ ∃ a, sv j = .ref a) {as : List Nat} : ∀ {l : List av_V} {r : List Value}, av_relS sv as l r → (r.map fun v => v.category).sum = av_wid l
  | [], [], _ => rfl
  | v :: l, x :: r, ⟨a, b⟩ => by
    have h1 := av_wid_ok hsv b
    have h2 := av_cat hsv a
    simp only [av_wid, List.map_cons, List.sum_cons] at h1 ⊢
    rw [h1, h2]
  | [], _ :: _, hh => hh.elim
  | _ :: _, [], hh => hh.elim
/-- locals -/
def av_relL (sv : Nat → Value) (as : List Nat) (nL : Nat) (L : av_L) (ls : Array Slot) : Prop := ∃ lv : List (Nat × Value), lv_has ls nL lv ∧ ∀ q ∈ L, ∃ x, av_dn sv as q.2 x ∧ (q.1, x) ∈ lv
theorem av_relL_up {sv : Nat → Value} {as as' : List Nat} (h : as <+: as') {nL : Nat} {L : av_L} {ls : Array Slot} (hl : av_relL sv as nL L ls) : av_relL sv as' nL L ls := by
  obtain ⟨lv, h1, h2⟩ := hl
  exact ⟨lv, h1, fun q hq => by obtain ⟨x, a, b⟩ := h2 q hq; exact ⟨x, av_dn_up h a, b⟩⟩
theorem av_get_mem {L : av_L} {i : Nat} {v : av_V} (h : av_get L i = some v) : (i, v) ∈ L := by
  unfold av_get at h
  cases hf : L.find? (fun q => q.1 == i) with
  | none => rw [hf] at h; cases h
  | some q =>
    rw [hf] at h
    cases h
    have h1 := List.find?_some hf
    have h2 : q.1 = i := by simpa using h1
    have h3 := List.mem_of_find?_eq_some hf
    rw [← h2]
    exact h3
theorem av_relL_get {sv : Nat → Value} {as : List Nat} {nL : Nat} {L : av_L} {ls : Array Slot} (hl : av_relL sv as nL L ls) {i : Nat} {v : av_V} (h : av_get L i = some v) : ∃ x, av_dn sv as v x ∧ ls[i]? = some (.val x) := by
  obtain ⟨lv, h1, h2⟩ := hl
  obtain ⟨x, a, b⟩ := h2 _ (av_get_mem h)
  exact ⟨x, a, h1.2.2 _ b⟩
theorem av_relL_set {sv : Nat → Value} (hsv : ∀ j, sv j = .null ∨ ∃ a, sv j = .ref a) {as : List Nat} {L : av_L} {lv : List (Nat × Value)} (h2 : ∀ q ∈ L, ∃ x, av_dn sv as q.2 x ∧ (q.1, x) ∈ lv) {nL i : Nat} {v : av_V} {x : Value} (hd : av_dn sv as v x) {ls' : Array Slot}
    (h : lv_has ls' nL ((i, x) :: lv.filter (fun q => !(q.1 == i) && !(q.1 + 1 == i && q.2.category == 2)))) : av_relL sv as nL (av_set L i v) ls' := by
  refine ⟨_, h, fun q hq => ?_⟩
  rcases List.mem_cons.mp hq with rfl | hq
  · exact ⟨x, hd, List.mem_cons_self⟩
  · obtain ⟨hq1, hq2⟩ := List.mem_filter.mp hq
    obtain ⟨y, a, b⟩ := h2 q hq1
    refine ⟨y, a, List.mem_cons_of_mem _ (List.mem_filter.mpr ⟨b, ?_⟩)⟩
    have hc := av_cat hsv a
    dsimp only at hq2 ⊢
    rw [hc]
    cases hL : av_isL q.2 with
    | true => rw [hL] at hq2; simpa using hq2
    | false => rw [hL] at hq2; simpa using hq2
/-- cells -/
def av_relE (cy : Nat → ClassId) (sv : Nat → Value) (as : List Nat) (c : av_C) (e : va_E) : Prop := match c with
  | .inr (ci, xs) => ∃ fs : List Value, e = .inr (ci, fs) ∧ fs.length = xs.length ∧ ∀ (k : Nat) (v : av_V), xs[k]? = some v → ∃ x, fs[k]? = some x ∧ av_dn sv as v x
  | .inl (t, xs) => (t ≤ 2 ∧ ∃ f : Nat → Int32, e = .inl (cy t, xs.length, .inl f) ∧ ∀ (k : Nat) (v : av_V), xs[k]? = some v → av_dn sv as v (.int (f k))) ∨
      (t = 3 ∧ ∃ f : Nat → Int64, e = .inl (cy t, xs.length, .inr (.inl f)) ∧ ∀ (k : Nat) (v : av_V), xs[k]? = some v → av_dn sv as v (.long (f k))) ∨
      ((t = 4 ∨ t = 5) ∧ ∃ f : Nat → Option Nat, e = .inl (cy t, xs.length, .inr (.inr (.inr (.inr f)))) ∧ ∀ (k : Nat) (v : av_V), xs[k]? = some v → av_dn sv as v (va_rf (f k)))
theorem av_relE_up {cy : Nat → ClassId} {sv : Nat → Value} {as as' : List Nat} (h : as <+: as') {c : av_C} {e : va_E} (hE : av_relE cy sv as c e) : av_relE cy sv as' c e := by
  match c, hE with
  | .inr (ci, xs), ⟨fs, h1, h2, h3⟩ => exact ⟨fs, h1, h2, fun k v hk => by obtain ⟨x, a, b⟩ := h3 k v hk; exact ⟨x, a, av_dn_up h b⟩⟩
  | .inl (t, xs), .inl ⟨h1, f, h2, h3⟩ => exact .inl ⟨h1, f, h2, fun k v hk => av_dn_up h (h3 k v hk)⟩
  | .inl (t, xs), .inr (.inl ⟨h1, f, h2, h3⟩) => exact .inr (.inl ⟨h1, f, h2, fun k v hk => av_dn_up h (h3 k v hk)⟩)
  | .inl (t, xs), .inr (.inr ⟨h1, f, h2, h3⟩) => exact .inr (.inr ⟨h1, f, h2, fun k v hk => av_dn_up h (h3 k v hk)⟩)
def av_relH (cy : Nat → ClassId) (sv : Nat → Value) (as : List Nat) (h : av_H) (ws : va_W) : Prop :=
  as.length = h.length ∧ ws.length = h.length ∧ ∀ (k : Nat) (c : av_C), h[k]? = some c → ∃ (a : Nat) (e : va_E), as[k]? = some a ∧ ws[k]? = some (a, e) ∧ av_relE cy sv as c e
theorem av_relH_set {cy : Nat → ClassId} {sv : Nat → Value} {as : List Nat} {h : av_H} {ws : va_W} (hH : av_relH cy sv as h ws) {k a : Nat} {c : av_C} {e : va_E} (ha : as[k]? = some a) (hE : av_relE cy sv as c e) : av_relH cy sv as (h.set k c) (ws.set k (a, e)) := by
  obtain ⟨h1, h2, h3⟩ := hH
  refine ⟨by simpa using h1, by simpa using h2, fun j c' hj => ?_⟩
  by_cases hjk : k = j
  · subst hjk
    have hlt : k < h.length := by
      have := (List.getElem?_eq_some_iff.mp ha).1
      omega
    rw [List.getElem?_set_self hlt] at hj
    cases hj
    exact ⟨a, e, ha, List.getElem?_set_self (by omega), hE⟩
  · rw [List.getElem?_set_ne hjk] at hj
    obtain ⟨a', e', q1, q2, q3⟩ := h3 j c' hj
    exact ⟨a', e', q1, by rw [List.getElem?_set_ne hjk]; exact q2, q3⟩
theorem av_relH_push {cy : Nat → ClassId} {sv : Nat → Value} {as : List Nat} {h : av_H} {ws : va_W} (hH : av_relH cy sv as h ws) {q : Nat} {c : av_C} {e : va_E} (hE : av_relE cy sv (as ++ [q]) c e) : av_relH cy sv (as ++ [q]) (h ++ [c]) (ws ++ [(q, e)]) := by
  obtain ⟨h1, h2, h3⟩ := hH
  refine ⟨by simp [h1], by simp [h2], fun j c' hj => ?_⟩
  by_cases hjl : j < h.length
  · rw [List.getElem?_append_left hjl] at hj
    obtain ⟨a', e', q1, q2, q3⟩ := h3 j c' hj
    exact ⟨a', e', by rw [List.getElem?_append_left (by omega)]; exact q1, by rw [List.getElem?_append_left (by omega)]; exact q2, av_relE_up (List.prefix_append _ _) q3⟩
  · have hj2 := (List.getElem?_eq_some_iff.mp hj).1
    simp only [List.length_append, List.length_cons, List.length_nil] at hj2
    have hj3 : j = h.length := by omega
    subst hj3
    rw [List.getElem?_append_right (Nat.le_refl _)] at hj
    simp only [Nat.sub_self, List.getElem?_cons_zero, Option.some.injEq] at hj
    subst hj
    exact ⟨q, e, by rw [List.getElem?_append_right (by omega)]; simp [h1], by rw [List.getElem?_append_right (by omega)]; simp [h2], hE⟩
def av_tys (cy : Nat → ClassId) : List (ClassId × FieldType) := [(cy 0, .int), (cy 1, .byte), (cy 2, .boolean), (cy 3, .long), (cy 4, .object "SagGates$Gate"), (cy 5, .object "SagGates$Told")]
end
section
/-! ===== the context of a frame, what an instruction's row says, the goal at an abstract frame ===== -/
def av_wd : String := "ground law gate work cause lean open bend knock hooks post brace latch child gap rise has up down square wire wheel stones rehang pull firm deep thick drop week fall and or not "
/-- the private constructors that the host calls -/
def av_nest : List (Nat × MethodName) := [(36, ⟨"SagGates$Laws", "<init>", "()V"⟩), (72, ⟨"SagGates$Notes", "<init>", "()V"⟩), (91, ⟨"SagGates$Turns", "<init>", "()V"⟩)]
def av_SF (A : Nat → Prop) (sv : Nat → Value) (X : av_X) (U : State) (H : Heap) : Prop :=
  ((∀ j, sv j = .null ∨ ∃ a, sv j = .ref a)) ∧
  (∃ q0 q1 : Nat, sv 0 = .ref q0 ∧ sv 1 = .ref q1 ∧ vk_R RX6 19 av_wd q0 U ∧ va_O "java/lang/String" q0 A U H ∧ va_OF "java/lang/String" "value" "[B" (.ref q1) q0 A U H ∧ va_OF "java/lang/String" "coder" "B" (.int 0) q0 A U H ∧
    ∃ f : Nat → Int32, va_T .byte q1 X.1.length (fun j => .int (f j)) A U H ∧ ∀ (k : Nat) (v : av_V), X.1[k]? = some v → av_dn sv [] v (.int (f k))) ∧
  va_Z "java/lang/String" "COMPACT_STRINGS" "Z" (.int 1) A U H ∧ va_Z "jdk/internal/util/Preconditions" "SIOOBE_FORMATTER" "Ljava/util/function/BiFunction;" (sv 3) A U H ∧
  ((∀ q ∈ av_nest, va_Nw (.methodLinkNest RX11 q.1 q.2 RX11) U) ∧ va_AO "SagGates$Gate" U ∧ va_AO "SagGates$Told" U) ∧
  ∀ xs, X.2 = some xs → ∃ (b : Nat) (f : Nat → Int32), sv 2 = .ref b ∧ va_X b xs.length f U H ∧ b < H.size ∧ ¬ A b ∧ ∀ (k : Nat) (v : av_V), xs[k]? = some v → av_dn sv [] v (.int (f k))
theorem av_SF_call {A : Nat → Prop} {sv : Nat → Value} {X : av_X} {s U : State} {H : Heap} {locs : List Loc} (h : av_SF A sv X s s.heap) (hW : s.WarmedH U.vm) (hU : U.heap = H) (hS : va_S A s.heap H locs) : av_SF A sv (X.1, none) U U.heap := by
  obtain ⟨h0, ⟨q0, q1, a1, a2, a3, a4, a5, a6, f, a7, a8⟩, h2, h3, h4, -⟩ := h
  have hvm := hW.alike
  subst hU
  refine ⟨h0, ⟨q0, q1, a1, a2, a3.warm hW, (a4.moved hvm).kept hS.2.1, (a5.moved hvm).kept hS.2.1, (a6.moved hvm).kept hS.2.1, f, (a7.moved hvm).kept hS.2.1, a8⟩, (h2.moved hvm).kept hS.2.1, (h3.moved hvm).kept hS.2.1, ⟨fun q hq => va_Nw.warmM hW (h4.1 q hq), h4.2.1.moved hvm, h4.2.2.moved hvm⟩, fun xs hx => by cases hx⟩
theorem av_SF_in {A : Nat → Prop} {sv : Nat → Value} {X : av_X} {U : State} (h : av_SF A sv X U U.heap) (g : JFrame) (mk : MethodId) (a : Array Value) : av_SF A sv X (U.calling g mk a) (U.calling g mk a).heap := by
  obtain ⟨h0, ⟨q0, q1, a1, a2, a3, a4, a5, a6, f, a7, a8⟩, h2, h3, h4, h5⟩ := h
  have hvm : U.vm.Alike (U.calling g mk a).vm := Vm.Alike.refl U.vm
  exact ⟨h0, ⟨q0, q1, a1, a2, vk_R.same (u := U) rfl a3, a4.moved hvm, a5.moved hvm, a6.moved hvm, f, a7.moved hvm, a8⟩, h2.moved hvm, h3.moved hvm, ⟨fun q hq => va_Nw.same (u := U) rfl rfl (h4.1 q hq), h4.2.1.moved hvm, h4.2.2.moved hvm⟩, fun xs hx => by
    obtain ⟨b, f, b1, b2, b3⟩ := h5 xs hx
    exact ⟨b, f, b1, b2.moved hvm, b3⟩⟩
def av_Cx (Ts : List Jvm.Cond) (cl : List vw_C) (D : va_G) (cy : Nat → ClassId) (A : Nat → Prop) (sv : Nat → Value) (X : av_X) (M : av_M) (p : Program) (R : Room) (s : State) (m : MethodId) (args : Array Value) (meth : Method) (c : Code) : Prop :=
  p.tables.exec = Jvm.exec ∧ c.code = M.1.2.2.1 ∧ c.maxLocals = M.1.2.2.2.1 ∧ s.vm.findClass M.1.1 = some m.cls ∧ (∀ w ∈ Ts, w.before args s = true) ∧ meth.sig.returnType = M.1.2.2.2.2 ∧ meth.locks = false ∧ meth.name = M.1.2.1.name ∧
  va_K D cl (av_tys cy) s ∧ (∀ q, s.heap.size ≤ q → A q) ∧ av_SF A sv X s s.heap ∧ R.cells = M.2.2.1 ∧ R.slots = M.2.2.2.1 ∧ M.2.2.2.2.1 ≤ R.frames ∧ M.2.2.2.2.2 ≤ R.locals
def av_Good (cl : List vw_C) (D : va_G) (cy : Nat → ClassId) (A : Nat → Prop) (sv : Nat → Value) (as0 : List Nat) (nL : Nat) (p : Program) (l : Launch) (e : Env) (R : Room) (s : State) (m : MethodId) (args : Array Value) (below : List Frame) (meth : Method) (c : Code) (Q : State → Prop) (S : av_S) : Prop :=
  ∀ (as : List Nat) (ws : va_W) (H : Heap) (locs : List Loc) (ls : Array Slot) (stv : List Value), as0 <+: as → av_relH cy sv as S.2.2.2.1 ws → va_P D cl ws H → va_D A ws → va_S A s.heap H locs → av_relL sv as nL S.2.1 ls → av_relS sv as S.2.2.1 stv →
    W p l e R s m args below meth c H locs S.2.2.2.2.1 S.2.2.2.2.2 Q (F0 m S.1 ls stv)
def av_len (q : Instr) : Nat := match q with
  | .bipush _ => 2
  | .sipush _ => 3
  | .ldc _ => 2
  | .ldc_w _ => 3
  | .ldc2_w _ => 3
  | .getstatic _ => 3
  | .iload _ => 2
  | .aload _ => 2
  | .istore _ => 2
  | .astore _ => 2
  | .getfield _ => 3
  | .putfield _ => 3
  | .iinc _ _ => 3
  | .goto _ => 3
  | .if_icmp _ _ => 3
  | .ifCond _ _ => 3
  | .new _ => 3
  | .newarray _ => 2
  | .anewarray _ => 3
  | .invokevirtual _ => 3
  | .invokespecial _ => 3
  | .invokestatic _ => 3
  | _ => 1
def av_lenok (q : av_Q) : Bool := match q.2.1 with
  | .tableswitch _ _ _ _ => true
  | i => q.2.2.1 == av_len i
def av_kd (t : FieldType) : Nat := match t with
  | .int => 0
  | .byte => 1
  | .boolean => 2
  | .long => 3
  | .object _ => 4
  | .array _ => 4
  | _ => 9
def av_ak (t : ArrayType) : Nat := match t with
  | .int => 0
  | .byte => 1
  | .boolean => 2
  | .long => 3
  | _ => 9
def av_lst (k : Nat) : String := bif k == 4 then "SagGates$Gate" else "SagGates$Told"
/-- a callee's own words -/
def av_okM (Ts : List Jvm.Cond) (M : av_M) : Prop :=
  Jvm.Cond.code M.1.2.1 M.1.2.2.1 M.1.2.2.2.1 M.1.2.2.2.2 ∈ Ts ∧ M.1.2.1.cls = M.1.1 ∧ Jvm.Cond.initialized M.1.1 ∈ Ts ∧ plainName M.1.2.1.cls = true ∧ (M.1.2.1.cls ≠ "java/lang/invoke/MethodHandle" ∧ M.1.2.1.cls ≠ "java/lang/invoke/VarHandle")
def av_ok (Ts : List Jvm.Cond) (cl : List vw_C) (mt : Nat → av_M) (M : av_M) (q : av_Q) : Prop :=
  decode M.1.2.2.1 q.1 = .ok (q.2.1, q.2.2.1) ∧ av_lenok q = true ∧ (match q.2.1 with
    | .ldc i => (q.2.2.2.1 = 0 → Jvm.Cond.constant M.1.1 i (Int32.ofInt q.2.2.2.2.2) ∈ Ts) ∧ (¬ q.2.2.2.1 = 0 → M.1.1 = RX6 ∧ i = 19)
    | .ldc_w i => Jvm.Cond.constant M.1.1 i (Int32.ofInt q.2.2.2.2.2) ∈ Ts
    | .ldc2_w i => Jvm.Cond.constantLong M.1.1 i (Int64.ofInt q.2.2.2.2.2) ∈ Ts
    | .getstatic i => (q.2.2.2.1 = 0 → Jvm.Cond.fieldLink M.1.1 i "java/lang/String" "COMPACT_STRINGS" "Z" ∈ Ts) ∧ (¬ q.2.2.2.1 = 0 → Jvm.Cond.fieldLink M.1.1 i "jdk/internal/util/Preconditions" "SIOOBE_FORMATTER" "Ljava/util/function/BiFunction;" ∈ Ts)
    | .getfield i => (q.2.2.2.1 = 100 → (q.2.2.2.2.1 = 0 → Jvm.Cond.fieldLink M.1.1 i "java/lang/String" "value" "[B" ∈ Ts) ∧ (¬ q.2.2.2.2.1 = 0 → Jvm.Cond.fieldLink M.1.1 i "java/lang/String" "coder" "B" ∈ Ts)) ∧
        (¬ q.2.2.2.1 = 100 → ∃ (C : String) (T : u_T) (N : Nat), cl[q.2.2.2.1]? = some (C, T, N) ∧ q.2.2.2.2.1 < N ∧ Jvm.Cond.fieldLink M.1.1 i (T q.2.2.2.2.1).1 (T q.2.2.2.2.1).2.1 (T q.2.2.2.2.1).2.2.1 ∈ Ts)
    | .putfield i => ∃ (C : String) (T : u_T) (N : Nat) (ty : FieldType), cl[q.2.2.2.1]? = some (C, T, N) ∧ q.2.2.2.2.1 < N ∧ Jvm.Cond.fieldLink M.1.1 i (T q.2.2.2.2.1).1 (T q.2.2.2.2.1).2.1 (T q.2.2.2.2.1).2.2.1 ∈ Ts ∧
        parseFieldDescriptor (T q.2.2.2.2.1).2.2.1 = some ty ∧ av_kd ty = q.2.2.2.2.2.toNat ∧ ((T q.2.2.2.2.1).2.2.2 = true → M.1.2.1.name = "<init>" ∧ (T q.2.2.2.2.1).1 = M.1.1)
    | .new i => ∃ (C : String) (T : u_T) (N : Nat), cl[q.2.2.2.1]? = some (C, T, N) ∧ Jvm.Cond.classLink M.1.1 i C ∈ Ts ∧ Jvm.Cond.instantiable C N ∈ Ts ∧ Jvm.Cond.initialized C ∈ Ts
    | .newarray t => Jvm.Cond.arrayClass (newarray.typeOf t) ∈ Ts ∧ av_ak t = q.2.2.2.1
    | .anewarray i => Jvm.Cond.classLink M.1.1 i (av_lst q.2.2.2.1) ∈ Ts
    | .iload_n k => k.val < M.1.2.2.2.1
    | .istore_n k => k.val < M.1.2.2.2.1
    | .istore k => k < M.1.2.2.2.1
    | .astore_n k => k.val < M.1.2.2.2.1
    | .astore k => k < M.1.2.2.2.1
    | .iinc k _ => k < M.1.2.2.2.1
    | .invokespecial i => (q.2.2.2.1 = 9999 → Jvm.Cond.methodLink M.1.1 i Lib.objectInit ∈ Ts ∧ Jvm.Cond.instanceMethod Lib.objectInit ∈ Ts ∧ Jvm.Cond.code Lib.objectInit ⟨#[0xb1]⟩ 1 none ∈ Ts) ∧
        (q.2.2.2.1 < 9000 → av_okM Ts (mt q.2.2.2.1) ∧ (mt q.2.2.2.1).1.2.1.name = "<init>" ∧ (mt q.2.2.2.1).1.2.2.2.2 = none ∧ Jvm.Cond.instanceMethod (mt q.2.2.2.1).1.2.1 ∈ Ts ∧ (parseMethodDescriptor (mt q.2.2.2.1).1.2.1.desc).map (fun d => d.parameters.length) = some q.2.2.2.2.1 ∧
          (Jvm.Cond.methodLink M.1.1 i (mt q.2.2.2.1).1.2.1 ∈ Ts ∨ (M.1.1 = RX11 ∧ (i, (mt q.2.2.2.1).1.2.1) ∈ av_nest)))
    | .invokestatic i => (q.2.2.2.1 = 9001 → Jvm.Cond.methodLink M.1.1 i Lib.Math.max.name ∈ Ts ∧ Jvm.Cond.static Lib.Math.max.name ∈ Ts ∧ Jvm.Cond.initialized "java/lang/Math" ∈ Ts ∧ Jvm.Cond.code Lib.Math.max.name Lib.Math.max.code 2 (some .int) ∈ Ts) ∧
        (q.2.2.2.1 = 9002 → Jvm.Cond.methodLink M.1.1 i Lib.Math.min.name ∈ Ts ∧ Jvm.Cond.static Lib.Math.min.name ∈ Ts ∧ Jvm.Cond.initialized "java/lang/Math" ∈ Ts ∧ Jvm.Cond.code Lib.Math.min.name Lib.Math.min.code 2 (some .int) ∈ Ts) ∧
        (q.2.2.2.1 < 9000 → av_okM Ts (mt q.2.2.2.1) ∧ Jvm.Cond.static (mt q.2.2.2.1).1.2.1 ∈ Ts ∧ (parseMethodDescriptor (mt q.2.2.2.1).1.2.1.desc).map (fun d => d.parameters.length) = some q.2.2.2.2.1 ∧ Jvm.Cond.methodLink M.1.1 i (mt q.2.2.2.1).1.2.1 ∈ Ts)
    | .invokevirtual i => av_okM Ts (mt q.2.2.2.1) ∧ Jvm.Cond.instanceMethod (mt q.2.2.2.1).1.2.1 ∈ Ts ∧ Jvm.Cond.selects (mt q.2.2.2.1).1.1 (mt q.2.2.2.1).1.2.1 (mt q.2.2.2.1).1.2.1 ∈ Ts ∧ (parseMethodDescriptor (mt q.2.2.2.1).1.2.1.desc).map (fun d => d.parameters.length) = some q.2.2.2.2.1 ∧ Jvm.Cond.methodLink M.1.1 i (mt q.2.2.2.1).1.2.1 ∈ Ts ∧
        ((q.2.2.2.2.2.toNat = 100 ∧ (mt q.2.2.2.1).1.1 = "java/lang/String") ∨ ∃ (T : u_T) (N : Nat), cl[q.2.2.2.2.2.toNat]? = some ((mt q.2.2.2.1).1.1, T, N))
    | _ => True)
/-- the classes' tables -/
def av_cls (Ts : List Jvm.Cond) (cl : List vw_C) (F : av_F) : Prop := ∀ (ci : Nat) (C : String) (T : u_T) (N : Nat), cl[ci]? = some (C, T, N) →
  (∀ w ∈ u_ws C T N, w ∈ Ts) ∧ (∀ a, a < N → ∀ b, b < N → a ≠ b → (T a).2.1 ≠ (T b).2.1) ∧ ∃ (ty : Nat → FieldType) (ks : List Nat), (∀ k, k < N → parseFieldDescriptor (T k).2.2.1 = some (ty k)) ∧ F[ci]? = some ks ∧ ks.length = N ∧ ∀ k, k < N → ks[k]? = some (av_kd (ty k)) ∧ av_kd (ty k) ≤ 4 ∧ av_kd (ty k) ≠ 1
/-! the ints -/
theorem av_i32 (n : Int32) : -2147483648 ≤ n.toInt ∧ n.toInt ≤ 2147483647 := by
  have h1 := n.toInt_lt
  have h2 := n.le_toInt
  omega
theorem av_top_ok (n : Int32) : av_top.1 ≤ n.toInt ∧ n.toInt ≤ av_top.2 := av_i32 n
theorem av_one_of {a : Int} {x : Int32} (h1 : a ≤ x.toInt) (h2 : x.toInt ≤ a) : x = Int32.ofInt a := by
  have : a = x.toInt := by omega
  subst this
  exact (Int32.ofInt_toInt x).symm
theorem av_b2_ok (f : Int32 → Int32 → Int32) {a b : Int × Int} {x y : Int32} (hx : a.1 ≤ x.toInt ∧ x.toInt ≤ a.2) (hy : b.1 ≤ y.toInt ∧ y.toInt ≤ b.2) : (av_b2 f a b).1 ≤ (f x y).toInt ∧ (f x y).toInt ≤ (av_b2 f a b).2 := by
  unfold av_b2
  cases hc : (decide (a.1 = a.2) && decide (b.1 = b.2)) with
  | false => exact av_top_ok _
  | true =>
    simp only [Bool.and_eq_true, decide_eq_true_eq] at hc
    have e1 : x = Int32.ofInt a.1 := av_one_of hx.1 (by omega)
    have e2 : y = Int32.ofInt b.1 := av_one_of hy.1 (by omega)
    rw [cond_true, ← e1, ← e2]
    exact ⟨Int.le_refl _, Int.le_refl _⟩
theorem av_u1_ok (f : Int32 → Int32) {a : Int × Int} {x : Int32} (hx : a.1 ≤ x.toInt ∧ x.toInt ≤ a.2) : (av_u1 f a).1 ≤ (f x).toInt ∧ (f x).toInt ≤ (av_u1 f a).2 := by
  unfold av_u1
  cases hc : decide (a.1 = a.2) with
  | false => exact av_top_ok _
  | true =>
    simp only [decide_eq_true_eq] at hc
    have e1 : x = Int32.ofInt a.1 := av_one_of hx.1 (by omega)
    rw [cond_true, ← e1]
    exact ⟨Int.le_refl _, Int.le_refl _⟩
theorem av_nat {x : Int32} (h : 0 ≤ x.toInt) : ∃ j : Nat, j < 2 ^ 31 ∧ x = nI j ∧ x.toInt = j := by
  obtain ⟨j, h1, h2⟩ := nI_of (x := x) (fun q => by rw [Int32.lt_iff_toInt_lt] at q; simp at q; omega)
  exact ⟨j, h1, h2, by rw [h2]; exact nI_toInt h1⟩
theorem av_mul_ok {a b : Int × Int} {x y : Int32} (hx : a.1 ≤ x.toInt ∧ x.toInt ≤ a.2) (hy : b.1 ≤ y.toInt ∧ y.toInt ≤ b.2) : (av_mul a b).1 ≤ (x * y).toInt ∧ (x * y).toInt ≤ (av_mul a b).2 := by
  unfold av_mul
  cases hc : (decide (b.1 = b.2) && (decide (0 ≤ a.1) && (decide (0 ≤ b.1) && (decide (a.1 < a.2) && decide (a.2 * b.1 ≤ 2147483647))))) with
  | false => exact av_b2_ok (fun x y => x * y) hx hy
  | true =>
    simp only [Bool.and_eq_true, decide_eq_true_eq] at hc
    obtain ⟨c1, c2, c3, c4, c5⟩ := hc
    obtain ⟨j, j1, j2, j3⟩ := av_nat (x := x) (by omega)
    obtain ⟨k, k1, k2, k3⟩ := av_nat (x := y) (by omega)
    have hb : b.1 = (k : Int) := by omega
    have h1 : a.1 * b.1 ≤ (j : Int) * k := by rw [hb]; exact Int.mul_le_mul_of_nonneg_right (by omega) (by omega)
    have h2 : (j : Int) * k ≤ a.2 * b.1 := by rw [hb]; exact Int.mul_le_mul_of_nonneg_right (by omega) (by omega)
    have h3 : ((j * k : Nat) : Int) = (j : Int) * k := by push_cast; rfl
    have h4 : j * k < 2 ^ 31 := by omega
    rw [cond_true, j2, k2, pk_mul, nI_toInt h4, h3]
    exact ⟨h1, h2⟩
theorem av_ne0 {b : Int × Int} {y : Int32} (hy : b.1 ≤ y.toInt ∧ y.toInt ≤ b.2) (h : b.1 = b.2) (h0 : ¬ b.1 = 0) : ¬ y = 0 := by
  intro q
  subst q
  simp at hy
  omega
theorem av_div_ok {a b r : Int × Int} {x y : Int32} (hr : av_div a b = some r) (hx : a.1 ≤ x.toInt ∧ x.toInt ≤ a.2) (hy : b.1 ≤ y.toInt ∧ y.toInt ≤ b.2) : ¬ y = 0 ∧ r.1 ≤ (x / y).toInt ∧ (x / y).toInt ≤ r.2 := by
  unfold av_div at hr
  cases hc : (decide (b.1 = b.2) && (decide (0 < b.1) && (decide (0 ≤ a.1) && decide (a.1 < a.2)))) with
  | true =>
    rw [hc, cond_true] at hr
    cases hr
    simp only [Bool.and_eq_true, decide_eq_true_eq] at hc
    obtain ⟨c1, c2, c3, c4⟩ := hc
    obtain ⟨j, j1, j2, j3⟩ := av_nat (x := x) (by omega)
    obtain ⟨k, k1, k2, k3⟩ := av_nat (x := y) (by omega)
    refine ⟨av_ne0 hy c1 (by omega), ?_⟩
    have hd : j / k ≤ j := Nat.div_le_self _ _
    rw [j2, k2, pk_div j1 (by omega) k1]
    generalize j / k = g at hd
    rw [nI_toInt (by omega)]
    dsimp only
    omega
  | false =>
    rw [hc, cond_false] at hr
    cases hc2 : (decide (b.1 = b.2) && (decide (a.1 = a.2) && !decide (b.1 = 0))) with
    | false => rw [hc2] at hr; cases hr
    | true =>
      rw [hc2, cond_true] at hr
      cases hr
      simp only [Bool.and_eq_true, Bool.not_eq_true', decide_eq_true_eq, decide_eq_false_iff_not] at hc2
      exact ⟨av_ne0 hy hc2.1 hc2.2.2, av_b2_ok (fun x y => x / y) hx hy⟩
theorem av_rem_ok {a b r : Int × Int} {x y : Int32} (hr : av_rem a b = some r) (hx : a.1 ≤ x.toInt ∧ x.toInt ≤ a.2) (hy : b.1 ≤ y.toInt ∧ y.toInt ≤ b.2) : ¬ y = 0 ∧ r.1 ≤ (x - x / y * y).toInt ∧ (x - x / y * y).toInt ≤ r.2 := by
  unfold av_rem at hr
  cases hc : (decide (b.1 = b.2) && (decide (0 < b.1) && (decide (0 ≤ a.1) && decide (a.1 < a.2)))) with
  | true =>
    rw [hc, cond_true] at hr
    cases hr
    simp only [Bool.and_eq_true, decide_eq_true_eq] at hc
    obtain ⟨c1, c2, c3, c4⟩ := hc
    obtain ⟨j, j1, j2, j3⟩ := av_nat (x := x) (by omega)
    obtain ⟨k, k1, k2, k3⟩ := av_nat (x := y) (by omega)
    refine ⟨av_ne0 hy c1 (by omega), ?_⟩
    have hd : j % k < k := Nat.mod_lt _ (by omega)
    rw [j2, k2, pk_rem j1 (by omega) k1]
    generalize j % k = g at hd
    rw [nI_toInt (by omega)]
    dsimp only
    omega
  | false =>
    rw [hc, cond_false] at hr
    cases hc2 : (decide (b.1 = b.2) && (decide (a.1 = a.2) && !decide (b.1 = 0))) with
    | false => rw [hc2] at hr; cases hr
    | true =>
      rw [hc2, cond_true] at hr
      cases hr
      simp only [Bool.and_eq_true, Bool.not_eq_true', decide_eq_true_eq, decide_eq_false_iff_not] at hc2
      exact ⟨av_ne0 hy hc2.1 hc2.2.2, av_b2_ok (fun x y => x - x / y * y) hx hy⟩
theorem av_lt_ok {a b : Int × Int} {x y : Int32} (hx : a.1 ≤ x.toInt ∧ x.toInt ≤ a.2) (hy : b.1 ≤ y.toInt ∧ y.toInt ≤ b.2) {r : Bool} (h : av_lt a b = some r) : (x < y ↔ r = true) := by
  unfold av_lt at h
  rw [Int32.lt_iff_toInt_lt]
  cases h1 : decide (a.2 < b.1) with
  | true => rw [h1] at h; cases h; simp at h1; simp; omega
  | false =>
    rw [h1, cond_false] at h
    cases h2 : decide (b.2 ≤ a.1) with
    | true => rw [h2] at h; cases h; simp at h2; simp; omega
    | false => rw [h2] at h; cases h
theorem av_eq_ok {a b : Int × Int} {x y : Int32} (hx : a.1 ≤ x.toInt ∧ x.toInt ≤ a.2) (hy : b.1 ≤ y.toInt ∧ y.toInt ≤ b.2) {r : Bool} (h : av_eq a b = some r) : (x = y ↔ r = true) := by
  unfold av_eq at h
  rw [← Int32.toInt_inj]
  cases h1 : (decide (a.1 = a.2) && (decide (b.1 = b.2) && decide (a.1 = b.1))) with
  | true => rw [h1] at h; cases h; simp at h1; simp; omega
  | false =>
    rw [h1, cond_false] at h
    cases h2 : (decide (a.2 < b.1) || decide (b.2 < a.1)) with
    | true => rw [h2] at h; cases h; simp at h2; simp; omega
    | false => rw [h2] at h; cases h
end
section
/-! ===== the rows of the kit, at abstract frames ===== -/
section AVR
variable {Ts : List Jvm.Cond} {cl : List vw_C} {D : va_G} {cy : Nat → ClassId} {A : Nat → Prop} {sv : Nat → Value} {as0 : List Nat} {X : av_X} {M : av_M} {mt : Nat → av_M} {F : av_F} {p : Program} {l : Launch} {e : Env} {R : Room} {s : State} {m : MethodId} {args : Array Value} {below : List Frame} {meth : Method} {c : Code} {Q : State → Prop}
theorem av_push_ok {pc len a b : Nat} {ins : Instr} {z : Int} {v : av_V} {L : av_L} {st : List av_V} {h : av_H} {cN sN : Nat} (C0 : av_Cx Ts cl D cy A sv X M p R s m args meth c) (ok : av_ok Ts cl mt M (pc, ins, len, a, b, z)) (hv : av_push (pc, ins, len, a, b, z) = some v)
    (k : av_Good cl D cy A sv as0 M.1.2.2.2.1 p l e R s m args below meth c Q (pc + len, L, v :: st, h, cN, sN)) : av_Good cl D cy A sv as0 M.1.2.2.2.1 p l e R s m args below meth c Q (pc, L, st, h, cN, sN) := by
  obtain ⟨hx, hb, hml, hown, hts, hr, hlk, hnm, hK, hA, hSF, -⟩ := C0
  obtain ⟨hsv, ⟨q0, q1, a1, a2, a3, a4, a5, a6, f, a7, a8⟩, h2, h3, -, h4⟩ := hSF
  obtain ⟨hd, hlen, hok⟩ := ok
  intro as ws H locs ls stv has hH hP hD hS hL hst
  have kk := fun x (hx : av_dn sv as v x) => k as ws H locs ls (x :: stv) has hH hP hD hS hL ⟨hx, hst⟩
  dsimp only at kk hok hd ⊢
  unfold av_push at hv
  dsimp only at hv
  cases ins <;> first | (cases hv; done) | skip
  case iconst n =>
    cases hv
    have : len = 1 := by simpa [av_lenok, av_len] using hlen
    subst this
    exact lv_iconst hx hb hd rfl (kk _ (av_dn_c _))
  case bipush n =>
    cases hv
    have : len = 2 := by simpa [av_lenok, av_len] using hlen
    subst this
    exact lv_bipush hx hb hd rfl (kk _ (av_dn_c _))
  case sipush n =>
    cases hv
    have : len = 3 := by simpa [av_lenok, av_len] using hlen
    subst this
    exact lv_sipush hx hb hd rfl (kk _ (av_dn_c _))
  case ldc i =>
    have : len = 2 := by simpa [av_lenok, av_len] using hlen
    subst this
    by_cases ha : a = 0
    · subst ha
      cases hv
      exact lv_ldc hx hb hown (hts _ (hok.1 rfl)) hd (kk _ (av_dn_c _))
    · have e : (a == 0) = false := by simpa using ha
      rw [e] at hv
      cases hv
      obtain ⟨o1, o2⟩ := hok.2 ha
      subst o2
      exact va_ldcS hx hb hown (by rw [o1]; exact a3) hd (kk _ a1.symm)
  case ldc_w i =>
    have : len = 3 := by simpa [av_lenok, av_len] using hlen
    subst this
    cases hv
    exact lv_ldcw hx hb hown (hts _ hok) hd (kk _ (av_dn_c _))
  case ldc2_w i =>
    have : len = 3 := by simpa [av_lenok, av_len] using hlen
    subst this
    cases hv
    exact lv_ldc2 hx hb hown (hts _ hok) hd (kk _ ⟨_, rfl, Int.le_refl _, Int.le_refl _⟩)
  case getstatic i =>
    have : len = 3 := by simpa [av_lenok, av_len] using hlen
    subst this
    by_cases ha : a = 0
    · subst ha
      cases hv
      exact va_gets hx hb h2 hS hown (hts _ (hok.1 rfl)) (fun x h => h) hd (kk _ (av_dn_c _))
    · have e : (a == 0) = false := by simpa using ha
      rw [e] at hv
      cases hv
      exact va_gets hx hb h3 hS hown (hts _ (hok.2 ha)) (fun x h => h) hd (kk _ rfl)
theorem av_load_ok {pc len a b i kd : Nat} {ins : Instr} {z : Int} {v : av_V} {L : av_L} {st : List av_V} {h : av_H} {cN sN : Nat} (C0 : av_Cx Ts cl D cy A sv X M p R s m args meth c) (ok : av_ok Ts cl mt M (pc, ins, len, a, b, z)) (hi : av_load ins = some (i, kd)) (hg : av_get L i = some v) (hv : (bif kd == 1 then av_isI v else av_isA v) = true)
    (k : av_Good cl D cy A sv as0 M.1.2.2.2.1 p l e R s m args below meth c Q (pc + len, L, v :: st, h, cN, sN)) : av_Good cl D cy A sv as0 M.1.2.2.2.1 p l e R s m args below meth c Q (pc, L, st, h, cN, sN) := by
  obtain ⟨hx, hb, hml, hown, hts, hr, hlk, hnm, hK, hA, hSF, -⟩ := C0
  obtain ⟨hsv, -⟩ := hSF
  obtain ⟨hd, hlen, -⟩ := ok
  intro as ws H locs ls stv has hH hP hD hS hL hst
  obtain ⟨x, hdn, hls⟩ := av_relL_get hL hg
  have kk := k as ws H locs ls (x :: stv) has hH hP hD hS hL ⟨hdn, hst⟩
  dsimp only at kk hd ⊢
  have hI : kd = 1 → ∃ n : Int32, x = .int n := by
    intro e
    subst e
    match v, hdn, hv with
    | .inr (.inl a), ⟨n, h1, _⟩, _ => exact ⟨n, h1⟩
  have hR : kd = 2 → x = .null ∨ ∃ n : Nat, x = .ref n := by
    intro e
    subst e
    match v, hdn, hv with
    | .inl none, h1, _ => exact .inl h1
    | .inl (some _), ⟨n, _, h1⟩, _ => exact .inr ⟨n, h1⟩
    | .inr (.inr (.inr j)), h1, _ => rw [show x = sv j from h1]; exact hsv j
  cases ins <;> first | (cases hi; done) | skip
  case iload_n n =>
    cases hi
    have : len = 1 := by simpa [av_lenok, av_len] using hlen
    subst this
    obtain ⟨y, rfl⟩ := hI rfl
    exact lv_iload_n hx hb hd rfl hls kk
  case iload n =>
    cases hi
    have : len = 2 := by simpa [av_lenok, av_len] using hlen
    subst this
    obtain ⟨y, rfl⟩ := hI rfl
    exact lv_iload hx hb hd hls kk
  case aload_n n =>
    cases hi
    have : len = 1 := by simpa [av_lenok, av_len] using hlen
    subst this
    rcases hR rfl with rfl | ⟨y, rfl⟩
    · exact lv_aload_nN hx hb hd rfl hls kk
    · exact lv_aload_n hx hb hd rfl hls kk
  case aload n =>
    cases hi
    have : len = 2 := by simpa [av_lenok, av_len] using hlen
    subst this
    rcases hR rfl with rfl | ⟨y, rfl⟩
    · exact lv_aloadN hx hb hd hls kk
    · exact lv_aload hx hb hd hls kk
theorem av_store_ok {pc len a b i kd : Nat} {ins : Instr} {z : Int} {v : av_V} {L : av_L} {st : List av_V} {h : av_H} {cN sN : Nat} (C0 : av_Cx Ts cl D cy A sv X M p R s m args meth c) (ok : av_ok Ts cl mt M (pc, ins, len, a, b, z)) (hi : av_store ins = some (i, kd)) (hv : (bif kd == 1 then av_isI v else av_isR v) = true)
    (k : av_Good cl D cy A sv as0 M.1.2.2.2.1 p l e R s m args below meth c Q (pc + len, av_set L i v, st, h, cN, sN)) : av_Good cl D cy A sv as0 M.1.2.2.2.1 p l e R s m args below meth c Q (pc, L, v :: st, h, cN, sN) := by
  obtain ⟨hx, hb, hml, hown, hts, hr, hlk, hnm, hK, hA, hSF, -⟩ := C0
  obtain ⟨hsv, -⟩ := hSF
  obtain ⟨hd, hlen, hok⟩ := ok
  intro as ws H locs ls stv has hH hP hD hS hL hst
  obtain ⟨x, stv, rfl, hdn, hst1⟩ := av_relS_cons hst
  obtain ⟨lv, g1, g2⟩ := hL
  have kk := fun ls' hl' => k as ws H locs ls' stv has hH hP hD hS (av_relL_set hsv g2 hdn hl') hst1
  dsimp only at kk hd hok ⊢
  have hI : kd = 1 → ∃ n : Int32, x = .int n := by
    intro e
    subst e
    match v, hdn, hv with
    | .inr (.inl a), ⟨n, h1, _⟩, _ => exact ⟨n, h1⟩
  have hR : kd = 2 → ∃ n : Nat, x = .ref n := by
    intro e
    subst e
    match v, hdn, hv with
    | .inl (some _), ⟨n, _, h1⟩, _ => exact ⟨n, h1⟩
  cases ins <;> first | (cases hi; done) | skip
  case istore_n n =>
    cases hi
    have : len = 1 := by simpa [av_lenok, av_len] using hlen
    subst this
    obtain ⟨y, rfl⟩ := hI rfl
    exact lv_istore_n hx hb hd rfl g1 hok rfl kk
  case istore n =>
    cases hi
    have : len = 2 := by simpa [av_lenok, av_len] using hlen
    subst this
    obtain ⟨y, rfl⟩ := hI rfl
    exact lv_istore hx hb hd g1 hok rfl kk
  case astore_n n =>
    cases hi
    have : len = 1 := by simpa [av_lenok, av_len] using hlen
    subst this
    obtain ⟨y, rfl⟩ := hR rfl
    exact lv_astore_n hx hb hd rfl g1 hok rfl kk
  case astore n =>
    cases hi
    have : len = 2 := by simpa [av_lenok, av_len] using hlen
    subst this
    obtain ⟨y, rfl⟩ := hR rfl
    exact lv_astore hx hb hd g1 hok rfl kk
theorem av_bin_ok {pc len a b : Nat} {ins : Instr} {z : Int} {f : (Int × Int) → (Int × Int) → Option (Int × Int)} {u w r : Int × Int} {L : av_L} {st : List av_V} {h : av_H} {cN sN : Nat} (C0 : av_Cx Ts cl D cy A sv X M p R s m args meth c) (ok : av_ok Ts cl mt M (pc, ins, len, a, b, z)) (hf : av_bin ins = some f) (hr : f u w = some r)
    (k : av_Good cl D cy A sv as0 M.1.2.2.2.1 p l e R s m args below meth c Q (pc + len, L, av_i r :: st, h, cN, sN)) : av_Good cl D cy A sv as0 M.1.2.2.2.1 p l e R s m args below meth c Q (pc, L, av_i w :: av_i u :: st, h, cN, sN) := by
  obtain ⟨hx, hb, -⟩ := C0
  obtain ⟨hd, hlen, -⟩ := ok
  intro as ws H locs ls stv has hH hP hD hS hL hst
  obtain ⟨_, stv1, rfl, ⟨y, rfl, hy⟩, hst1⟩ := av_relS_cons hst
  obtain ⟨_, stv, rfl, ⟨x, rfl, hx'⟩, hst2⟩ := av_relS_cons hst1
  have kk := fun (n : Int32) (hn : r.1 ≤ n.toInt ∧ n.toInt ≤ r.2) => k as ws H locs ls (.int n :: stv) has hH hP hD hS hL ⟨⟨n, rfl, hn⟩, hst2⟩
  dsimp only at kk hd ⊢
  cases ins <;> first | (cases hf; done) | skip
  case iadd =>
    have : len = 1 := by simpa [av_lenok, av_len] using hlen
    subst this; cases hf; cases hr
    exact lv_iadd hx hb hd (kk _ (av_b2_ok _ hx' hy))
  case isub =>
    have : len = 1 := by simpa [av_lenok, av_len] using hlen
    subst this; cases hf; cases hr
    exact lv_isub hx hb hd (kk _ (av_b2_ok _ hx' hy))
  case imul =>
    have : len = 1 := by simpa [av_lenok, av_len] using hlen
    subst this; cases hf; cases hr
    exact lv_imul hx hb hd (kk _ (av_mul_ok hx' hy))
  case iand =>
    have : len = 1 := by simpa [av_lenok, av_len] using hlen
    subst this; cases hf; cases hr
    exact lv_iand hx hb hd (kk _ (av_b2_ok _ hx' hy))
  case ior =>
    have : len = 1 := by simpa [av_lenok, av_len] using hlen
    subst this; cases hf; cases hr
    exact lv_ior hx hb hd (kk _ (av_b2_ok _ hx' hy))
  case ishl =>
    have : len = 1 := by simpa [av_lenok, av_len] using hlen
    subst this; cases hf; cases hr
    exact lv_ishl hx hb hd (kk _ (av_b2_ok _ hx' hy))
  case ishr =>
    have : len = 1 := by simpa [av_lenok, av_len] using hlen
    subst this; cases hf; cases hr
    exact lv_ishr hx hb hd (kk _ (av_b2_ok _ hx' hy))
  case iushr =>
    have : len = 1 := by simpa [av_lenok, av_len] using hlen
    subst this; cases hf; cases hr
    exact lv_iushr hx hb hd rfl (kk _ (av_b2_ok _ hx' hy))
  case idiv =>
    have : len = 1 := by simpa [av_lenok, av_len] using hlen
    subst this; cases hf
    obtain ⟨h1, h2⟩ := av_div_ok hr hx' hy
    exact lv_idiv hx hb hd h1 (kk _ h2)
  case irem =>
    have : len = 1 := by simpa [av_lenok, av_len] using hlen
    subst this; cases hf
    obtain ⟨h1, h2⟩ := av_rem_ok hr hx' hy
    exact lv_irem hx hb hd h1 (kk _ h2)
end AVR
end
section
/-! ===== rows at abstract frames: branches, the stack, conversions ===== -/
section AVR
variable {Ts : List Jvm.Cond} {cl : List vw_C} {D : va_G} {cy : Nat → ClassId} {A : Nat → Prop} {sv : Nat → Value} {as0 : List Nat} {X : av_X} {M : av_M} {mt : Nat → av_M} {F : av_F} {p : Program} {l : Launch} {e : Env} {R : Room} {s : State} {m : MethodId} {args : Array Value} {below : List Frame} {meth : Method} {c : Code} {Q : State → Prop}
theorem av_jmp_ok {pc : Nat} {off : Int} (h : av_jmp pc off = true) : (pc : Int) + off = (av_tgt pc off : Int) := by
  simpa [av_jmp, av_tgt] using h
theorem av_icmp_ok {pc len a b : Nat} {o : Jvm.ClassFile.Cond} {off z : Int} {u w : Int × Int} {L : av_L} {st : List av_V} {h : av_H} {cN sN : Nat} (C0 : av_Cx Ts cl D cy A sv X M p R s m args meth c) (ok : av_ok Ts cl mt M (pc, .if_icmp o off, len, a, b, z)) (hj : av_jmp pc off = true)
    (k : ∀ S' ∈ av_br (av_cmp o u w) (av_tgt pc off, L, st, h, cN, sN) (pc + len, L, st, h, cN, sN), av_Good cl D cy A sv as0 M.1.2.2.2.1 p l e R s m args below meth c Q S') : av_Good cl D cy A sv as0 M.1.2.2.2.1 p l e R s m args below meth c Q (pc, L, av_i w :: av_i u :: st, h, cN, sN) := by
  obtain ⟨hx, hb, -⟩ := C0
  obtain ⟨hd, hlen, -⟩ := ok
  intro as ws H locs ls stv has hH hP hD hS hL hst
  obtain ⟨_, stv1, rfl, ⟨y, rfl, hy⟩, hst1⟩ := av_relS_cons hst
  obtain ⟨_, stv, rfl, ⟨x, rfl, hx'⟩, hst2⟩ := av_relS_cons hst1
  have : len = 3 := by simpa [av_lenok, av_len] using hlen
  subst this
  have kt := fun (hm : (av_tgt pc off, L, st, h, cN, sN) ∈ av_br (av_cmp o u w) (av_tgt pc off, L, st, h, cN, sN) (pc + 3, L, st, h, cN, sN)) => k _ hm as ws H locs ls stv has hH hP hD hS hL hst2
  have kf := fun (hm : (pc + 3, L, st, h, cN, sN) ∈ av_br (av_cmp o u w) (av_tgt pc off, L, st, h, cN, sN) (pc + 3, L, st, h, cN, sN)) => k _ hm as ws H locs ls stv has hH hP hD hS hL hst2
  have ht := av_jmp_ok hj
  dsimp only at kt kf hd ⊢
  have go : ∀ {cnd : Prop}, (∀ r, av_cmp o u w = some r → (cnd ↔ r = true)) → (cnd → W p l e R s m args below meth c H locs cN sN Q (F0 m (av_tgt pc off) ls stv)) ∧ (¬ cnd → W p l e R s m args below meth c H locs cN sN Q (F0 m (pc + 3) ls stv)) := by
    intro cnd hc
    cases hcm : av_cmp o u w with
    | none => rw [hcm] at kt kf; exact ⟨fun _ => kt (by simp [av_br]), fun _ => kf (by simp [av_br])⟩
    | some r =>
      have hi := hc r hcm
      cases r with
      | true => rw [hcm] at kt; exact ⟨fun _ => kt (by simp [av_br]), fun q => absurd (hi.mpr rfl) q⟩
      | false => rw [hcm] at kf; exact ⟨fun q => by simp [hi] at q, fun _ => kf (by simp [av_br])⟩
  have hlt := fun r (hr : av_lt u w = some r) => av_lt_ok hx' hy hr
  have hgt := fun r (hr : av_lt w u = some r) => av_lt_ok hy hx' hr
  have heq := fun r (hr : av_eq u w = some r) => av_eq_ok hx' hy hr
  have hnot : ∀ {t : Option Bool} {cnd : Prop}, (∀ r, t = some r → (cnd ↔ r = true)) → ∀ r, t.map not = some r → (¬ cnd ↔ r = true) := by
    intro t cnd hh r hr
    cases t with
    | none => cases hr
    | some q => cases hr; rw [hh q rfl]; cases q <;> simp
  cases o with
  | eq => have g := go (cnd := x = y) heq; exact lv_icmp_eq hx hb hd ht g.1 g.2
  | ne => have g := go (cnd := ¬ x = y) (hnot heq); exact lv_icmp_ne hx hb hd ht g.1 (fun q => g.2 (fun q' => q' q))
  | lt => have g := go (cnd := x < y) hlt; exact lv_icmp_lt hx hb hd ht g.1 g.2
  | ge => have g := go (cnd := ¬ x < y) (hnot hlt); exact lv_icmp_ge hx hb hd ht (fun q => g.1 (by rw [Int32.lt_iff_toInt_lt]; rw [Int32.le_iff_toInt_le] at q; omega)) (fun q => g.2 (fun q' => q' (by rw [Int32.lt_iff_toInt_lt]; rw [Int32.le_iff_toInt_le] at q; omega)))
  | gt => have g := go (cnd := y < x) hgt; exact lv_icmp_gt hx hb hd ht g.1 g.2
  | le => have g := go (cnd := ¬ y < x) (hnot hgt); exact lv_icmp_le hx hb hd ht (fun q => g.1 (by rw [Int32.lt_iff_toInt_lt]; rw [Int32.le_iff_toInt_le] at q; omega)) (fun q => g.2 (fun q' => q' (by rw [Int32.lt_iff_toInt_lt]; rw [Int32.le_iff_toInt_le] at q; omega)))
theorem av_if_ok {pc len a b : Nat} {o : Jvm.ClassFile.Cond} {off z : Int} {u : Int × Int} {L : av_L} {st : List av_V} {h : av_H} {cN sN : Nat} (C0 : av_Cx Ts cl D cy A sv X M p R s m args meth c) (ok : av_ok Ts cl mt M (pc, .ifCond o off, len, a, b, z)) (hj : av_jmp pc off = true)
    (k : ∀ S' ∈ av_br (av_cmp o u (0, 0)) (av_tgt pc off, L, st, h, cN, sN) (pc + len, L, st, h, cN, sN), av_Good cl D cy A sv as0 M.1.2.2.2.1 p l e R s m args below meth c Q S') : av_Good cl D cy A sv as0 M.1.2.2.2.1 p l e R s m args below meth c Q (pc, L, av_i u :: st, h, cN, sN) := by
  obtain ⟨hx, hb, -⟩ := C0
  obtain ⟨hd, hlen, -⟩ := ok
  intro as ws H locs ls stv has hH hP hD hS hL hst
  obtain ⟨_, stv, rfl, ⟨x, rfl, hx'⟩, hst1⟩ := av_relS_cons hst
  have hy : (0 : Int) ≤ (0 : Int32).toInt ∧ (0 : Int32).toInt ≤ 0 := by decide
  have : len = 3 := by simpa [av_lenok, av_len] using hlen
  subst this
  have kt := fun (hm : (av_tgt pc off, L, st, h, cN, sN) ∈ av_br (av_cmp o u (0, 0)) (av_tgt pc off, L, st, h, cN, sN) (pc + 3, L, st, h, cN, sN)) => k _ hm as ws H locs ls stv has hH hP hD hS hL hst1
  have kf := fun (hm : (pc + 3, L, st, h, cN, sN) ∈ av_br (av_cmp o u (0, 0)) (av_tgt pc off, L, st, h, cN, sN) (pc + 3, L, st, h, cN, sN)) => k _ hm as ws H locs ls stv has hH hP hD hS hL hst1
  have ht := av_jmp_ok hj
  dsimp only at kt kf hd ⊢
  have go : ∀ {cnd : Prop}, (∀ r, av_cmp o u (0, 0) = some r → (cnd ↔ r = true)) → (cnd → W p l e R s m args below meth c H locs cN sN Q (F0 m (av_tgt pc off) ls stv)) ∧ (¬ cnd → W p l e R s m args below meth c H locs cN sN Q (F0 m (pc + 3) ls stv)) := by
    intro cnd hc
    cases hcm : av_cmp o u (0, 0) with
    | none => rw [hcm] at kt kf; exact ⟨fun _ => kt (by simp [av_br]), fun _ => kf (by simp [av_br])⟩
    | some r =>
      have hi := hc r hcm
      cases r with
      | true => rw [hcm] at kt; exact ⟨fun _ => kt (by simp [av_br]), fun q => absurd (hi.mpr rfl) q⟩
      | false => rw [hcm] at kf; exact ⟨fun q => by simp [hi] at q, fun _ => kf (by simp [av_br])⟩
  have hlt := fun r (hr : av_lt u (0, 0) = some r) => av_lt_ok (y := 0) hx' hy hr
  have hgt := fun r (hr : av_lt (0, 0) u = some r) => av_lt_ok (x := 0) hy hx' hr
  have heq := fun r (hr : av_eq u (0, 0) = some r) => av_eq_ok (y := 0) hx' hy hr
  have hnot : ∀ {t : Option Bool} {cnd : Prop}, (∀ r, t = some r → (cnd ↔ r = true)) → ∀ r, t.map not = some r → (¬ cnd ↔ r = true) := by
    intro t cnd hh r hr
    cases t with
    | none => cases hr
    | some q => cases hr; rw [hh q rfl]; cases q <;> simp
  cases o with
  | eq => have g := go (cnd := x = 0) heq; exact lv_if_eq hx hb hd ht g.1 g.2
  | ne => have g := go (cnd := ¬ x = 0) (hnot heq); exact lv_if_ne hx hb hd ht g.1 (fun q => g.2 (fun q' => q' q))
  | lt => have g := go (cnd := x < 0) hlt; exact lv_if_lt hx hb hd ht g.1 g.2
  | ge => have g := go (cnd := ¬ x < 0) (hnot hlt); exact lv_if_ge hx hb hd ht (fun q => g.1 (by rw [Int32.lt_iff_toInt_lt]; rw [Int32.le_iff_toInt_le] at q; omega)) (fun q => g.2 (fun q' => q' (by rw [Int32.lt_iff_toInt_lt]; rw [Int32.le_iff_toInt_le] at q; omega)))
  | gt => have g := go (cnd := 0 < x) hgt; exact lv_if_gt hx hb hd ht g.1 g.2
  | le => have g := go (cnd := ¬ 0 < x) (hnot hgt); exact lv_if_le hx hb hd ht (fun q => g.1 (by rw [Int32.lt_iff_toInt_lt]; rw [Int32.le_iff_toInt_le] at q; omega)) (fun q => g.2 (fun q' => q' (by rw [Int32.lt_iff_toInt_lt]; rw [Int32.le_iff_toInt_le] at q; omega)))
theorem av_goto_ok {pc len a b : Nat} {off z : Int} {L : av_L} {st : List av_V} {h : av_H} {cN sN : Nat} (C0 : av_Cx Ts cl D cy A sv X M p R s m args meth c) (ok : av_ok Ts cl mt M (pc, .goto off, len, a, b, z)) (hj : av_jmp pc off = true)
    (k : av_Good cl D cy A sv as0 M.1.2.2.2.1 p l e R s m args below meth c Q (av_tgt pc off, L, st, h, cN, sN)) : av_Good cl D cy A sv as0 M.1.2.2.2.1 p l e R s m args below meth c Q (pc, L, st, h, cN, sN) := by
  obtain ⟨hx, hb, -⟩ := C0
  obtain ⟨hd, hlen, -⟩ := ok
  intro as ws H locs ls stv has hH hP hD hS hL hst
  have : len = 3 := by simpa [av_lenok, av_len] using hlen
  subst this
  exact lv_goto hx hb hd (av_jmp_ok hj) (k as ws H locs ls stv has hH hP hD hS hL hst)
theorem av_iinc_ok {pc len a b i : Nat} {n z : Int} {u : Int × Int} {L : av_L} {st : List av_V} {h : av_H} {cN sN : Nat} (C0 : av_Cx Ts cl D cy A sv X M p R s m args meth c) (ok : av_ok Ts cl mt M (pc, .iinc i n, len, a, b, z)) (hg : av_get L i = some (av_i u))
    (k : av_Good cl D cy A sv as0 M.1.2.2.2.1 p l e R s m args below meth c Q (pc + len, av_set L i (av_i (av_b2 (fun x y => x + y) u (n, n))), st, h, cN, sN)) : av_Good cl D cy A sv as0 M.1.2.2.2.1 p l e R s m args below meth c Q (pc, L, st, h, cN, sN) := by
  obtain ⟨hx, hb, -, -, -, -, -, -, -, -, hSF, -⟩ := C0
  obtain ⟨hsv, -⟩ := hSF
  obtain ⟨hd, hlen, hok⟩ := ok
  intro as ws H locs ls stv has hH hP hD hS hL hst
  have : len = 3 := by simpa [av_lenok, av_len] using hlen
  subst this
  obtain ⟨lv, g1, g2⟩ := hL
  obtain ⟨_, ⟨x, rfl, hx'⟩, hm⟩ := g2 _ (av_get_mem hg)
  obtain ⟨kk, hkk⟩ := List.getElem?_of_mem hm
  have hb2 : (av_b2 (fun x y => x + y) u (n, n)).1 ≤ (x + Int32.ofInt n).toInt ∧ (x + Int32.ofInt n).toInt ≤ (av_b2 (fun x y => x + y) u (n, n)).2 := by
    unfold av_b2
    cases hc : (decide (u.1 = u.2) && decide ((n, n).1 = (n, n).2)) with
    | false => exact av_top_ok _
    | true =>
      simp only [Bool.and_eq_true, decide_eq_true_eq] at hc
      have e1 : x = Int32.ofInt u.1 := av_one_of hx'.1 (by omega)
      rw [cond_true, ← e1]
      exact ⟨Int.le_refl _, Int.le_refl _⟩
  have hdn : av_dn sv as (av_i (av_b2 (fun x y => x + y) u (n, n))) (.int (x + Int32.ofInt n)) := ⟨_, rfl, hb2⟩
  exact lv_iinc hx hb hd g1 hkk rfl hok rfl (fun ls' hl' => k as ws H locs ls' stv has hH hP hD hS (av_relL_set hsv g2 hdn hl') hst)
theorem av_dup_ok {pc len a b : Nat} {z : Int} {v : av_V} {L : av_L} {st : List av_V} {h : av_H} {cN sN : Nat} (C0 : av_Cx Ts cl D cy A sv X M p R s m args meth c) (ok : av_ok Ts cl mt M (pc, .dup, len, a, b, z)) (hv : av_isL v = false)
    (k : av_Good cl D cy A sv as0 M.1.2.2.2.1 p l e R s m args below meth c Q (pc + len, L, v :: v :: st, h, cN, sN)) : av_Good cl D cy A sv as0 M.1.2.2.2.1 p l e R s m args below meth c Q (pc, L, v :: st, h, cN, sN) := by
  obtain ⟨hx, hb, -, -, -, -, -, -, -, -, hSF, -⟩ := C0
  obtain ⟨hsv, -⟩ := hSF
  obtain ⟨hd, hlen, -⟩ := ok
  intro as ws H locs ls stv has hH hP hD hS hL hst
  have : len = 1 := by simpa [av_lenok, av_len] using hlen
  subst this
  obtain ⟨x, stv, rfl, hdn, hst1⟩ := av_relS_cons hst
  exact lv_dup hx hb hd (by rw [av_cat hsv hdn, hv]; rfl) (k as ws H locs ls (x :: x :: stv) has hH hP hD hS hL ⟨hdn, hdn, hst1⟩)
theorem av_pop_ok {pc len a b : Nat} {z : Int} {v : av_V} {L : av_L} {st : List av_V} {h : av_H} {cN sN : Nat} (C0 : av_Cx Ts cl D cy A sv X M p R s m args meth c) (ok : av_ok Ts cl mt M (pc, .pop, len, a, b, z)) (hv : av_isL v = false)
    (k : av_Good cl D cy A sv as0 M.1.2.2.2.1 p l e R s m args below meth c Q (pc + len, L, st, h, cN, sN)) : av_Good cl D cy A sv as0 M.1.2.2.2.1 p l e R s m args below meth c Q (pc, L, v :: st, h, cN, sN) := by
  obtain ⟨hx, hb, -, -, -, -, -, -, -, -, hSF, -⟩ := C0
  obtain ⟨hsv, -⟩ := hSF
  obtain ⟨hd, hlen, -⟩ := ok
  intro as ws H locs ls stv has hH hP hD hS hL hst
  have : len = 1 := by simpa [av_lenok, av_len] using hlen
  subst this
  obtain ⟨x, stv, rfl, hdn, hst1⟩ := av_relS_cons hst
  exact lv_pop hx hb hd (by rw [av_cat hsv hdn, hv]; rfl) (k as ws H locs ls stv has hH hP hD hS hL hst1)
theorem av_dup2_ok {pc len a b : Nat} {z : Int} {v w : av_V} {L : av_L} {st : List av_V} {h : av_H} {cN sN : Nat} (C0 : av_Cx Ts cl D cy A sv X M p R s m args meth c) (ok : av_ok Ts cl mt M (pc, .dup2, len, a, b, z)) (hv : av_isL v = false) (hw : av_isL w = false)
    (k : av_Good cl D cy A sv as0 M.1.2.2.2.1 p l e R s m args below meth c Q (pc + len, L, v :: w :: v :: w :: st, h, cN, sN)) : av_Good cl D cy A sv as0 M.1.2.2.2.1 p l e R s m args below meth c Q (pc, L, v :: w :: st, h, cN, sN) := by
  obtain ⟨hx, hb, -, -, -, -, -, -, -, -, hSF, -⟩ := C0
  obtain ⟨hsv, -⟩ := hSF
  obtain ⟨hd, hlen, -⟩ := ok
  intro as ws H locs ls stv has hH hP hD hS hL hst
  have : len = 1 := by simpa [av_lenok, av_len] using hlen
  subst this
  obtain ⟨x, stv1, rfl, hdn, hst1⟩ := av_relS_cons hst
  obtain ⟨y, stv, rfl, hdn2, hst2⟩ := av_relS_cons hst1
  exact lv_dup2_11 hx hb hd (by rw [av_cat hsv hdn, hv]; rfl) (by rw [av_cat hsv hdn2, hw]; rfl) (k as ws H locs ls (x :: y :: x :: y :: stv) has hH hP hD hS hL ⟨hdn, hdn2, hdn, hdn2, hst2⟩)
theorem av_i2c_ok {pc len a b : Nat} {z : Int} {u : Int × Int} {L : av_L} {st : List av_V} {h : av_H} {cN sN : Nat} (C0 : av_Cx Ts cl D cy A sv X M p R s m args meth c) (ok : av_ok Ts cl mt M (pc, .i2c, len, a, b, z))
    (k : av_Good cl D cy A sv as0 M.1.2.2.2.1 p l e R s m args below meth c Q (pc + len, L, av_i (av_u1 (fun x => (x.toUInt32 % 65536).toInt32) u) :: st, h, cN, sN)) : av_Good cl D cy A sv as0 M.1.2.2.2.1 p l e R s m args below meth c Q (pc, L, av_i u :: st, h, cN, sN) := by
  obtain ⟨hx, hb, -⟩ := C0
  obtain ⟨hd, hlen, -⟩ := ok
  intro as ws H locs ls stv has hH hP hD hS hL hst
  have : len = 1 := by simpa [av_lenok, av_len] using hlen
  subst this
  obtain ⟨_, stv, rfl, ⟨x, rfl, hx'⟩, hst1⟩ := av_relS_cons hst
  exact lv_i2c hx hb hd rfl (k as ws H locs ls (_ :: stv) has hH hP hD hS hL ⟨⟨_, rfl, av_u1_ok (fun x => (x.toUInt32 % 65536).toInt32) hx'⟩, hst1⟩)
theorem av_i8 (x : Int32) : -128 ≤ x.toInt8.toInt32.toInt ∧ x.toInt8.toInt32.toInt ≤ 127 := by
  rw [Int8.toInt_toInt32]
  have h1 := x.toInt8.toInt_lt
  have h2 := x.toInt8.le_toInt
  omega
theorem av_i2b_ok {pc len a b : Nat} {z : Int} {u : Int × Int} {L : av_L} {st : List av_V} {h : av_H} {cN sN : Nat} (C0 : av_Cx Ts cl D cy A sv X M p R s m args meth c) (ok : av_ok Ts cl mt M (pc, .i2b, len, a, b, z))
    (k : av_Good cl D cy A sv as0 M.1.2.2.2.1 p l e R s m args below meth c Q (pc + len, L, av_i (bif decide (u.1 = u.2) then av_u1 (fun x => x.toInt8.toInt32) u else (-128, 127)) :: st, h, cN, sN)) : av_Good cl D cy A sv as0 M.1.2.2.2.1 p l e R s m args below meth c Q (pc, L, av_i u :: st, h, cN, sN) := by
  obtain ⟨hx, hb, -⟩ := C0
  obtain ⟨hd, hlen, -⟩ := ok
  intro as ws H locs ls stv has hH hP hD hS hL hst
  have : len = 1 := by simpa [av_lenok, av_len] using hlen
  subst this
  obtain ⟨_, stv, rfl, ⟨x, rfl, hx'⟩, hst1⟩ := av_relS_cons hst
  refine lv_i2b hx hb hd rfl (k as ws H locs ls (_ :: stv) has hH hP hD hS hL ⟨⟨_, rfl, ?_⟩, hst1⟩)
  cases decide (u.1 = u.2) with
  | true => exact av_u1_ok (fun x => x.toInt8.toInt32) hx'
  | false => exact av_i8 x
theorem av_lcmp_ok {pc len a b : Nat} {z : Int} {u w : Int × Int} {L : av_L} {st : List av_V} {h : av_H} {cN sN : Nat} (C0 : av_Cx Ts cl D cy A sv X M p R s m args meth c) (ok : av_ok Ts cl mt M (pc, .lcmp, len, a, b, z)) (hc : (decide (u.1 = u.2) && (decide (w.1 = w.2) && decide (u.1 = w.1))) = true)
    (k : av_Good cl D cy A sv as0 M.1.2.2.2.1 p l e R s m args below meth c Q (pc + len, L, av_c 0 :: st, h, cN, sN)) : av_Good cl D cy A sv as0 M.1.2.2.2.1 p l e R s m args below meth c Q (pc, L, av_l w :: av_l u :: st, h, cN, sN) := by
  obtain ⟨hx, hb, -⟩ := C0
  obtain ⟨hd, hlen, -⟩ := ok
  intro as ws H locs ls stv has hH hP hD hS hL hst
  have : len = 1 := by simpa [av_lenok, av_len] using hlen
  subst this
  obtain ⟨_, stv1, rfl, ⟨y, rfl, hy⟩, hst1⟩ := av_relS_cons hst
  obtain ⟨_, stv, rfl, ⟨x, rfl, hx'⟩, hst2⟩ := av_relS_cons hst1
  simp only [Bool.and_eq_true, decide_eq_true_eq] at hc
  have e : x = y := by
    rw [← Int64.toInt_inj]
    omega
  subst e
  refine W.lcmp hx hb hd ?_
  have e0 : lg_cmp x x = 0 := by simp [lg_cmp]
  have kk := k as ws H locs ls (.int 0 :: stv) has hH hP hD hS hL ⟨av_dn_c 0, hst2⟩
  first | (rw [e0]; exact kk) | simpa [e0] using kk
theorem av_table_ok {pc len a b : Nat} {d lo hi z : Int} {offs : Array Int} {u : Int × Int} {L : av_L} {st : List av_V} {h : av_H} {cN sN : Nat} (C0 : av_Cx Ts cl D cy A sv X M p R s m args meth c) (ok : av_ok Ts cl mt M (pc, .tableswitch d lo hi offs, len, a, b, z)) {off : Int} (hj : av_jmp pc off = true)
    (hc : ((decide (u.2 < lo) || decide (hi < u.1)) = true ∧ off = d) ∨ ((decide (u.1 = u.2) && (decide (lo ≤ u.1) && decide (u.1 ≤ hi))) = true ∧ offs[(u.1 - lo).toNat]? = some off))
    (k : av_Good cl D cy A sv as0 M.1.2.2.2.1 p l e R s m args below meth c Q (av_tgt pc off, L, st, h, cN, sN)) : av_Good cl D cy A sv as0 M.1.2.2.2.1 p l e R s m args below meth c Q (pc, L, av_i u :: st, h, cN, sN) := by
  obtain ⟨hx, hb, -⟩ := C0
  obtain ⟨hd, -, -⟩ := ok
  intro as ws H locs ls stv has hH hP hD hS hL hst
  obtain ⟨_, stv, rfl, ⟨x, rfl, hx'⟩, hst1⟩ := av_relS_cons hst
  have kk := k as ws H locs ls stv has hH hP hD hS hL hst1
  rcases hc with ⟨h1, rfl⟩ | ⟨h1, h2⟩
  · simp only [Bool.or_eq_true, decide_eq_true_eq] at h1
    exact lv_tableOut hx hb hd (by omega) (av_jmp_ok hj) kk
  · simp only [Bool.and_eq_true, decide_eq_true_eq] at h1
    have e : x.toInt = u.1 := by omega
    exact lv_tableIn hx hb hd (by omega) (by omega) (by rw [e]; exact h2) (av_jmp_ok hj) kk
end AVR
end
section
/-! ===== rows at abstract frames: arrays, fields ===== -/
theorem av_hull_ok : ∀ {ys : List av_V} {r : Int × Int}, av_hull ys = some r → ∀ w ∈ ys, ∃ b, w = av_i b ∧ r.1 ≤ b.1 ∧ b.2 ≤ r.2 := by
  intro ys
  induction ys with
  | nil => intro r _ w hw; cases hw
  | cons x l ih =>
    intro r h w hw
    unfold av_hull at h
    cases hl : av_hull l with
    | none => rw [hl] at h; cases x <;> simp at h
    | some b =>
      rw [hl] at h
      match x, h, hw with
      | .inl o, h, hw => cases h
      | .inr (.inr o), h, hw => cases h
      | .inr (.inl a), h, hw =>
        cases h
        dsimp only
        have e1 : (bif decide (a.1 ≤ b.1) then a.1 else b.1) ≤ a.1 ∧ (bif decide (a.1 ≤ b.1) then a.1 else b.1) ≤ b.1 := by
          by_cases q : a.1 ≤ b.1
          · simp [q]
          · simp [q]; omega
        have e2 : a.2 ≤ (bif decide (a.2 ≤ b.2) then b.2 else a.2) ∧ b.2 ≤ (bif decide (a.2 ≤ b.2) then b.2 else a.2) := by
          by_cases q : a.2 ≤ b.2
          · simp [q]
          · simp [q]; omega
        rcases List.mem_cons.mp hw with rfl | hw
        · exact ⟨a, rfl, e1.1, e2.1⟩
        · obtain ⟨b', q1, q2, q3⟩ := ih hl w hw
          exact ⟨b', q1, by omega, by omega⟩
theorem av_clamp (n : Int32) : n.toNatClampNeg = n.toInt.toNat := rfl
theorem av_rd_ok {sv : Nat → Value} {as : List Nat} {xs : List av_V} {i : Int × Int} {v : av_V} {n : Int32} (h : av_rd xs i = some v) (hn : i.1 ≤ n.toInt ∧ n.toInt ≤ i.2) : vp_in n xs.length ∧ ∀ g : Nat → Value, (∀ (k : Nat) (w : av_V), xs[k]? = some w → av_dn sv as w (g k)) → av_dn sv as v (g n.toNatClampNeg) := by
  unfold av_rd at h
  cases hc : (decide (0 ≤ i.1) && decide (i.2 < (xs.length : Int))) with
  | false => rw [hc] at h; cases h
  | true =>
    rw [hc, cond_true] at h
    simp only [Bool.and_eq_true, decide_eq_true_eq] at hc
    refine ⟨vp_in_iff.mpr ⟨by omega, by omega⟩, fun g hg => ?_⟩
    rw [av_clamp]
    cases he : decide (i.1 = i.2) with
    | true =>
      rw [he, cond_true] at h
      simp only [decide_eq_true_eq] at he
      have e : n.toInt.toNat = i.1.toNat := by omega
      rw [e]
      exact hg _ _ h
    | false =>
      rw [he, cond_false] at h
      cases hh : av_hull ((xs.drop i.1.toNat).take ((i.2 - i.1).toNat + 1)) with
      | none => rw [hh] at h; cases h
      | some r =>
        rw [hh] at h
        cases h
        have hlt : n.toInt.toNat < xs.length := by omega
        obtain ⟨w, hw⟩ : ∃ w, xs[n.toInt.toNat]? = some w := ⟨_, List.getElem?_eq_getElem hlt⟩
        have hm : w ∈ (xs.drop i.1.toNat).take ((i.2 - i.1).toNat + 1) := by
          refine List.mem_of_getElem? (i := n.toInt.toNat - i.1.toNat) ?_
          rw [List.getElem?_take_of_lt (by omega), List.getElem?_drop]
          have : i.1.toNat + (n.toInt.toNat - i.1.toNat) = n.toInt.toNat := by omega
          rw [this]
          exact hw
        obtain ⟨b, rfl, b1, b2⟩ := av_hull_ok hh w hm
        obtain ⟨y, q1, q2, q3⟩ := hg _ _ hw
        exact ⟨y, q1, by omega, by omega⟩
theorem av_bool {x : Int32} (h0 : 0 ≤ x.toInt) (h1 : x.toInt ≤ 1) : x = 0 ∨ x = 1 := by
  rcases (show x.toInt = 0 ∨ x.toInt = 1 by omega) with h | h
  · exact .inl (by rw [← Int32.toInt_inj]; exact h)
  · exact .inr (by rw [← Int32.toInt_inj]; exact h)
theorem av_byte {x : Int32} (h0 : -128 ≤ x.toInt) (h1 : x.toInt ≤ 127) : x.toInt8.toInt32 = x := by
  rw [← Int32.toInt_inj, Int8.toInt_toInt32, Int32.toInt_toInt8]
  rw [Int.bmod_eq_of_le (by omega) (by omega)]
theorem av_fit_ok {sv : Nat → Value} {as : List Nat} {ty : FieldType} {v : av_V} {x : Value} (hf : av_fit (av_kd ty) v = true) (hd : av_dn sv as v x) : narrow ty x = x ∧ fits ty x = true := by
  cases ty with
  | int =>
    match v, hf, hd with
    | .inr (.inl a), _, hd => obtain ⟨n, rfl, _⟩ := hd; exact ⟨rfl, rfl⟩
  | byte =>
    match v, hf, hd with
    | .inr (.inl a), hf, hd =>
      obtain ⟨n, rfl, h1, h2⟩ := hd
      simp only [av_kd, av_fit, Bool.and_eq_true, decide_eq_true_eq] at hf
      refine ⟨by show Value.int _ = _; rw [av_byte (by omega) (by omega)], ?_⟩
      show (decide ((-128 : Int32) ≤ n) && decide (n ≤ 127)) = true
      have e1 : (-128 : Int32).toInt = -128 := by decide
      have e2 : (127 : Int32).toInt = 127 := by decide
      simp only [Bool.and_eq_true, decide_eq_true_eq, Int32.le_iff_toInt_le]
      exact ⟨by omega, by omega⟩
  | boolean =>
    match v, hf, hd with
    | .inr (.inl a), hf, hd =>
      obtain ⟨n, rfl, h1, h2⟩ := hd
      simp only [av_kd, av_fit, Bool.and_eq_true, decide_eq_true_eq] at hf
      rcases av_bool (x := n) (by omega) (by omega) with rfl | rfl
      · exact ⟨rfl, rfl⟩
      · exact ⟨rfl, rfl⟩
  | long =>
    match v, hf, hd with
    | .inr (.inr (.inl a)), _, hd => obtain ⟨n, rfl, _⟩ := hd; exact ⟨rfl, rfl⟩
  | object C =>
    match v, hf, hd with
    | .inl none, _, hd => rw [show x = .null from hd]; exact ⟨rfl, rfl⟩
    | .inl (some k), _, hd => obtain ⟨a, _, rfl⟩ := hd; exact ⟨rfl, rfl⟩
  | array C =>
    match v, hf, hd with
    | .inl none, _, hd => rw [show x = .null from hd]; exact ⟨rfl, rfl⟩
    | .inl (some k), _, hd => obtain ⟨a, _, rfl⟩ := hd; exact ⟨rfl, rfl⟩
  | _ => simp [av_kd, av_fit] at hf
section AVR
variable {Ts : List Jvm.Cond} {cl : List vw_C} {D : va_G} {cy : Nat → ClassId} {A : Nat → Prop} {sv : Nat → Value} {as0 : List Nat} {X : av_X} {M : av_M} {mt : Nat → av_M} {F : av_F} {p : Program} {l : Launch} {e : Env} {R : Room} {s : State} {m : MethodId} {args : Array Value} {below : List Frame} {meth : Method} {c : Code} {Q : State → Prop}
theorem av_ld_ok {pc len a b t t' k : Nat} {ins : Instr} {z : Int} {i : Int × Int} {v : av_V} {xs L1 : List av_V} {L : av_L} {st : List av_V} {h : av_H} {cN sN : Nat} (C0 : av_Cx Ts cl D cy A sv X M p R s m args meth c) (ok : av_ok Ts cl mt M (pc, ins, len, a, b, z)) (ht : av_ldk ins = some t) (hk : h[k]? = some (.inl (t', xs))) (htt : (t' == t || (t == 1 && t' == 2) || (t == 4 && t' == 5)) = true) (hv : av_rd xs i = some v)
    (kk : av_Good cl D cy A sv as0 M.1.2.2.2.1 p l e R s m args below meth c Q (pc + len, L, v :: st, h, cN, sN)) : av_Good cl D cy A sv as0 M.1.2.2.2.1 p l e R s m args below meth c Q (pc, L, av_i i :: av_r k :: st, h, cN, sN) := by
  obtain ⟨hx, hb, -, -, -, -, -, -, hK, -⟩ := C0
  obtain ⟨hd, hlen, -⟩ := ok
  intro as ws H locs ls stv has hH hP hD hS hL hst
  obtain ⟨_, stv1, rfl, ⟨n, rfl, hn⟩, hst1⟩ := av_relS_cons hst
  obtain ⟨_, stv2, rfl, ⟨ad, had, rfl⟩, hst2⟩ := av_relS_cons hst1
  obtain ⟨ad', en, e1, e2, hE⟩ := hH.2.2 k _ hk
  cases had.symm.trans e1
  obtain ⟨hin, hg⟩ := av_rd_ok (sv := sv) (as := as) hv hn
  have go := fun x (hx : av_dn sv as v x) => kk as ws H locs ls (x :: stv2) has hH hP hD hS hL ⟨hx, hst2⟩
  dsimp only at go hd ⊢
  simp only [Bool.or_eq_true, Bool.and_eq_true, beq_iff_eq] at htt
  cases ins <;> first | (cases ht; done) | skip
  case iaload =>
    have : len = 1 := by simpa [av_lenok, av_len] using hlen
    subst this
    cases ht
    have : t' = 0 := by omega
    subst this
    rcases hE with ⟨_, f, rfl, hf⟩ | ⟨q, _⟩ | ⟨q, _⟩
    · exact va_iald hx hb hK hP k 0 e2 rfl hin hd (go _ (hg (fun j => .int (f j)) hf))
    · omega
    · omega
  case baload =>
    have : len = 1 := by simpa [av_lenok, av_len] using hlen
    subst this
    cases ht
    rcases (show t' = 1 ∨ t' = 2 by omega) with rfl | rfl
    · rcases hE with ⟨_, f, rfl, hf⟩ | ⟨q, _⟩ | ⟨q, _⟩
      · exact va_bald hx hb hK hP k 1 e2 rfl hin hd (go _ (hg (fun j => .int (f j)) hf))
      · omega
      · omega
    · rcases hE with ⟨_, f, rfl, hf⟩ | ⟨q, _⟩ | ⟨q, _⟩
      · exact va_zald hx hb hK hP k 2 e2 rfl hin hd (go _ (hg (fun j => .int (f j)) hf))
      · omega
      · omega
  case laload =>
    have : len = 1 := by simpa [av_lenok, av_len] using hlen
    subst this
    cases ht
    have : t' = 3 := by omega
    subst this
    rcases hE with ⟨q, _⟩ | ⟨_, f, rfl, hf⟩ | ⟨q, _⟩
    · omega
    · exact va_lald hx hb hK hP k 3 e2 rfl hin hd (go _ (hg (fun j => .long (f j)) hf))
    · omega
  case aaload =>
    have : len = 1 := by simpa [av_lenok, av_len] using hlen
    subst this
    cases ht
    rcases (show t' = 4 ∨ t' = 5 by omega) with rfl | rfl
    · rcases hE with ⟨q, _⟩ | ⟨q, _⟩ | ⟨_, f, rfl, hf⟩
      · omega
      · omega
      · exact va_aldq hx hb hK hP k 4 e2 rfl hin hd (go _ (hg (fun j => va_rf (f j)) hf))
    · rcases hE with ⟨q, _⟩ | ⟨q, _⟩ | ⟨_, f, rfl, hf⟩
      · omega
      · omega
      · exact va_aldq hx hb hK hP k 5 e2 rfl hin hd (go _ (hg (fun j => va_rf (f j)) hf))
theorem av_dn0 {sv : Nat → Value} {as : List Nat} {v : av_V} {x : Int32} (h : av_dn sv [] v (.int x)) : av_dn sv as v (.int x) := av_dn_up (List.nil_prefix) h
theorem av_lds_ok {pc len a b t j : Nat} {ins : Instr} {z : Int} {i : Int × Int} {v : av_V} {xs : List av_V} {L : av_L} {st : List av_V} {h : av_H} {cN sN : Nat} (C0 : av_Cx Ts cl D cy A sv X M p R s m args meth c) (ok : av_ok Ts cl mt M (pc, ins, len, a, b, z)) (ht : av_ldk ins = some t) (hk : av_row X j = some xs) (htt : (t + j == 2) = true) (hv : av_rd xs i = some v)
    (kk : av_Good cl D cy A sv as0 M.1.2.2.2.1 p l e R s m args below meth c Q (pc + len, L, v :: st, h, cN, sN)) : av_Good cl D cy A sv as0 M.1.2.2.2.1 p l e R s m args below meth c Q (pc, L, av_i i :: av_s j :: st, h, cN, sN) := by
  obtain ⟨hx, hb, -, -, -, -, -, -, hK, -, hSF, -⟩ := C0
  obtain ⟨hsv, ⟨q0, q1, a1, a2, a3, a4, a5, a6, f, a7, a8⟩, h2, h3, -, h4⟩ := hSF
  obtain ⟨hd, hlen, -⟩ := ok
  intro as ws H locs ls stv has hH hP hD hS hL hst
  obtain ⟨_, stv1, rfl, ⟨n, rfl, hn⟩, hst1⟩ := av_relS_cons hst
  obtain ⟨x, stv2, rfl, hxs, hst2⟩ := av_relS_cons hst1
  obtain ⟨hin, hg⟩ := av_rd_ok (sv := sv) (as := as) hv hn
  have go := fun x (hx : av_dn sv as v x) => kk as ws H locs ls (x :: stv2) has hH hP hD hS hL ⟨hx, hst2⟩
  dsimp only at go hd ⊢
  simp only [beq_iff_eq] at htt
  rw [show x = sv j from hxs]
  cases ins <;> first | (cases ht; done) | skip
  case iaload =>
    have : len = 1 := by simpa [av_lenok, av_len] using hlen
    subst this
    cases ht
    have : j = 2 := by omega
    subst this
    obtain ⟨bb, f2, b1, b2, b3, b4, b5⟩ := h4 xs hk
    rw [b1]
    exact va_sld hx hb b2 b3 b4 hS hin hd (go _ (hg (fun j => .int (f2 j)) (fun k w hw => av_dn0 (b5 k w hw))))
  case baload =>
    have : len = 1 := by simpa [av_lenok, av_len] using hlen
    subst this
    cases ht
    have : j = 1 := by omega
    subst this
    cases hk
    rw [a2]
    exact va_tb hx hb a7 hS hin rfl hd (go _ (hg (fun j => .int (f j)) (fun k w hw => av_dn0 (a8 k w hw))))
  case laload => cases ht; omega
  case aaload => cases ht; omega
theorem av_len_ok {pc len a b k t : Nat} {z : Int} {xs : List av_V} {L : av_L} {st : List av_V} {h : av_H} {cN sN : Nat} (C0 : av_Cx Ts cl D cy A sv X M p R s m args meth c) (ok : av_ok Ts cl mt M (pc, .arraylength, len, a, b, z)) (hk : h[k]? = some (.inl (t, xs)))
    (kk : av_Good cl D cy A sv as0 M.1.2.2.2.1 p l e R s m args below meth c Q (pc + len, L, av_c (Int32.ofNat xs.length) :: st, h, cN, sN)) : av_Good cl D cy A sv as0 M.1.2.2.2.1 p l e R s m args below meth c Q (pc, L, av_r k :: st, h, cN, sN) := by
  obtain ⟨hx, hb, -, -, -, -, -, -, hK, -⟩ := C0
  obtain ⟨hd, hlen, -⟩ := ok
  intro as ws H locs ls stv has hH hP hD hS hL hst
  obtain ⟨_, stv1, rfl, ⟨ad, had, rfl⟩, hst1⟩ := av_relS_cons hst
  obtain ⟨ad', en, e1, e2, hE⟩ := hH.2.2 k _ hk
  cases had.symm.trans e1
  have : len = 1 := by simpa [av_lenok, av_len] using hlen
  subst this
  have go := kk as ws H locs ls (_ :: stv1) has hH hP hD hS hL ⟨av_dn_c _, hst1⟩
  have hty : ∃ ty, (av_tys cy)[t]? = some (cy t, ty) := by
    rcases hE with ⟨q, _⟩ | ⟨rfl, _⟩ | ⟨rfl | rfl, _⟩
    · rcases (show t = 0 ∨ t = 1 ∨ t = 2 by omega) with rfl | rfl | rfl
      · exact ⟨_, rfl⟩
      · exact ⟨_, rfl⟩
      · exact ⟨_, rfl⟩
    · exact ⟨_, rfl⟩
    · exact ⟨_, rfl⟩
    · exact ⟨_, rfl⟩
  obtain ⟨ty, hty⟩ := hty
  rcases hE with ⟨_, f, rfl, hf⟩ | ⟨_, f, rfl, hf⟩ | ⟨_, f, rfl, hf⟩
  · exact va_alen hx hb hK hP k t e2 hty rfl hd go
  · exact va_alen hx hb hK hP k t e2 hty rfl hd go
  · exact va_alen hx hb hK hP k t e2 hty rfl hd go
theorem av_lens_ok {pc len a b j : Nat} {z : Int} {xs : List av_V} {L : av_L} {st : List av_V} {h : av_H} {cN sN : Nat} (C0 : av_Cx Ts cl D cy A sv X M p R s m args meth c) (ok : av_ok Ts cl mt M (pc, .arraylength, len, a, b, z)) (hk : av_row X j = some xs)
    (kk : av_Good cl D cy A sv as0 M.1.2.2.2.1 p l e R s m args below meth c Q (pc + len, L, av_c (Int32.ofNat xs.length) :: st, h, cN, sN)) : av_Good cl D cy A sv as0 M.1.2.2.2.1 p l e R s m args below meth c Q (pc, L, av_s j :: st, h, cN, sN) := by
  obtain ⟨hx, hb, -, -, -, -, -, -, hK, -, hSF, -⟩ := C0
  obtain ⟨hsv, ⟨q0, q1, a1, a2, a3, a4, a5, a6, f, a7, a8⟩, h2, h3, -, h4⟩ := hSF
  obtain ⟨hd, hlen, -⟩ := ok
  intro as ws H locs ls stv has hH hP hD hS hL hst
  obtain ⟨x, stv1, rfl, hxs, hst1⟩ := av_relS_cons hst
  have : len = 1 := by simpa [av_lenok, av_len] using hlen
  subst this
  have go := kk as ws H locs ls (_ :: stv1) has hH hP hD hS hL ⟨av_dn_c _, hst1⟩
  dsimp only at go hd ⊢
  rw [show x = sv j from hxs]
  match j, hk with
  | 1, hk =>
    cases hk
    rw [a2]
    exact va_tlen hx hb a7 hS rfl hd go
  | 2, hk =>
    obtain ⟨bb, f2, b1, b2, b3, b4, b5⟩ := h4 xs hk
    rw [b1]
    exact va_slen hx hb b2 b3 b4 hS hd go
end AVR
end
section
/-! ===== rows at abstract frames: stores, fields, what is made ===== -/
theorem av_set_get {α : Type} {xs : List α} {i k : Nat} {v w : α} (h : (xs.set i v)[k]? = some w) : (k = i ∧ w = v) ∨ (k ≠ i ∧ xs[k]? = some w) := by
  by_cases hk : i = k
  · subst hk
    have hlt : i < xs.length := by
      have := (List.getElem?_eq_some_iff.mp h).1
      simpa using this
    rw [List.getElem?_set_self hlt] at h
    cases h
    exact .inl ⟨rfl, rfl⟩
  · rw [List.getElem?_set_ne hk] at h
    exact .inr ⟨fun q => hk q.symm, h⟩
section AVR
variable {Ts : List Jvm.Cond} {cl : List vw_C} {D : va_G} {cy : Nat → ClassId} {A : Nat → Prop} {sv : Nat → Value} {as0 : List Nat} {X : av_X} {M : av_M} {mt : Nat → av_M} {F : av_F} {p : Program} {l : Launch} {e : Env} {R : Room} {s : State} {m : MethodId} {args : Array Value} {below : List Frame} {meth : Method} {c : Code} {Q : State → Prop}
theorem av_st_ok {pc len a b t t' k : Nat} {ins : Instr} {z : Int} {i : Int × Int} {v : av_V} {xs : List av_V} {L : av_L} {st : List av_V} {h : av_H} {cN sN : Nat} (C0 : av_Cx Ts cl D cy A sv X M p R s m args meth c) (ok : av_ok Ts cl mt M (pc, ins, len, a, b, z)) (ht : av_stk ins = some t) (ht4 : t ≠ 4) (hk : h[k]? = some (.inl (t', xs))) (htt : (t' == t || (t == 1 && t' == 2) || (t == 4 && t' == 5)) = true)
    (hi : i.1 = i.2) (h0 : 0 ≤ i.1) (hl : i.1 < (xs.length : Int)) (hfit : av_fit t' v = true)
    (kk : av_Good cl D cy A sv as0 M.1.2.2.2.1 p l e R s m args below meth c Q (pc + len, L, st, h.set k (.inl (t', xs.set i.1.toNat v)), cN, sN)) : av_Good cl D cy A sv as0 M.1.2.2.2.1 p l e R s m args below meth c Q (pc, L, v :: av_i i :: av_r k :: st, h, cN, sN) := by
  obtain ⟨hx, hb, -, -, -, -, -, -, hK, -⟩ := C0
  obtain ⟨hd, hlen, -⟩ := ok
  intro as ws H locs ls stv has hH hP hD hS hL hst
  obtain ⟨xv, stv1, rfl, hxv, hst1⟩ := av_relS_cons hst
  obtain ⟨_, stv2, rfl, ⟨n, rfl, hn⟩, hst2⟩ := av_relS_cons hst1
  obtain ⟨_, stv3, rfl, ⟨ad, had, rfl⟩, hst3⟩ := av_relS_cons hst2
  obtain ⟨ad', en, e1, e2, hE⟩ := hH.2.2 k _ hk
  cases had.symm.trans e1
  have hin : vp_in n xs.length := vp_in_iff.mpr ⟨by omega, by omega⟩
  have hcl : n.toNatClampNeg = i.1.toNat := by rw [av_clamp]; omega
  simp only [Bool.or_eq_true, Bool.and_eq_true, beq_iff_eq] at htt
  have hint : ∀ y : Int32, xv = .int y → ∀ (f : Nat → Int32), (∀ (k : Nat) (w : av_V), xs[k]? = some w → av_dn sv as w (.int (f k))) → ∀ (k : Nat) (w : av_V), (xs.set i.1.toNat v)[k]? = some w → av_dn sv as w (.int (upd f n.toNatClampNeg y k)) := by
    intro y hy f hf k w hw
    rw [hcl]
    rcases av_set_get hw with ⟨rfl, rfl⟩ | ⟨q, hw⟩
    · rw [pk_us, ← hy]; exact hxv
    · rw [pk_un q]; exact hf k w hw
  have go := fun (en : va_E) (hE' : av_relE cy sv as (.inl (t', xs.set i.1.toNat v)) en) (H1 : Heap) (locs1 : List Loc) (hP1 : va_P D cl (ws.set k (ad, en)) H1) (hD1 : va_D A (ws.set k (ad, en))) (hS1 : va_S A s.heap H1 locs1) => kk as _ H1 locs1 ls stv3 has (av_relH_set hH e1 hE') hP1 hD1 hS1 hL hst3
  dsimp only at go hd ⊢
  cases ins <;> first | (cases ht; done) | skip
  case iastore =>
    have : len = 1 := by simpa [av_lenok, av_len] using hlen
    subst this
    cases ht
    have : t' = 0 := by omega
    subst this
    obtain ⟨y, rfl⟩ : ∃ y : Int32, xv = .int y := by
      match v, hfit, hxv with
      | .inr (.inl _), _, hxv => obtain ⟨y, q, _⟩ := hxv; exact ⟨y, q⟩
    rcases hE with ⟨_, f, rfl, hf⟩ | ⟨q, _⟩ | ⟨q, _⟩
    · refine va_iast hx hb hK hP hD hS k 0 e2 rfl hin hd fun H1 locs1 hP1 hD1 hS1 => go _ ?_ H1 locs1 hP1 hD1 hS1
      exact .inl ⟨by omega, upd f n.toNatClampNeg y, by simp, hint y rfl f hf⟩
    · omega
    · omega
  case bastore =>
    have : len = 1 := by simpa [av_lenok, av_len] using hlen
    subst this
    cases ht
    obtain ⟨y, hy⟩ : ∃ y : Int32, xv = .int y := by
      rcases (show t' = 1 ∨ t' = 2 by omega) with rfl | rfl
      · match v, hfit, hxv with
        | .inr (.inl _), _, hxv => obtain ⟨y, q, _⟩ := hxv; exact ⟨y, q⟩
      · match v, hfit, hxv with
        | .inr (.inl _), _, hxv => obtain ⟨y, q, _⟩ := hxv; exact ⟨y, q⟩
    rcases (show t' = 1 ∨ t' = 2 by omega) with rfl | rfl
    · have hnar := (av_fit_ok (ty := .byte) hfit hxv).1
      subst hy
      have hnb : vp_nar .byte y = y := by unfold vp_nar; rw [hnar]
      rcases hE with ⟨_, f, rfl, hf⟩ | ⟨q, _⟩ | ⟨q, _⟩
      · refine va_bast hx hb hK hP hD hS k 1 e2 rfl hin hd fun H1 locs1 hP1 hD1 hS1 => go _ ?_ H1 locs1 hP1 hD1 hS1
        exact .inl ⟨by omega, upd f n.toNatClampNeg (vp_nar .byte y), by simp, by rw [hnb]; exact hint y rfl f hf⟩
      · omega
      · omega
    · have hnar := (av_fit_ok (ty := .boolean) hfit hxv).1
      subst hy
      have hnb : vp_nar .boolean y = y := by unfold vp_nar; rw [hnar]
      rcases hE with ⟨_, f, rfl, hf⟩ | ⟨q, _⟩ | ⟨q, _⟩
      · refine va_zast hx hb hK hP hD hS k 2 e2 rfl hin hd fun H1 locs1 hP1 hD1 hS1 => go _ ?_ H1 locs1 hP1 hD1 hS1
        exact .inl ⟨by omega, upd f n.toNatClampNeg (vp_nar .boolean y), by simp, by rw [hnb]; exact hint y rfl f hf⟩
      · omega
      · omega
  case aastore => cases ht; exact absurd rfl ht4
theorem av_sta_ok {pc len a b t' k j ci : Nat} {z : Int} {i : Int × Int} {xs fs : List av_V} {L : av_L} {st : List av_V} {h : av_H} {cN sN : Nat} (C0 : av_Cx Ts cl D cy A sv X M p R s m args meth c) (ok : av_ok Ts cl mt M (pc, .aastore, len, a, b, z)) (hcl4 : ∃ T N, cl[1]? = some ("SagGates$Gate", T, N)) (hcl5 : ∃ T N, cl[7]? = some ("SagGates$Told", T, N)) (hk : h[k]? = some (.inl (t', xs))) (htt : t' = 4 ∨ t' = 5)
    (hi : i.1 = i.2) (h0 : 0 ≤ i.1) (hl : i.1 < (xs.length : Int)) (hj : h[j]? = some (.inr (ci, fs))) (hci : ci = (bif t' == 4 then 1 else 7))
    (kk : av_Good cl D cy A sv as0 M.1.2.2.2.1 p l e R s m args below meth c Q (pc + len, L, st, h.set k (.inl (t', xs.set i.1.toNat (av_r j))), cN, sN)) : av_Good cl D cy A sv as0 M.1.2.2.2.1 p l e R s m args below meth c Q (pc, L, av_r j :: av_i i :: av_r k :: st, h, cN, sN) := by
  obtain ⟨hx, hb, -, -, -, -, -, -, hK, -⟩ := C0
  obtain ⟨hd, hlen, -⟩ := ok
  intro as ws H locs ls stv has hH hP hD hS hL hst
  obtain ⟨_, stv1, rfl, ⟨aj, haj, rfl⟩, hst1⟩ := av_relS_cons hst
  obtain ⟨_, stv2, rfl, ⟨n, rfl, hn⟩, hst2⟩ := av_relS_cons hst1
  obtain ⟨_, stv3, rfl, ⟨ad, had, rfl⟩, hst3⟩ := av_relS_cons hst2
  obtain ⟨ad', en, e1, e2, hE⟩ := hH.2.2 k _ hk
  cases had.symm.trans e1
  obtain ⟨aj', ej, j1, j2, hEj⟩ := hH.2.2 j _ hj
  cases haj.symm.trans j1
  obtain ⟨vs, rfl, -, -⟩ := hEj
  have hin : vp_in n xs.length := vp_in_iff.mpr ⟨by omega, by omega⟩
  have hcl : n.toNatClampNeg = i.1.toNat := by rw [av_clamp]; omega
  have : len = 1 := by simpa [av_lenok, av_len] using hlen
  subst this
  have go := fun (en : va_E) (hE' : av_relE cy sv as (.inl (t', xs.set i.1.toNat (av_r j))) en) (H1 : Heap) (locs1 : List Loc) (hP1 : va_P D cl (ws.set k (ad, en)) H1) (hD1 : va_D A (ws.set k (ad, en))) (hS1 : va_S A s.heap H1 locs1) => kk as _ H1 locs1 ls stv3 has (av_relH_set hH e1 hE') hP1 hD1 hS1 hL hst3
  dsimp only at go hd ⊢
  have hup : ∀ (f : Nat → Option Nat), (∀ (k : Nat) (w : av_V), xs[k]? = some w → av_dn sv as w (va_rf (f k))) → ∀ (k : Nat) (w : av_V), (xs.set i.1.toNat (av_r j))[k]? = some w → av_dn sv as w (va_rf (va_up f n.toNatClampNeg (some aj) k)) := by
    intro f hf k w hw
    rw [hcl]
    rcases av_set_get hw with ⟨rfl, rfl⟩ | ⟨q, hw⟩
    · rw [va_up_self]; exact ⟨aj, haj, rfl⟩
    · rw [va_up_ne _ _ q]; exact hf k w hw
  rcases htt with rfl | rfl
  · subst hci
    obtain ⟨T, N, hc4⟩ := hcl4
    rcases hE with ⟨q, _⟩ | ⟨q, _⟩ | ⟨_, f, rfl, hf⟩
    · omega
    · omega
    · refine va_astq hx hb hK hP hD hS k 4 j 1 (r := ("SagGates$Gate", T, N)) e2 rfl j2 hc4 hin hd fun H1 locs1 hP1 hD1 hS1 => go _ ?_ H1 locs1 hP1 hD1 hS1
      exact .inr (.inr ⟨.inl rfl, va_up f n.toNatClampNeg (some aj), by simp, hup f hf⟩)
  · subst hci
    obtain ⟨T, N, hc5⟩ := hcl5
    rcases hE with ⟨q, _⟩ | ⟨q, _⟩ | ⟨_, f, rfl, hf⟩
    · omega
    · omega
    · refine va_astq hx hb hK hP hD hS k 5 j 7 (r := ("SagGates$Told", T, N)) e2 rfl j2 hc5 hin hd fun H1 locs1 hP1 hD1 hS1 => go _ ?_ H1 locs1 hP1 hD1 hS1
      exact .inr (.inr ⟨.inr rfl, va_up f n.toNatClampNeg (some aj), by simp, hup f hf⟩)
theorem av_getf_ok {pc len a b k i : Nat} {z : Int} {v : av_V} {fs : List av_V} {L : av_L} {st : List av_V} {h : av_H} {cN sN : Nat} (C0 : av_Cx Ts cl D cy A sv X M p R s m args meth c) (hcls : av_cls Ts cl F) (ok : av_ok Ts cl mt M (pc, .getfield i, len, a, b, z)) (hk : h[k]? = some (.inr (a, fs))) (hv : fs[b]? = some v) (ha : a ≠ 100)
    (kk : av_Good cl D cy A sv as0 M.1.2.2.2.1 p l e R s m args below meth c Q (pc + len, L, v :: st, h, cN, sN)) : av_Good cl D cy A sv as0 M.1.2.2.2.1 p l e R s m args below meth c Q (pc, L, av_r k :: st, h, cN, sN) := by
  obtain ⟨hx, hb, hml, hown, hts, hr, hlk, hnm, hK, -⟩ := C0
  obtain ⟨hd, hlen, hok⟩ := ok
  intro as ws H locs ls stv has hH hP hD hS hL hst
  obtain ⟨_, stv1, rfl, ⟨ad, had, rfl⟩, hst1⟩ := av_relS_cons hst
  obtain ⟨ad', en, e1, e2, hE⟩ := hH.2.2 k _ hk
  cases had.symm.trans e1
  obtain ⟨vs, rfl, g1, g2⟩ := hE
  obtain ⟨x, g3, g4⟩ := g2 b v hv
  have : len = 3 := by simpa [av_lenok, av_len] using hlen
  subst this
  obtain ⟨C, T, N, c1, c2, c3⟩ := hok.2 ha
  exact va_get hx hb hts (hcls a C T N c1).1 hown hK hP k e2 c1 b c2 (hts _ c3) (fun x h => h) g3 hd (kk as ws H locs ls (x :: stv1) has hH hP hD hS hL ⟨g4, hst1⟩)
theorem av_getS_ok {pc len b i : Nat} {z : Int} {L : av_L} {st : List av_V} {h : av_H} {cN sN : Nat} (C0 : av_Cx Ts cl D cy A sv X M p R s m args meth c) (ok : av_ok Ts cl mt M (pc, .getfield i, len, 100, b, z))
    (kk : av_Good cl D cy A sv as0 M.1.2.2.2.1 p l e R s m args below meth c Q (pc + len, L, (bif b == 0 then av_s 1 else av_c 0) :: st, h, cN, sN)) : av_Good cl D cy A sv as0 M.1.2.2.2.1 p l e R s m args below meth c Q (pc, L, av_s 0 :: st, h, cN, sN) := by
  obtain ⟨hx, hb, hml, hown, hts, hr, hlk, hnm, hK, -, hSF, -⟩ := C0
  obtain ⟨hsv, ⟨q0, q1, a1, a2, a3, a4, a5, a6, f, a7, a8⟩, h2, h3, -, h4⟩ := hSF
  obtain ⟨hd, hlen, hok⟩ := ok
  intro as ws H locs ls stv has hH hP hD hS hL hst
  obtain ⟨x, stv1, rfl, hxs, hst1⟩ := av_relS_cons hst
  have : len = 3 := by simpa [av_lenok, av_len] using hlen
  subst this
  have hok1 := hok.1 rfl
  have go := fun x (hx : av_dn sv as (bif b == 0 then av_s 1 else av_c 0) x) => kk as ws H locs ls (x :: stv1) has hH hP hD hS hL ⟨hx, hst1⟩
  dsimp only at go hd hok1 ⊢
  rw [show x = sv 0 from hxs, a1]
  by_cases hb0 : b = 0
  · subst hb0
    exact vk_getf hx hb a5 hS hown (hts _ (hok1.1 rfl)) (fun x h => h) hd (go _ a2.symm)
  · have e : (b == 0) = false := by simpa using hb0
    rw [e] at go
    exact vk_getf hx hb a6 hS hown (hts _ (hok1.2 hb0)) (fun x h => h) hd (go _ (av_dn_c 0))
theorem av_putf_ok {pc len a b k i : Nat} {z : Int} {v : av_V} {fs : List av_V} {L : av_L} {st : List av_V} {h : av_H} {cN sN : Nat} (C0 : av_Cx Ts cl D cy A sv X M p R s m args meth c) (hcls : av_cls Ts cl F) (ok : av_ok Ts cl mt M (pc, .putfield i, len, a, b, z)) (hk : h[k]? = some (.inr (a, fs))) (hbl : b < fs.length) (hfit : av_fit z.toNat v = true)
    (kk : av_Good cl D cy A sv as0 M.1.2.2.2.1 p l e R s m args below meth c Q (pc + len, L, st, h.set k (.inr (a, fs.set b v)), cN, sN)) : av_Good cl D cy A sv as0 M.1.2.2.2.1 p l e R s m args below meth c Q (pc, L, v :: av_r k :: st, h, cN, sN) := by
  obtain ⟨hx, hb, hml, hown, hts, hr, hlk, hnm, hK, -⟩ := C0
  obtain ⟨hd, hlen, hok⟩ := ok
  intro as ws H locs ls stv has hH hP hD hS hL hst
  obtain ⟨xv, stv1, rfl, hxv, hst1⟩ := av_relS_cons hst
  obtain ⟨_, stv2, rfl, ⟨ad, had, rfl⟩, hst2⟩ := av_relS_cons hst1
  obtain ⟨ad', en, e1, e2, hE⟩ := hH.2.2 k _ hk
  cases had.symm.trans e1
  obtain ⟨vs, rfl, g1, g2⟩ := hE
  have : len = 3 := by simpa [av_lenok, av_len] using hlen
  subst this
  obtain ⟨C, T, N, ty, c1, c2, c3, c4, c5, c6⟩ := hok
  dsimp only at c1 c2 c3 c4 c5 c6
  rw [← c5] at hfit
  obtain ⟨f1, f2⟩ := av_fit_ok hfit hxv
  obtain ⟨k1, k2, tys0, ks, k3, -⟩ := hcls a C T N c1
  have hE' : av_relE cy sv as (.inr (a, fs.set b v)) (.inr (a, vs.set b xv)) := by
    refine ⟨_, rfl, by simpa using g1, fun j w hw => ?_⟩
    rcases av_set_get hw with ⟨rfl, rfl⟩ | ⟨q, hw⟩
    · exact ⟨xv, List.getElem?_set_self (by omega), hxv⟩
    · obtain ⟨y, y1, y2⟩ := g2 j w hw
      exact ⟨y, by rw [List.getElem?_set_ne (fun q' => q q'.symm)]; exact y1, y2⟩
  have go := fun (H1 : Heap) (locs1 : List Loc) (hP1 : va_P D cl (ws.set k (ad, .inr (a, vs.set b xv))) H1) (hD1 : va_D A (ws.set k (ad, .inr (a, vs.set b xv)))) (hS1 : va_S A s.heap H1 locs1) => kk as _ H1 locs1 ls stv2 has (av_relH_set hH e1 hE') hP1 hD1 hS1 hL hst2
  cases hfin : (T b).2.2.2 with
  | false => exact va_put hx hb hts k1 tys0 k3 k2 hown hK hP hD hS k e2 c1 b c2 (hts _ c3) (fun x h => h) hfin c4 f1 f2 (by omega) hd go
  | true =>
    obtain ⟨d1, d2⟩ := c6 hfin
    exact va_putF hx hb hts k1 tys0 k3 k2 hown hK hP hD hS k e2 c1 b c2 (hts _ c3) (fun x h => h) hfin (hnm.trans d1) d2 c4 f1 f2 (by omega) hd go
end AVR
end
section
/-! ===== rows at abstract frames: what is made; Object.<init> ===== -/
def av_dv (t : Nat) : Value := match t with
  | 3 => .long 0
  | 4 => .null
  | 5 => .null
  | _ => .int 0
theorem av_dv_ok {sv : Nat → Value} {as : List Nat} {t : Nat} (h : t ≤ 4) : av_dn sv as (av_dfl t) (av_dv t) := by
  match t, h with
  | 0, _ => exact ⟨0, rfl, by decide, by decide⟩
  | 1, _ => exact ⟨0, rfl, by decide, by decide⟩
  | 2, _ => exact ⟨0, rfl, by decide, by decide⟩
  | 3, _ => exact ⟨0, rfl, by decide, by decide⟩
  | 4, _ => exact rfl
theorem av_dv_ty {ty : FieldType} (h : av_kd ty ≤ 4) : defaultValue ty = av_dv (av_kd ty) := by
  cases ty <;> first | rfl | (simp [av_kd] at h)
theorem av_rep {α : Type} {n k : Nat} {x y : α} (h : (List.replicate n x)[k]? = some y) : y = x := by
  rw [List.getElem?_replicate] at h
  split at h
  · cases h; rfl
  · cases h
section AVR
variable {Ts : List Jvm.Cond} {cl : List vw_C} {D : va_G} {cy : Nat → ClassId} {A : Nat → Prop} {sv : Nat → Value} {as0 : List Nat} {X : av_X} {M : av_M} {mt : Nat → av_M} {F : av_F} {p : Program} {l : Launch} {e : Env} {R : Room} {s : State} {m : MethodId} {args : Array Value} {below : List Frame} {meth : Method} {c : Code} {Q : State → Prop}
theorem av_new_ok {pc len a b i : Nat} {z : Int} {ks : List Nat} {L : av_L} {st : List av_V} {h : av_H} {cN sN : Nat} (C0 : av_Cx Ts cl D cy A sv X M p R s m args meth c) (hcls : av_cls Ts cl F) (ok : av_ok Ts cl mt M (pc, .new i, len, a, b, z)) (hks : F[a]? = some ks) (h1 : cN + 1 ≤ M.2.2.1) (h2 : sN + ks.length ≤ M.2.2.2.1)
    (kk : av_Good cl D cy A sv as0 M.1.2.2.2.1 p l e R s m args below meth c Q (pc + len, L, av_r h.length :: st, h ++ [.inr (a, ks.map av_dfl)], cN + 1, sN + ks.length)) : av_Good cl D cy A sv as0 M.1.2.2.2.1 p l e R s m args below meth c Q (pc, L, st, h, cN, sN) := by
  obtain ⟨hx, hb, hml, hown, hts, hr, hlk, hnm, hK, hA, hSF, r1, r2, -⟩ := C0
  obtain ⟨hd, hlen, hok⟩ := ok
  intro as ws H locs ls stv has hH hP hD hS hL hst
  have : len = 3 := by simpa [av_lenok, av_len] using hlen
  subst this
  obtain ⟨C, T, N, c1, c2, c3, c4⟩ := hok
  dsimp only at c1 c2 c3 c4
  obtain ⟨k1, k2, ty, ks', k3, k4, k5, k6⟩ := hcls a C T N c1
  cases hks.symm.trans k4
  have hfs : ∀ j, j < N → defaultValue (ty j) = vp_V (ks.map av_dv) j := by
    intro j hj
    obtain ⟨q1, q2, -⟩ := k6 j hj
    rw [av_dv_ty q2]
    unfold vp_V
    rw [List.getD_eq_getElem?_getD, List.getElem?_map, q1]
    rfl
  subst k5
  refine va_new hx hb hts k1 ty k3 hown (hts _ c2) (hts _ c3) (hts _ c4) hK hP hD hS hA c1 hfs (by rw [r1]; exact h1) (by rw [r2]; exact h2) hd fun q H1 hP1 hD1 hS1 => ?_
  have hpre : as <+: as ++ [q] := List.prefix_append _ _
  refine kk (as ++ [q]) _ H1 locs ls (.ref q :: stv) (has.trans hpre) (av_relH_push hH (e := .inr (a, ks.map av_dv)) ?_) hP1 hD1 hS1 (av_relL_up hpre hL) ⟨⟨q, ?_, rfl⟩, av_relS_up hpre hst⟩
  · refine ⟨_, rfl, by simp, fun j w hw => ?_⟩
    rw [List.getElem?_map] at hw ⊢
    cases hkj : ks[j]? with
    | none => rw [hkj] at hw; cases hw
    | some t =>
      rw [hkj] at hw
      cases hw
      have hjl := (List.getElem?_eq_some_iff.mp hkj).1
      obtain ⟨q1, q2, -⟩ := k6 j hjl
      cases hkj.symm.trans q1
      exact ⟨_, rfl, av_dv_ok q2⟩
  · rw [← hH.1, List.getElem?_append_right (Nat.le_refl _)]
    simp
theorem av_newa_ok {pc len a b : Nat} {at0 : ArrayType} {z : Int} {u : Int × Int} {L : av_L} {st : List av_V} {h : av_H} {cN sN : Nat} (C0 : av_Cx Ts cl D cy A sv X M p R s m args meth c) (ok : av_ok Ts cl mt M (pc, .newarray at0, len, a, b, z)) (hu : u.1 = u.2) (h0 : 0 ≤ u.1) (hm : u.1 ≤ 10000) (ha : a ≤ 3) (h1 : cN + 1 ≤ M.2.2.1) (h2 : sN + u.1.toNat ≤ M.2.2.2.1)
    (kk : av_Good cl D cy A sv as0 M.1.2.2.2.1 p l e R s m args below meth c Q (pc + len, L, av_r h.length :: st, h ++ [.inl (a, List.replicate u.1.toNat (av_dfl a))], cN + 1, sN + u.1.toNat)) : av_Good cl D cy A sv as0 M.1.2.2.2.1 p l e R s m args below meth c Q (pc, L, av_i u :: st, h, cN, sN) := by
  obtain ⟨hx, hb, hml, hown, hts, hr, hlk, hnm, hK, hA, hSF, r1, r2, -⟩ := C0
  obtain ⟨hd, hlen, hok⟩ := ok
  intro as ws H locs ls stv has hH hP hD hS hL hst
  obtain ⟨_, stv1, rfl, ⟨n, rfl, hn⟩, hst1⟩ := av_relS_cons hst
  have : len = 2 := by simpa [av_lenok, av_len] using hlen
  subst this
  obtain ⟨c1, c2⟩ := hok
  dsimp only at c1 c2
  have hn0 : ¬ n < 0 := by rw [Int32.lt_iff_toInt_lt]; have : (0 : Int32).toInt = 0 := by decide
                           omega
  have hcl : n.toNatClampNeg = u.1.toNat := by rw [av_clamp]; omega
  have go := fun (q : Nat) (en : va_E) (H1 : Heap) (hE : av_relE cy sv (as ++ [q]) (.inl (a, List.replicate u.1.toNat (av_dfl a))) en) (hP1 : va_P D cl (ws ++ [(q, en)]) H1) (hD1 : va_D A (ws ++ [(q, en)])) (hS1 : va_S A s.heap H1 locs) =>
    kk (as ++ [q]) _ H1 locs ls (.ref q :: stv1) (has.trans (List.prefix_append _ _)) (av_relH_push hH hE) hP1 hD1 hS1 (av_relL_up (List.prefix_append _ _) hL) ⟨⟨q, by rw [← hH.1, List.getElem?_append_right (Nat.le_refl _)]; simp, rfl⟩, av_relS_up (List.prefix_append _ _) hst1⟩
  dsimp only at go hd ⊢
  cases at0 <;> first | (exfalso; simp [av_ak] at c2; omega) | skip
  case int =>
    cases c2
    refine va_newa (a0 := (u.1.toNat, .inl fun _ => 0)) (N' := u.1.toNat) hx hb (hts _ c1) rfl hK hP hD hS hA (fun _ => rfl) hn0 hcl (Nat.le_trans (Nat.mul_le_mul (show u.1.toNat ≤ 10000 by omega) (show componentBytes .int ≤ 8 by decide)) (by decide)) (by rw [r1]; exact h1) (by rw [r2]; exact h2) hd fun q cA H1 hK1 hP1 hD1 hS1 => ?_
    have e : cA = cy 0 := Option.some.inj ((show s.vm.findClass _ = some cA from (hK1.2 6 (cA, .int) rfl).2).symm.trans (show s.vm.findClass _ = some (cy 0) from (hK.2 0 _ rfl).2))
    subst e
    exact go q (.inl (cy 0, u.1.toNat, .inl fun _ => 0)) H1 (.inl ⟨by decide, fun _ => 0, by (simp only [List.length_replicate]) <;> rfl, fun k w hw => by rw [av_rep hw]; exact ⟨0, rfl, by decide, by decide⟩⟩) hP1 hD1 hS1
  case byte =>
    cases c2
    refine va_newa (a0 := (u.1.toNat, .inl fun _ => 0)) (N' := u.1.toNat) hx hb (hts _ c1) rfl hK hP hD hS hA (fun _ => rfl) hn0 hcl (Nat.le_trans (Nat.mul_le_mul (show u.1.toNat ≤ 10000 by omega) (show componentBytes .byte ≤ 8 by decide)) (by decide)) (by rw [r1]; exact h1) (by rw [r2]; exact h2) hd fun q cA H1 hK1 hP1 hD1 hS1 => ?_
    have e : cA = cy 1 := Option.some.inj ((show s.vm.findClass _ = some cA from (hK1.2 6 (cA, .byte) rfl).2).symm.trans (show s.vm.findClass _ = some (cy 1) from (hK.2 1 _ rfl).2))
    subst e
    exact go q (.inl (cy 1, u.1.toNat, .inl fun _ => 0)) H1 (.inl ⟨by decide, fun _ => 0, by (simp only [List.length_replicate]) <;> rfl, fun k w hw => by rw [av_rep hw]; exact ⟨0, rfl, by decide, by decide⟩⟩) hP1 hD1 hS1
  case boolean =>
    cases c2
    refine va_newa (a0 := (u.1.toNat, .inl fun _ => 0)) (N' := u.1.toNat) hx hb (hts _ c1) rfl hK hP hD hS hA (fun _ => rfl) hn0 hcl (Nat.le_trans (Nat.mul_le_mul (show u.1.toNat ≤ 10000 by omega) (show componentBytes .boolean ≤ 8 by decide)) (by decide)) (by rw [r1]; exact h1) (by rw [r2]; exact h2) hd fun q cA H1 hK1 hP1 hD1 hS1 => ?_
    have e : cA = cy 2 := Option.some.inj ((show s.vm.findClass _ = some cA from (hK1.2 6 (cA, .boolean) rfl).2).symm.trans (show s.vm.findClass _ = some (cy 2) from (hK.2 2 _ rfl).2))
    subst e
    exact go q (.inl (cy 2, u.1.toNat, .inl fun _ => 0)) H1 (.inl ⟨by decide, fun _ => 0, by (simp only [List.length_replicate]) <;> rfl, fun k w hw => by rw [av_rep hw]; exact ⟨0, rfl, by decide, by decide⟩⟩) hP1 hD1 hS1
  case long =>
    cases c2
    refine va_newa (a0 := (u.1.toNat, .inr (.inl fun _ => 0))) (N' := u.1.toNat) hx hb (hts _ c1) rfl hK hP hD hS hA (fun _ => rfl) hn0 hcl (Nat.le_trans (Nat.mul_le_mul (show u.1.toNat ≤ 10000 by omega) (show componentBytes .long ≤ 8 by decide)) (by decide)) (by rw [r1]; exact h1) (by rw [r2]; exact h2) hd fun q cA H1 hK1 hP1 hD1 hS1 => ?_
    have e : cA = cy 3 := Option.some.inj ((show s.vm.findClass _ = some cA from (hK1.2 6 (cA, .long) rfl).2).symm.trans (show s.vm.findClass _ = some (cy 3) from (hK.2 3 _ rfl).2))
    subst e
    exact go q (.inl (cy 3, u.1.toNat, .inr (.inl fun _ => 0))) H1 (.inr (.inl ⟨rfl, fun _ => 0, by (simp only [List.length_replicate]) <;> rfl, fun k w hw => by rw [av_rep hw]; exact ⟨0, rfl, by decide, by decide⟩⟩)) hP1 hD1 hS1
theorem av_anew_ok {pc len a b i : Nat} {z : Int} {u : Int × Int} {L : av_L} {st : List av_V} {h : av_H} {cN sN : Nat} (C0 : av_Cx Ts cl D cy A sv X M p R s m args meth c) (ok : av_ok Ts cl mt M (pc, .anewarray i, len, a, b, z)) (hu : u.1 = u.2) (h0 : 0 ≤ u.1) (hm : u.1 ≤ 10000) (ha : a = 4 ∨ a = 5) (h1 : cN + 1 ≤ M.2.2.1) (h2 : sN + u.1.toNat ≤ M.2.2.2.1)
    (kk : av_Good cl D cy A sv as0 M.1.2.2.2.1 p l e R s m args below meth c Q (pc + len, L, av_r h.length :: st, h ++ [.inl (a, List.replicate u.1.toNat (.inl none))], cN + 1, sN + u.1.toNat)) : av_Good cl D cy A sv as0 M.1.2.2.2.1 p l e R s m args below meth c Q (pc, L, av_i u :: st, h, cN, sN) := by
  obtain ⟨hx, hb, hml, hown, hts, hr, hlk, hnm, hK, hA, hSF, r1, r2, -⟩ := C0
  obtain ⟨hd, hlen, hok⟩ := ok
  intro as ws H locs ls stv has hH hP hD hS hL hst
  obtain ⟨_, stv1, rfl, ⟨n, rfl, hn⟩, hst1⟩ := av_relS_cons hst
  have : len = 3 := by simpa [av_lenok, av_len] using hlen
  subst this
  have c1 := hok
  dsimp only at c1
  obtain ⟨-, -, -, -, ⟨-, ao1, ao2⟩, -⟩ := hSF
  have hn0 : ¬ n < 0 := by rw [Int32.lt_iff_toInt_lt]; have : (0 : Int32).toInt = 0 := by decide
                           omega
  have hcl : n.toNatClampNeg = u.1.toNat := by rw [av_clamp]; omega
  have go := fun (q : Nat) (en : va_E) (H1 : Heap) (hE : av_relE cy sv (as ++ [q]) (.inl (a, List.replicate u.1.toNat (.inl none))) en) (hP1 : va_P D cl (ws ++ [(q, en)]) H1) (hD1 : va_D A (ws ++ [(q, en)])) (hS1 : va_S A s.heap H1 locs) =>
    kk (as ++ [q]) _ H1 locs ls (.ref q :: stv1) (has.trans (List.prefix_append _ _)) (av_relH_push hH hE) hP1 hD1 hS1 (av_relL_up (List.prefix_append _ _) hL) ⟨⟨q, by rw [← hH.1, List.getElem?_append_right (Nat.le_refl _)]; simp, rfl⟩, av_relS_up (List.prefix_append _ _) hst1⟩
  dsimp only at go hd ⊢
  rcases ha with rfl | rfl
  · refine va_newq (N' := u.1.toNat) hx hb hown (hts _ c1) ao1 hK hP hD hS hA hn0 hcl (by omega) (by rw [r1]; exact h1) (by rw [r2]; exact h2) hd fun q cA H1 hK1 hP1 hD1 hS1 => ?_
    obtain ⟨_, _, _, _, _, w1⟩ := (hK1.2 6 (cA, .object "SagGates$Gate") rfl).2
    obtain ⟨_, _, _, _, _, w2⟩ := (hK.2 4 _ rfl).2
    have e : cA = cy 4 := Option.some.inj (w1.symm.trans w2)
    subst e
    exact go q (.inl (cy 4, u.1.toNat, .inr (.inr (.inr (.inr fun _ => none))))) H1 (.inr (.inr ⟨.inl rfl, fun _ => none, by (simp only [List.length_replicate]) <;> rfl, fun k w hw => by rw [av_rep hw]; rfl⟩)) hP1 hD1 hS1
  · refine va_newq (N' := u.1.toNat) hx hb hown (hts _ c1) ao2 hK hP hD hS hA hn0 hcl (by omega) (by rw [r1]; exact h1) (by rw [r2]; exact h2) hd fun q cA H1 hK1 hP1 hD1 hS1 => ?_
    obtain ⟨_, _, _, _, _, w1⟩ := (hK1.2 6 (cA, .object "SagGates$Told") rfl).2
    obtain ⟨_, _, _, _, _, w2⟩ := (hK.2 5 _ rfl).2
    have e : cA = cy 5 := Option.some.inj (w1.symm.trans w2)
    subst e
    exact go q (.inl (cy 5, u.1.toNat, .inr (.inr (.inr (.inr fun _ => none))))) H1 (.inr (.inr ⟨.inr rfl, fun _ => none, by (simp only [List.length_replicate]) <;> rfl, fun k w hw => by rw [av_rep hw]; rfl⟩)) hP1 hD1 hS1
theorem av_mm_ok {pc len a b i : Nat} {z : Int} {u w : Int × Int} {L : av_L} {st : List av_V} {h : av_H} {cN sN : Nat} (C0 : av_Cx Ts cl D cy A sv X M p R s m args meth c) (ok : av_ok Ts cl mt M (pc, .invokestatic i, len, a, b, z)) (ha : a = 9001 ∨ a = 9002) (h1 : 1 ≤ M.2.2.2.2.1) (h2 : av_wid st + 13 ≤ M.2.2.2.2.2) (h3 : cN ≤ M.2.2.1) (h4 : sN ≤ M.2.2.2.1)
    (kk : av_Good cl D cy A sv as0 M.1.2.2.2.1 p l e R s m args below meth c Q (pc + len, L, av_i (bif a == 9001 then av_b2 (fun x y => if x < y then y else x) u w else av_b2 (fun x y => if y < x then y else x) u w) :: st, h, cN, sN)) : av_Good cl D cy A sv as0 M.1.2.2.2.1 p l e R s m args below meth c Q (pc, L, av_i w :: av_i u :: st, h, cN, sN) := by
  obtain ⟨hx, hb, hml, hown, hts, hr, hlk, hnm, hK, hA, hSF, r1, r2, r3, r4⟩ := C0
  obtain ⟨hsv, -⟩ := hSF
  obtain ⟨hd, hlen, hok⟩ := ok
  intro as ws H locs ls stv has hH hP hD hS hL hst
  obtain ⟨_, stv1, rfl, ⟨y, rfl, hy⟩, hst1⟩ := av_relS_cons hst
  obtain ⟨_, stv2, rfl, ⟨x, rfl, hx'⟩, hst2⟩ := av_relS_cons hst1
  have : len = 3 := by simpa [av_lenok, av_len] using hlen
  subst this
  have hls : ls.size = M.1.2.2.2.1 := by obtain ⟨lv, g, -⟩ := hL; exact g.1
  have hw := av_wid_ok hsv hst2
  have go := fun x (hx : av_dn sv as (av_i (bif a == 9001 then av_b2 (fun x y => if x < y then y else x) u w else av_b2 (fun x y => if y < x then y else x) u w)) x) => kk as ws H locs ls (x :: stv2) has hH hP hD hS hL ⟨hx, hst2⟩
  dsimp only at go hd hok ⊢
  rcases ha with rfl | rfl
  · obtain ⟨c1, c2, c3, c4⟩ := hok.1 rfl
    exact va_mmax hx hb (by rw [hml]; exact hls.symm) hown (hts _ c1) (hts _ c2) (hts _ c3) (hts _ c4) (by omega) (by rw [hw]; omega) (by omega) (by omega) hd (go _ ⟨_, rfl, av_b2_ok (fun x y => if x < y then y else x) hx' hy⟩)
  · obtain ⟨c1, c2, c3, c4⟩ := hok.2.1 rfl
    exact va_mmin hx hb (by rw [hml]; exact hls.symm) hown (hts _ c1) (hts _ c2) (hts _ c3) (hts _ c4) (by omega) (by rw [hw]; omega) (by omega) (by omega) hd (go _ ⟨_, rfl, av_b2_ok (fun x y => if y < x then y else x) hx' hy⟩)
theorem av_obj_ok {pc len a b i k : Nat} {z : Int} {L : av_L} {st : List av_V} {h : av_H} {cN sN : Nat} (C0 : av_Cx Ts cl D cy A sv X M p R s m args meth c) (ok : av_ok Ts cl mt M (pc, .invokespecial i, len, a, b, z)) (ha : a = 9999) (h1 : 1 ≤ M.2.2.2.2.1) (h2 : av_wid st + 12 ≤ M.2.2.2.2.2)
    (kk : av_Good cl D cy A sv as0 M.1.2.2.2.1 p l e R s m args below meth c Q (pc + len, L, st, h, cN, sN)) : av_Good cl D cy A sv as0 M.1.2.2.2.1 p l e R s m args below meth c Q (pc, L, av_r k :: st, h, cN, sN) := by
  obtain ⟨hx, hb, hml, hown, hts, hr, hlk, hnm, hK, hA, hSF, r1, r2, r3, r4⟩ := C0
  obtain ⟨hsv, -⟩ := hSF
  obtain ⟨hd, hlen, hok⟩ := ok
  intro as ws H locs ls stv has hH hP hD hS hL hst
  obtain ⟨_, stv1, rfl, ⟨ad, had, rfl⟩, hst1⟩ := av_relS_cons hst
  have : len = 3 := by simpa [av_lenok, av_len] using hlen
  subst this
  obtain ⟨c1, c2, c3⟩ := hok.1 ha
  have hls : ls.size = M.1.2.2.2.1 := by obtain ⟨lv, g, -⟩ := hL; exact g.1
  have hw := av_wid_ok hsv hst1
  exact W.objInit hx hb hown (hts _ c1) (hts _ c2) (hts _ c3) rfl (by rw [hml]; exact hls) rfl hd (by omega) (by show 2 * 0 + _ + 12 ≤ _; rw [hw]; omega) (kk as ws H locs ls stv1 has hH hP hD hS hL hst1)
end AVR
end
section
/-! ===== one instruction of the evaluator ===== -/
theorem av_bif {α : Type} {b : Bool} {x : Option α} {y : α} (h : (bif b then x else none) = some y) : b = true ∧ x = some y := by
  cases b with
  | true => exact ⟨rfl, h⟩
  | false => cases h
section AVR
variable {Ts : List Jvm.Cond} {cl : List vw_C} {D : va_G} {cy : Nat → ClassId} {A : Nat → Prop} {sv : Nat → Value} {as0 : List Nat} {X : av_X} {M : av_M} {mt : Nat → av_M} {F : av_F} {p : Program} {l : Launch} {e : Env} {R : Room} {s : State} {m : MethodId} {args : Array Value} {below : List Frame} {meth : Method} {c : Code} {Q : State → Prop}
set_option maxHeartbeats 4000000 in
theorem av_one_ok {q : av_Q} {S : av_S} {ss : List av_S} (C0 : av_Cx Ts cl D cy A sv X M p R s m args meth c) (hcls : av_cls Ts cl F) (hcl4 : ∃ T N, cl[1]? = some ("SagGates$Gate", T, N)) (hcl5 : ∃ T N, cl[7]? = some ("SagGates$Told", T, N)) (h100 : cl.length ≤ 100) (ok : av_ok Ts cl mt M q) (hq : q.1 = S.1) (h : av_one X F q S = some ss)
    (k : ∀ S' ∈ ss, av_Good cl D cy A sv as0 M.1.2.2.2.1 p l e R s m args below meth c Q S') : av_Good cl D cy A sv as0 M.1.2.2.2.1 p l e R s m args below meth c Q S := by
  obtain ⟨pc, ins, len, a, b, z⟩ := q
  obtain ⟨pc', L, st, hp, cN, sN⟩ := S
  dsimp only at hq
  subst hq
  unfold av_one at h
  dsimp only at h
  cases hpush : av_push (pc, ins, len, a, b, z) with
  | some v =>
    rw [hpush] at h
    cases h
    exact av_push_ok C0 ok hpush (k _ (by simp))
  | none =>
  rw [hpush] at h
  dsimp only at h
  cases hload : av_load ins with
  | some ik =>
    obtain ⟨i, kd⟩ := ik
    rw [hload] at h
    dsimp only at h
    cases hg : av_get L i with
    | none => rw [hg] at h; cases h
    | some v =>
      rw [hg] at h
      dsimp only at h
      cases hv : (bif kd == 1 then av_isI v else av_isA v) with
      | false => rw [hv] at h; cases h
      | true =>
        rw [hv] at h
        cases h
        exact av_load_ok C0 ok hload hg hv (k _ (by simp))
  | none =>
  rw [hload] at h
  dsimp only at h
  cases hstore : av_store ins with
  | some ik =>
    obtain ⟨i, kd⟩ := ik
    rw [hstore] at h
    dsimp only at h
    cases st with
    | nil => cases h
    | cons v st =>
      dsimp only at h
      cases hv : (bif kd == 1 then av_isI v else av_isR v) with
      | false => rw [hv] at h; cases h
      | true =>
        rw [hv] at h
        cases h
        exact av_store_ok C0 ok hstore hv (k _ (by simp))
  | none =>
  rw [hstore] at h
  dsimp only at h
  cases hbin : av_bin ins with
  | some f =>
    rw [hbin] at h
    dsimp only at h
    split at h
    · rename_i w u st'
      cases hr : f u w with
      | none => rw [hr] at h; cases h
      | some r =>
        rw [hr] at h
        cases h
        exact av_bin_ok C0 ok hbin hr (k _ (by simp))
    · cases h
  | none =>
  rw [hbin] at h
  dsimp only at h
  cases hld : av_ldk ins with
  | some t =>
    rw [hld] at h
    dsimp only at h
    split at h
    · rename_i i kx st'
      split at h
      · rename_i t' xs hk
        cases htt : (t' == t || (t == 1 && t' == 2) || (t == 4 && t' == 5)) with
        | false => rw [htt] at h; cases h
        | true =>
          rw [htt] at h
          dsimp only [cond_true] at h
          cases hv : av_rd xs i with
          | none => rw [hv] at h; cases h
          | some v =>
            rw [hv] at h
            cases h
            exact av_ld_ok (L1 := []) C0 ok hld hk htt hv (k _ (by simp))
      · cases h
    · rename_i i j st'
      split at h
      · rename_i xs hk
        cases htt : (t + j == 2) with
        | false => rw [htt] at h; cases h
        | true =>
          rw [htt] at h
          dsimp only [cond_true] at h
          cases hv : av_rd xs i with
          | none => rw [hv] at h; cases h
          | some v =>
            rw [hv] at h
            cases h
            exact av_lds_ok C0 ok hld hk htt hv (k _ (by simp))
      · cases h
    · cases h
  | none =>
  rw [hld] at h
  dsimp only at h
  cases hstk : av_stk ins with
  | some t =>
    rw [hstk] at h
    dsimp only at h
    split at h
    · rename_i v i kx st'
      split at h
      · rename_i t' xs hk
        obtain ⟨hc, h⟩ := av_bif h
        cases h
        simp only [Bool.and_eq_true, decide_eq_true_eq] at hc
        obtain ⟨htt, c1, c2, c3, c4⟩ := hc
        by_cases ht4 : t = 4
        · subst ht4
          have hins : ins = .aastore := by
            cases ins <;> first | (cases hstk; done) | rfl
          subst hins
          have c4' := c4
          rw [show ((4 : Nat) == 4) = true from rfl, cond_true] at c4'
          split at c4'
          · rename_i j
            split at c4'
            · rename_i ci fs hj
              refine av_sta_ok C0 ok hcl4 hcl5 hk ?_ c1 c2 c3 hj (by simpa using c4') (k _ (by simp))
              simp only [Bool.or_eq_true, Bool.and_eq_true, beq_iff_eq] at htt
              omega
            · cases c4'
          · cases c4'
        · have e : (t == 4) = false := by simpa using ht4
          rw [e] at c4
          exact av_st_ok C0 ok hstk ht4 hk htt c1 c2 c3 c4 (k _ (by simp))
      · cases h
    · cases h
  | none =>
  rw [hstk] at h
  dsimp only at h
  cases ins <;> first | (cases h; done) | skip
  case getfield i =>
    dsimp only at h
    split at h
    · rename_i kx st'
      split at h
      · rename_i ci fs hk
        cases hc : (ci == a) with
        | false => rw [hc] at h; cases h
        | true =>
          rw [hc] at h
          dsimp only [cond_true] at h
          simp only [beq_iff_eq] at hc
          subst hc
          cases hv : fs[b]? with
          | none => rw [hv] at h; cases h
          | some v =>
            rw [hv] at h
            cases h
            by_cases h1 : ci = 100
            · intro as ws H locs ls stv has hH hP hD hS hL hst
              obtain ⟨ad', en, e1, e2, hE⟩ := hH.2.2 kx _ hk
              obtain ⟨vs, rfl, -⟩ := hE
              obtain ⟨r, r1, -⟩ := hP kx _ e2
              have := (List.getElem?_eq_some_iff.mp r1).1
              dsimp only at this
              omega
            · exact av_getf_ok C0 hcls ok hk hv h1 (k _ (by simp))
      · cases h
    · rename_i st'
      cases hc : (a == 100) with
      | false => rw [hc] at h; cases h
      | true =>
        rw [hc] at h
        simp only [beq_iff_eq] at hc
        subst hc
        cases h
        exact av_getS_ok C0 ok (k _ (by simp))
    · cases h
  case putfield i =>
    dsimp only at h
    split at h
    · rename_i v kx st'
      split at h
      · rename_i ci fs hk
        cases hc : (ci == a && (decide (b < fs.length) && av_fit z.toNat v)) with
        | false => rw [hc] at h; cases h
        | true =>
          rw [hc] at h
          cases h
          simp only [Bool.and_eq_true, decide_eq_true_eq, beq_iff_eq] at hc
          obtain ⟨rfl, c2, c3⟩ := hc
          exact av_putf_ok C0 hcls ok hk c2 c3 (k _ (by simp))
      · cases h
    · cases h
  case iinc i n =>
    dsimp only at h
    split at h
    · rename_i u hg
      cases h
      exact av_iinc_ok C0 ok hg (k _ (by simp))
    · cases h
  case goto off =>
    dsimp only at h
    cases hc : av_jmp pc off with
    | false => rw [hc] at h; cases h
    | true =>
      rw [hc] at h
      cases h
      exact av_goto_ok C0 ok hc (k _ (by simp))
  case if_icmp o off =>
    dsimp only at h
    split at h
    · rename_i w u st'
      cases hc : av_jmp pc off with
      | false => rw [hc] at h; cases h
      | true =>
        rw [hc] at h
        cases h
        exact av_icmp_ok C0 ok hc k
    · cases h
  case ifCond o off =>
    dsimp only at h
    split at h
    · rename_i u st'
      cases hc : av_jmp pc off with
      | false => rw [hc] at h; cases h
      | true =>
        rw [hc] at h
        cases h
        exact av_if_ok C0 ok hc k
    · cases h
  case dup =>
    dsimp only at h
    cases st with
    | nil => cases h
    | cons v st =>
      dsimp only at h
      cases hv : av_isL v with
      | true => rw [hv] at h; cases h
      | false => rw [hv] at h; cases h; exact av_dup_ok C0 ok hv (k _ (by simp))
  case pop =>
    dsimp only at h
    cases st with
    | nil => cases h
    | cons v st =>
      dsimp only at h
      cases hv : av_isL v with
      | true => rw [hv] at h; cases h
      | false => rw [hv] at h; cases h; exact av_pop_ok C0 ok hv (k _ (by simp))
  case dup2 =>
    dsimp only at h
    split at h
    · rename_i v w st'
      cases hv : av_isL v with
      | true => rw [hv] at h; cases h
      | false =>
        cases hw : av_isL w with
        | true => rw [hv, hw] at h; cases h
        | false => rw [hv, hw] at h; cases h; exact av_dup2_ok C0 ok hv hw (k _ (by simp))
    · cases h
  case arraylength =>
    dsimp only at h
    split at h
    · rename_i kx st'
      split at h
      · rename_i t xs hk
        cases h
        exact av_len_ok C0 ok hk (k _ (by simp))
      · cases h
    · rename_i j st'
      cases hr : av_row X j with
      | none => rw [hr] at h; cases h
      | some xs =>
        rw [hr] at h
        cases h
        exact av_lens_ok C0 ok hr (k _ (by simp))
    · cases h
  case i2c =>
    dsimp only at h
    split at h
    · cases h
      exact av_i2c_ok C0 ok (k _ (by simp))
    · cases h
  case i2b =>
    dsimp only at h
    split at h
    · cases h
      exact av_i2b_ok C0 ok (k _ (by simp))
    · cases h
  case lcmp =>
    dsimp only at h
    split at h
    · rename_i w u st'
      cases hc : (decide (u.1 = u.2) && (decide (w.1 = w.2) && decide (u.1 = w.1))) with
      | false => rw [hc] at h; cases h
      | true => rw [hc] at h; cases h; exact av_lcmp_ok C0 ok hc (k _ (by simp))
    · cases h
  case tableswitch d lo hi offs =>
    dsimp only at h
    split at h
    · rename_i u st'
      cases hc : (decide (u.2 < lo) || decide (hi < u.1)) with
      | true =>
        rw [hc] at h
        dsimp only [cond_true] at h
        cases hj : av_jmp pc d with
        | false => rw [hj] at h; cases h
        | true => rw [hj] at h; cases h; exact av_table_ok C0 ok hj (.inl ⟨hc, rfl⟩) (k _ (by simp))
      | false =>
        rw [hc] at h
        dsimp only [cond_false] at h
        cases hc2 : (decide (u.1 = u.2) && (decide (lo ≤ u.1) && decide (u.1 ≤ hi))) with
        | false => rw [hc2] at h; cases h
        | true =>
          rw [hc2] at h
          dsimp only [cond_true] at h
          split at h
          · rename_i off ho
            cases hj : av_jmp pc off with
            | false => rw [hj] at h; cases h
            | true => rw [hj] at h; cases h; exact av_table_ok C0 ok hj (.inr ⟨hc2, ho⟩) (k _ (by simp))
          · cases h
    · cases h
theorem av_mk_ok {q : av_Q} {S S' : av_S} (C0 : av_Cx Ts cl D cy A sv X M p R s m args meth c) (hcls : av_cls Ts cl F) (ok : av_ok Ts cl mt M q) (hq : q.1 = S.1) (h : av_mk M.2.2.1 M.2.2.2.1 F q S = some S')
    (k : av_Good cl D cy A sv as0 M.1.2.2.2.1 p l e R s m args below meth c Q S') : av_Good cl D cy A sv as0 M.1.2.2.2.1 p l e R s m args below meth c Q S := by
  obtain ⟨pc, ins, len, a, b, z⟩ := q
  obtain ⟨pc', L, st, hp, cN, sN⟩ := S
  dsimp only at hq
  subst hq
  unfold av_mk at h
  dsimp only at h
  cases ins <;> first | (cases h; done) | skip
  case new i =>
    dsimp only at h
    split at h
    · rename_i ks hks
      obtain ⟨hc, h⟩ := av_bif h
      cases h
      simp only [Bool.and_eq_true, decide_eq_true_eq] at hc
      exact av_new_ok C0 hcls ok hks hc.1 hc.2 k
    · cases h
  case newarray t =>
    dsimp only at h
    split at h
    · rename_i u st'
      obtain ⟨hc, h⟩ := av_bif h
      cases h
      simp only [Bool.and_eq_true, decide_eq_true_eq] at hc
      obtain ⟨c1, c2, c3, c4, c5, c6⟩ := hc
      exact av_newa_ok C0 ok c1 c2 c3 c4 c5 c6 k
    · cases h
  case anewarray i =>
    dsimp only at h
    split at h
    · rename_i u st'
      obtain ⟨hc, h⟩ := av_bif h
      cases h
      simp only [Bool.and_eq_true, Bool.or_eq_true, decide_eq_true_eq, beq_iff_eq] at hc
      obtain ⟨c1, c2, c3, c4, c5, c6⟩ := hc
      exact av_anew_ok C0 ok c1 c2 c3 c4 c5 c6 k
    · cases h
end AVR
end
section
/-! ===== calls and returns of the evaluator ===== -/
def av_rm (M : av_M) : Room := { frames := M.2.2.2.2.1, cells := M.2.2.1, slots := M.2.2.2.1, locals := M.2.2.2.2.2 }
def av_ws (Ts : List Jvm.Cond) (M : av_M) : List Jvm.Cond := Jvm.Cond.code M.1.2.1 M.1.2.2.1 M.1.2.2.2.1 M.1.2.2.2.2 :: Ts
def av_Pre (cl : List vw_C) (D : va_G) (cy : Nat → ClassId) (A : Nat → Prop) (sv : Nat → Value) (X1 : List av_V) (ws : va_W) (vs : List Value) : Array Value → State → Prop :=
  va_Pc vs (fun U => va_P D cl ws U.heap ∧ va_K D cl (av_tys cy) U ∧ (∀ q, U.heap.size ≤ q → A q) ∧ av_SF A sv (X1, none) U U.heap)
def av_Qc (cl : List vw_C) (D : va_G) (cy : Nat → ClassId) (A : Nat → Prop) (sv : Nat → Value) (as : List Nat) (outs : av_O) : Array Value → State → Outcome → State → Prop := fun _ st o t =>
  (∃ ov ∈ outs, ∃ (as' : List Nat) (ws' : va_W) (rv : Option Value), o = .returned rv ∧ as <+: as' ∧ av_relS sv as' ov.1.toList rv.toList ∧ av_relH cy sv as' ov.2 ws' ∧ va_P D cl ws' t.heap ∧ va_D A ws') ∧ va_F A st t
def av_Met (Ts : List Jvm.Cond) (cl : List vw_C) (D : va_G) (cy : Nat → ClassId) (A : Nat → Prop) (sv : Nat → Value) (l : Launch) (X1 : List av_V) (M : av_M) (args : List av_V) (h : av_H) (outs : av_O) : Prop :=
  ∀ (as : List Nat) (ws : va_W) (vs : List Value), av_relS sv as args vs → av_relH cy sv as h ws → va_D A ws → Met l M.1.2.1 (av_ws Ts M) (av_rm M) (av_Pre cl D cy A sv X1 ws vs) (av_Qc cl D cy A sv as outs) M.2.2.1 M.2.2.2.1 A
theorem av_blind {cl : List vw_C} {D : va_G} {cy : Nat → ClassId} {A : Nat → Prop} {sv : Nat → Value} {X1 : List av_V} {ws : va_W} {vs : List Value} : FrameBlind (av_Pre cl D cy A sv X1 ws vs) := by
  intro a U g mk hq
  obtain ⟨q0, q1, q2, q3, q4⟩ := hq
  exact ⟨q0, q1, va_K.moved (u := U) (U := U.calling g mk a) (Vm.Alike.refl U.vm) q2, q3, av_SF_in q4 g mk a⟩
theorem av_ent_ok {sv : Nat → Value} (hsv : ∀ j, sv j = .null ∨ ∃ a, sv j = .ref a) {as : List Nat} : ∀ {l : List av_V} {r : List Value} (i : Nat), av_relS sv as l r → l.all (fun v => !av_isL v) = true → ((∀ q ∈ av_ent i l, ∃ x, av_dn sv as q.2 x ∧ (q.1, x) ∈ lv_args i r) ∧ (lg_sl r).length = l.length)
  | [], [], _, _, _ => ⟨fun q hq => by (cases hq), rfl⟩
  | v :: l, x :: r, i, ⟨a, b⟩, hl => by
    simp only [List.all_cons, Bool.and_eq_true, Bool.not_eq_true'] at hl
    have hc : x.category = 1 := by rw [av_cat hsv a, hl.1]; rfl
    have hc2 : ¬ x.category = 2 := by omega
    obtain ⟨h1, h2⟩ := av_ent_ok hsv (i + 1) b hl.2
    refine ⟨fun q hq => ?_, ?_⟩
    · rcases List.mem_cons.mp hq with rfl | hq
      · exact ⟨x, a, List.mem_cons_self⟩
      · obtain ⟨y, y1, y2⟩ := h1 q hq
        refine ⟨y, y1, ?_⟩
        rw [lv_args, if_neg hc2]
        exact List.mem_cons_of_mem _ y2
    · simp only [lg_sl, List.flatMap_cons, List.length_append, List.length_cons] at h2 ⊢
      rw [if_neg hc2, h2]
      simp
      omega
  | [], _ :: _, _, hh, _ => hh.elim
  | _ :: _, [], _, hh, _ => hh.elim
section AVR
variable {Ts : List Jvm.Cond} {cl : List vw_C} {D : va_G} {cy : Nat → ClassId} {A : Nat → Prop} {sv : Nat → Value} {as0 : List Nat} {X : av_X} {M : av_M} {mt : Nat → av_M} {F : av_F} {p : Program} {l : Launch} {e : Env} {R : Room} {s : State} {m : MethodId} {args : Array Value} {below : List Frame} {meth : Method} {c : Code} {Q : State → Prop}
theorem av_go_ok {H : Heap} {locs : List Loc} {cN sN mc ms pc : Nat} {ls : Array Slot} {st0 rest : List Value} {as : List Nat} {outs : av_O} {arr : Array Value} (hr : va_Run p l e R s m args below meth c H locs cN sN mc ms (F0 m pc ls st0) rest (av_Qc cl D cy A sv as outs arr) A) (hS : va_S A s.heap H locs)
    (kk : ∀ ov ∈ outs, ∀ (as' : List Nat) (ws' : va_W) (rv : Option Value) (H1 : Heap) (locs1 : List Loc), as <+: as' → av_relS sv as' ov.1.toList rv.toList → av_relH cy sv as' ov.2 ws' → va_P D cl ws' H1 → va_D A ws' → va_S A s.heap H1 locs1 → W p l e R s m args below meth c H1 locs1 (cN + mc) (sN + ms) Q (F0 m (pc + 3) ls (rv.toList ++ rest))) : W p l e R s m args below meth c H locs cN sN Q (F0 m pc ls st0) := by
  intro T hT X
  obtain ⟨v, st₀, t, T', L, h0, X', hL, e1, e2, ⟨⟨ov, hov, as', ws', rv, hv, b1, b2, b3, b4, b5⟩, hz, hk⟩, st⟩ := hr T hT X
  cases hv
  rw [h0] at hz hk
  obtain ⟨t2, a1, c1⟩ := kk ov hov as' ws' v T'.heap (locs ++ L) b1 b2 b3 (by rw [e1]; exact b4) b5
    ⟨Nat.le_trans hS.1 (by rw [e1]; exact hz), fun q h1 h2 => by rw [e1, hk q (Nat.lt_of_lt_of_le h1 hS.1) h2]; exact hS.2.1 q h1 h2, fun q hq => by
      rcases List.mem_append.mp hq with h | h
      · exact hS.2.2 q h
      · exact hL q h⟩ T' rfl X'
  exact ⟨t2, st t2 a1, c1⟩
theorem av_call_ok {q : av_Q} {S : av_S} {j : Nat} {av stk : List av_V} {outs : av_O} (C0 : av_Cx Ts cl D cy A sv X M p R s m args meth c) (hgood : GoodIn Ts Ts) (h100 : cl.length ≤ 100) (ok : av_ok Ts cl mt M q) (hq : q.1 = S.1) (h9 : q.2.2.2.1 < 9000) (hcall : av_call q S = some (j, av, stk)) (hfits : av_fits M (mt j) S.2.2.2.2.1 S.2.2.2.2.2 av.length stk = true)
    (hM : av_Met Ts cl D cy A sv l X.1 (mt j) av S.2.2.2.1 outs)
    (k : ∀ ov ∈ outs, av_Good cl D cy A sv as0 M.1.2.2.2.1 p l e R s m args below meth c Q (S.1 + q.2.2.1, S.2.1, ov.1.toList ++ stk, ov.2, S.2.2.2.2.1 + (mt j).2.2.1, S.2.2.2.2.2 + (mt j).2.2.2.1)) : av_Good cl D cy A sv as0 M.1.2.2.2.1 p l e R s m args below meth c Q S := by
  obtain ⟨pc, ins, len, a, b, z⟩ := q
  obtain ⟨pc', L, st, hp, cN, sN⟩ := S
  dsimp only at hq h9 hfits hM k
  subst hq
  obtain ⟨hx, hb, hml, hown, hts, hr, hlk, hnm, hK, hA, hSF, r1, r2, r3, r4⟩ := C0
  have hSF0 := hSF
  obtain ⟨hsv, ⟨q0, q1, a1, a2, a3, a4, a5, a6, f, a7, a8⟩, h2, h3, hnest, h4⟩ := hSF
  obtain ⟨hd, hlen, hok⟩ := ok
  unfold av_fits at hfits
  simp only [Bool.and_eq_true, decide_eq_true_eq] at hfits
  obtain ⟨f0, f1, f2, f3, f4, f5⟩ := hfits
  unfold av_call at hcall
  dsimp only at hcall
  obtain ⟨hc, hcall2⟩ := av_bif hcall
  clear hcall
  simp only [Bool.and_eq_true, decide_eq_true_eq] at hc
  intro as ws H locs ls stv has hH hP hD hS hL hst
  have hstl := av_relS_len hst
  have hls : ls.size = M.1.2.2.2.1 := by obtain ⟨lv, g, -⟩ := hL; exact g.1
  have hTk := av_relS_take b hst
  have hDr := av_relS_drop b hst
  have hsplit : stv = (stv.take b).reverse.reverse ++ stv.drop b := by rw [List.reverse_reverse, List.take_append_drop]
  have hn : ((stv.take b).reverse).length = b := by
    rw [List.length_reverse, List.length_take]
    dsimp only at hstl
    omega
  have hin : ∀ w : Jvm.Cond, w ∈ Ts → w ∈ Ts ∧ ((w.onTables && w.keeps) = true ∨ ∃ ty, w = .arrayClass ty) := fun w hw => hgood w hw
  dsimp only at hd hok hTk hDr hstl
  have hcont : ∀ (stR : List Value), av_relS sv as stk stR → len = 3 → ∀ ov ∈ outs, ∀ (as' : List Nat) (ws' : va_W) (rv : Option Value) (H1 : Heap) (locs1 : List Loc), as <+: as' → av_relS sv as' ov.1.toList rv.toList → av_relH cy sv as' ov.2 ws' → va_P D cl ws' H1 → va_D A ws' → va_S A s.heap H1 locs1 → W p l e R s m args below meth c H1 locs1 (cN + (mt j).2.2.1) (sN + (mt j).2.2.2.1) Q (F0 m (pc + 3) ls (rv.toList ++ stR)) := by
    intro stR hR hl ov hov as' ws' rv H1 locs1 b1 b2 b3 b4 b5 b6
    subst hl
    exact k ov hov as' ws' H1 locs1 ls (rv.toList ++ stR) (has.trans b1) b3 b4 b5 b6 (av_relL_up b1 hL) (av_relS_app b2 (av_relS_up b1 hR))
  have hpre : ∀ (vs : List Value) (U : State), U.heap = H → s.WarmedH U.vm → av_Pre cl D cy A sv X.1 ws vs vs.toArray U := by
    intro vs U hU hW
    exact ⟨rfl, by rw [hU]; exact hP, va_K.moved hW.alike hK, fun q hq => hA q (Nat.le_trans hS.1 (by rw [← hU]; exact hq)), av_SF_call hSF0 hW hU hS⟩
  have hroom : (av_rm (mt j)).frames + 1 ≤ R.frames ∧ 8 + ((mt j).1.2.2.2.1 + 11) + (av_rm (mt j)).locals ≤ R.locals := ⟨Nat.le_trans f3 r3, Nat.le_trans f4 r4⟩
  have hcs : cN + (mt j).2.2.1 ≤ R.cells ∧ sN + (mt j).2.2.2.1 ≤ R.slots := ⟨by rw [r1]; exact f1, by rw [r2]; exact f2⟩
  cases ins <;> first | (cases hcall2; done) | skip
  case invokestatic i =>
    have hl3 : len = 3 := by simpa [av_lenok, av_len] using hlen
    cases hcall2
    obtain ⟨⟨o1, o2, o3, o4, o5⟩, o6, o7, o8⟩ := hok.2.2 h9
    have hMet := hM as ws (stv.take b).reverse (av_relS_rev hTk) hH hD
    have hG : GoodIn Ts (va_wsS M.1.1 i (mt j).1.2.1 (av_ws Ts (mt j))) := by
      intro w hw
      apply hin
      rcases List.mem_append.mp hw with hw | hw
      · simp only [List.mem_cons, List.not_mem_nil, or_false] at hw
        rcases hw with rfl | rfl | rfl
        · exact o8
        · exact o6
        · rw [o2]; exact o3
      · rcases List.mem_cons.mp hw with rfl | hw
        · exact o1
        · exact hw
    subst hl3
    exact av_go_ok (va_runS (As := (stv.take b).reverse) (rest := stv.drop b) ⟨hx, hb, hml, hown, hts⟩ hMet (va_cwS b hts hG rfl rfl rfl ⟨o5.1, o5.2, o7⟩ hroom) ⟨av_blind, fun U hU hW => hpre _ U hU hW⟩ rfl hn hls hsplit (lv_room (by rw [av_wid_ok hsv hDr]; exact f5)) hd hcs) hS (hcont _ hDr rfl)
  case invokespecial i =>
    have hl3 : len = 3 := by simpa [av_lenok, av_len] using hlen
    dsimp only at hcall2
    split at hcall2
    · rename_i kx rest hst0
      cases hcall2
      obtain ⟨⟨o1, o2, o3, o4, o5⟩, o6, o7, o8, o9, o10⟩ := hok.2 h9
      rw [hst0] at hDr
      obtain ⟨_, stR, hstR, ⟨ad, had, rfl⟩, hR⟩ := av_relS_cons hDr
      have hMet := hM as ws (.ref ad :: (stv.take b).reverse) ⟨⟨ad, had, rfl⟩, av_relS_rev hTk⟩ hH hD
      have hG : GoodIn Ts (av_ws Ts (mt j)) := by
        intro w hw
        apply hin
        rcases List.mem_cons.mp hw with rfl | hw
        · exact o1
        · exact hw
      subst hl3
      have hw : av_ws Ts (mt j) = Cond.code (mt j).1.2.1 (mt j).1.2.2.1 (mt j).1.2.2.2.1 none :: Ts := by unfold av_ws; rw [o7]
      rcases o10 with o10 | ⟨o10, o11⟩
      · exact av_go_ok (va_runI (As := (stv.take b).reverse) (rest := stR) ⟨hx, hb, hml, hown, hts⟩ hMet (cwI b hts hG hw rfl rfl (hts _ (by rw [o2]; exact o3)) (hts _ o10) (hts _ o8) o6 ⟨o5.1, o5.2, o9⟩ hroom) ⟨av_blind, fun U hU hW => hpre _ U hU hW⟩ rfl hn hls (by rw [← hstR]; exact hsplit) (lv_room (by rw [av_wid_ok hsv hR]; exact f5)) hd hcs) hS (hcont _ hR rfl)
      · have hN := hnest.1 _ o11
        exact av_go_ok (va_runIN (As := (stv.take b).reverse) (rest := stR) (host := RX11) ⟨hx, hb, hml, hown, hts⟩ hMet ⟨va_cnB b hts hG hw rfl rfl (by rw [o10]; exact hN) (hts _ (by rw [o2]; exact o3)) ⟨o5.1, o5.2, o9⟩ hroom, o6, hts _ o8⟩ ⟨av_blind, fun U hU hW => hpre _ U hU hW⟩ rfl hn hls (by rw [← hstR]; exact hsplit) (lv_room (by rw [av_wid_ok hsv hR]; exact f5)) hd hcs) hS (hcont _ hR rfl)
    · cases hcall2
  case invokevirtual i =>
    have hl3 : len = 3 := by simpa [av_lenok, av_len] using hlen
    dsimp only at hcall2
    obtain ⟨⟨o1, o2, o3, o4, o5⟩, o6, o7, o8, o9, o10⟩ := hok
    have hG : GoodIn Ts (wsV M.1.1 i (mt a).1.1 (mt a).1.2.1 (av_ws Ts (mt a))) := by
      intro w hw
      apply hin
      rcases List.mem_append.mp hw with hw | hw
      · simp only [List.mem_cons, List.not_mem_nil, or_false] at hw
        rcases hw with rfl | rfl | rfl | rfl
        · exact o9
        · exact o6
        · exact o7
        · exact o3
      · rcases List.mem_cons.mp hw with rfl | hw
        · exact o1
        · exact hw
    split at hcall2
    · rename_i kx rest hst0
      split at hcall2
      · rename_i ci fs hk
        obtain ⟨hci, hcall3⟩ := av_bif hcall2
        cases hcall3
        simp only [beq_iff_eq] at hci
        rw [hst0] at hDr
        obtain ⟨_, stR, hstR, ⟨ad, had, rfl⟩, hR⟩ := av_relS_cons hDr
        have hMet := hM as ws (.ref ad :: (stv.take b).reverse) ⟨⟨ad, had, rfl⟩, av_relS_rev hTk⟩ hH hD
        obtain ⟨ad', en, e1, e2, hE⟩ := hH.2.2 kx _ hk
        cases had.symm.trans e1
        obtain ⟨vs, rfl, -, -⟩ := hE
        subst hl3
        have hrec : ∃ (T : u_T) (N : Nat), cl[ci]? = some ((mt j).1.1, T, N) ∨ (ci = 100 ∧ (mt j).1.1 = "java/lang/String") := by
          rcases o10 with ⟨w1, w2⟩ | ⟨T, N, w⟩
          · exact ⟨fun _ => ("", "", "", false), 0, .inr ⟨hci.trans w1, w2⟩⟩
          · exact ⟨T, N, .inl (by rw [hci]; exact w)⟩
        obtain ⟨T, N, hrec | ⟨w1, w2⟩⟩ := hrec
        · exact av_go_ok (va_runV (As := (stv.take b).reverse) (rest := stR) (C := (mt j).1.1) ⟨hx, hb, hml, hown, hts⟩ hMet (cwV b hts hG rfl rfl rfl ⟨o2, o5.1, o5.2, o8⟩ hroom) ⟨av_blind, va_recv hK hP hrec e2, fun U hU hW => hpre _ U hU hW⟩ rfl hn hls (by rw [← hstR]; exact hsplit) (lv_room (by rw [av_wid_ok hsv hR]; exact f5)) hd hcs) hS (hcont _ hR rfl)
        · obtain ⟨r, rr1, -⟩ := hP kx _ e2
          have := (List.getElem?_eq_some_iff.mp rr1).1
          dsimp only at this
          omega
      · cases hcall2
    · rename_i rest hst0
      obtain ⟨hci, hcall3⟩ := av_bif hcall2
      cases hcall3
      simp only [beq_iff_eq] at hci
      rw [hst0] at hDr
      obtain ⟨x, stR, hstR, hxx, hR⟩ := av_relS_cons hDr
      have hx0 : x = .ref q0 := (show x = sv 0 from hxx).trans a1
      subst hx0
      have hMet := hM as ws (.ref q0 :: (stv.take b).reverse) ⟨hxx, av_relS_rev hTk⟩ hH hD
      subst hl3
      have hC : (mt j).1.1 = "java/lang/String" ∨ ∃ (T : u_T) (N : Nat), cl[100]? = some ((mt j).1.1, T, N) := by
        rcases o10 with ⟨_, w2⟩ | ⟨T, N, w⟩
        · exact .inl w2
        · exact .inr ⟨T, N, by rw [← hci]; exact w⟩
      rcases hC with hC | ⟨T, N, w⟩
      · exact av_go_ok (va_runV (As := (stv.take b).reverse) (rest := stR) (C := (mt j).1.1) ⟨hx, hb, hml, hown, hts⟩ hMet (cwV b hts hG rfl rfl rfl ⟨o2, o5.1, o5.2, o8⟩ hroom) ⟨av_blind, by rw [hC]; exact va_Orecv a4 hS, fun U hU hW => hpre _ U hU hW⟩ rfl hn hls (by rw [← hstR]; exact hsplit) (lv_room (by rw [av_wid_ok hsv hR]; exact f5)) hd hcs) hS (hcont _ hR rfl)
      · have := (List.getElem?_eq_some_iff.mp w).1
        omega
    · cases hcall2
end AVR
end
section
/-! ===== the evaluator is sound ===== -/
theorem av_all_mem {α β : Type} {f : α → Option (List β)} : ∀ {l : List α} {o : List β}, av_all f l = some o → ∀ x ∈ l, ∃ o', f x = some o' ∧ ∀ y ∈ o', y ∈ o := by
  intro l
  induction l with
  | nil => intro o _ x hx; cases hx
  | cons a l ih =>
    intro o h x hx
    unfold av_all at h
    cases h1 : f a with
    | none => rw [h1] at h; cases h
    | some o1 =>
      rw [h1] at h
      dsimp only at h
      cases h2 : av_all f l with
      | none => rw [h2] at h; cases h
      | some o2 =>
        rw [h2] at h
        cases h
        rcases List.mem_cons.mp hx with rfl | hx
        · exact ⟨o1, h1, fun y hy => List.mem_append_left _ hy⟩
        · obtain ⟨o', q1, q2⟩ := ih h2 x hx
          exact ⟨o', q1, fun y hy => List.mem_append_right _ (q2 y hy)⟩
theorem av_from_mem {pc : Nat} : ∀ {l : List av_Q} {q : av_Q}, q ∈ av_from pc l → q ∈ l := by
  intro l
  induction l with
  | nil => intro q h; exact h
  | cons a l ih =>
    intro q h
    unfold av_from at h
    cases hc : (a.1 == pc) with
    | true => rw [hc] at h; exact h
    | false => rw [hc] at h; exact List.mem_cons_of_mem _ (ih h)
section AVR
variable {Ts : List Jvm.Cond} {cl : List vw_C} {D : va_G} {cy : Nat → ClassId} {A : Nat → Prop} {sv : Nat → Value} {l : Launch} {mt : Nat → av_M} {F : av_F}
theorem av_ret_ok {X : av_X} {M : av_M} {p : Program} {e : Env} {R : Room} {s : State} {m : MethodId} {args : Array Value} {below : List Frame} {meth : Method} {c : Code} {as0 : List Nat} {outs : av_O} {q : av_Q} {S : av_S} {r : Option av_V} (C0 : av_Cx Ts cl D cy A sv X M p R s m args meth c) (ok : av_ok Ts cl mt M q) (hq : q.1 = S.1) (h : av_ret M q S = some r) (hm : (r, S.2.2.2.1) ∈ outs) :
    av_Good cl D cy A sv as0 M.1.2.2.2.1 p l e R s m args below meth c (MQ below (av_Qc cl D cy A sv as0 outs) args s M.2.2.1 M.2.2.2.1 A) S := by
  obtain ⟨pc, ins, len, a, b, z⟩ := q
  obtain ⟨pc', L, st, hp, cN, sN⟩ := S
  dsimp only at hq hm
  subst hq
  obtain ⟨hx, hb, hml, hown, hts, hr, hlk, hnm, hK, hA, hSF, r1, r2, r3, r4⟩ := C0
  obtain ⟨hd, hlen, -⟩ := ok
  unfold av_ret at h
  obtain ⟨hc, h1⟩ := av_bif h
  clear h
  simp only [Bool.and_eq_true, decide_eq_true_eq] at hc
  intro as ws H locs ls stv has hH hP hD hS hL hst
  refine W.widen hc.1 hc.2 ?_
  have hqc : ∀ (rv : Option Value), av_relS sv as r.toList rv.toList → ∀ t : State, t.heap = H → s.WarmedH t.vm → av_Qc cl D cy A sv as0 outs args s (.returned rv) t := by
    intro rv hrv t ht _
    exact ⟨⟨(r, hp), hm, as, ws, rv, rfl, has, hrv, hH, by rw [ht]; exact hP, hD⟩, hS.F ht⟩
  dsimp only at h1 hd hst ⊢
  split at h1
  · rename_i u hret
    cases h1
    have : len = 1 := by simpa [av_lenok, av_len] using hlen
    subst this
    obtain ⟨_, stv1, rfl, ⟨n, rfl, hn⟩, hst1⟩ := av_relS_cons hst
    have := av_relS_nil hst1
    subst this
    exact W.iret hx hb (hr.trans hret) (hqc (some (.int n)) ⟨⟨n, rfl, hn⟩, trivial⟩) hS.2.2 hd hlk
  · rename_i u hret
    obtain ⟨hf, h2⟩ := av_bif h1
    cases h2
    have : len = 1 := by simpa [av_lenok, av_len] using hlen
    subst this
    obtain ⟨_, stv1, rfl, ⟨n, rfl, hn⟩, hst1⟩ := av_relS_cons hst
    have := av_relS_nil hst1
    subst this
    exact W.zret hx hb (hr.trans hret) (av_fit_ok (ty := .boolean) (sv := sv) (as := as) hf ⟨n, rfl, hn⟩).1 (hqc (some (.int n)) ⟨⟨n, rfl, hn⟩, trivial⟩) hS.2.2 hd hlk
  · rename_i u hret
    obtain ⟨hf, h2⟩ := av_bif h1
    cases h2
    have : len = 1 := by simpa [av_lenok, av_len] using hlen
    subst this
    obtain ⟨_, stv1, rfl, ⟨n, rfl, hn⟩, hst1⟩ := av_relS_cons hst
    have := av_relS_nil hst1
    subst this
    exact W.zret hx hb (hr.trans hret) (av_fit_ok (ty := .byte) (sv := sv) (as := as) hf ⟨n, rfl, hn⟩).1 (hqc (some (.int n)) ⟨⟨n, rfl, hn⟩, trivial⟩) hS.2.2 hd hlk
  · rename_i u hret
    obtain ⟨hf, h2⟩ := av_bif h1
    cases h2
    have : len = 1 := by simpa [av_lenok, av_len] using hlen
    subst this
    obtain ⟨_, stv1, rfl, ⟨n, rfl, hn⟩, hst1⟩ := av_relS_cons hst
    have := av_relS_nil hst1
    subst this
    simp only [Bool.and_eq_true, decide_eq_true_eq] at hf
    obtain ⟨j, j1, j2, j3⟩ := av_nat (x := n) (by omega)
    have hnar : narrow .char (.int n) = .int n := by rw [j2]; exact (pk_charN (by omega)).1
    exact W.zret hx hb (hr.trans hret) hnar (hqc (some (.int n)) ⟨⟨n, rfl, hn⟩, trivial⟩) hS.2.2 hd hlk
  · rename_i u hret
    cases h1
    have : len = 1 := by simpa [av_lenok, av_len] using hlen
    subst this
    obtain ⟨_, stv1, rfl, ⟨n, rfl, hn⟩, hst1⟩ := av_relS_cons hst
    have := av_relS_nil hst1
    subst this
    exact W.lret hx hb (hr.trans hret) (hqc (some (.long n)) ⟨⟨n, rfl, hn⟩, trivial⟩) hS.2.2 hd hlk
  · rename_i hret
    cases h1
    have : len = 1 := by simpa [av_lenok, av_len] using hlen
    subst this
    have := av_relS_nil hst
    subst this
    exact W.vret hx hb (hr.trans hret) (hqc none trivial) hS.2.2 hd hlk
  · cases h1
theorem av_met_ok {X1 : List av_V} {M : av_M} {av : List av_V} {h : av_H} {outs : av_O} (hsv : ∀ j, sv j = .null ∨ ∃ a, sv j = .ref a) (hM : av_okM Ts M) (hall : av.all (fun v => !av_isL v) = true) (hlen : av.length ≤ M.1.2.2.2.1)
    (run : ∀ (as0 : List Nat) (p : Program) (e : Env) (R : Room) (s : State) (m : MethodId) (args : Array Value) (below : List Frame) (meth : Method) (c : Code), av_Cx Ts cl D cy A sv (X1, none) M p R s m args meth c →
      av_Good cl D cy A sv as0 M.1.2.2.2.1 p l e R s m args below meth c (MQ below (av_Qc cl D cy A sv as0 outs) args s M.2.2.1 M.2.2.2.1 A) (0, av_ent 0 av, [], h, 0, 0)) : av_Met Ts cl D cy A sv l X1 M av h outs := by
  intro as ws vs hvs hH hD
  obtain ⟨o1, o2, o3, o4, o5⟩ := hM
  refine Met.ofW (cc := M.1.2.2.1) (maxL := M.1.2.2.2.1) (ret := M.1.2.2.2.2) o4 rfl ?_
  intro p e s m args below meth c s₁ B hml hv
  obtain ⟨rfl, hP, hK, hA, hSF⟩ := hv
  have hts0 := atoms_spec (ws := av_ws Ts M) B.pre
  have hown : s.vm.findClass M.1.2.1.cls = some m.cls := findClass_of_methodNamed B.named
  have C0 : av_Cx Ts cl D cy A sv (X1, none) M p (headSpec (av_ws Ts M) (av_rm M)).room s m vs.toArray meth c :=
    ⟨B.exec, B.bytes, hml, by rw [← o2]; exact hown, fun w hw => hts0 w (List.mem_cons_of_mem _ hw), B.returns, B.notSynchronized, (name_of_methodNamed B.named B.method).1, hK, hA, hSF, rfl, rfl, Nat.le_refl _, Nat.le_refl _⟩
  obtain ⟨g1, g2⟩ := av_ent_ok hsv 0 hvs hall
  have hl := lv_entry vs (n := M.1.2.2.2.1) (by omega)
  rw [lg_entry_eq]
  exact run as p e _ s m vs.toArray below meth c C0 as ws s.heap [] _ [] (List.prefix_refl _) hH hP hD va_S.rf ⟨_, hl, g1⟩ trivial
theorem av_call_all {q : av_Q} {S : av_S} {j : Nat} {av stk : List av_V} (h : av_call q S = some (j, av, stk)) : av.all (fun v => !av_isL v) = true := by
  unfold av_call at h
  dsimp only at h
  obtain ⟨hc, h2⟩ := av_bif h
  simp only [Bool.and_eq_true, decide_eq_true_eq] at hc
  have hr : ((S.2.2.1.take q.2.2.2.2.1).reverse).all (fun v => !av_isL v) = true := by rw [List.all_reverse]; exact hc.2
  split at h2
  · cases h2; exact hr
  · split at h2
    · split at h2
      · obtain ⟨-, h3⟩ := av_bif h2
        cases h3
        simpa [av_isL] using hr
      · cases h2
    · obtain ⟨-, h3⟩ := av_bif h2
      cases h3
      simpa [av_isL] using hr
    · cases h2
  · split at h2
    · cases h2
      simpa [av_isL] using hr
    · cases h2
  · cases h2
theorem av_call_okM {M : av_M} {q : av_Q} {S : av_S} {j : Nat} {av stk : List av_V} (ok : av_ok Ts cl mt M q) (h9 : q.2.2.2.1 < 9000) (h : av_call q S = some (j, av, stk)) : av_okM Ts (mt j) := by
  obtain ⟨pc, ins, len, a, b, z⟩ := q
  obtain ⟨-, -, hok⟩ := ok
  unfold av_call at h
  dsimp only at h hok h9
  obtain ⟨hc, h2⟩ := av_bif h
  clear h
  cases ins <;> first | (cases h2; done) | skip
  case invokestatic i => cases h2; exact (hok.2.2 h9).1
  case invokevirtual i =>
    dsimp only at h2
    split at h2
    · split at h2
      · obtain ⟨-, h3⟩ := av_bif h2
        cases h3
        exact hok.1
      · cases h2
    · obtain ⟨-, h3⟩ := av_bif h2
      cases h3
      exact hok.1
    · cases h2
  case invokespecial i =>
    dsimp only at h2
    split at h2
    · cases h2
      exact (hok.2 h9).1
    · cases h2
theorem av_callj {q : av_Q} {S : av_S} {j : Nat} {av stk : List av_V} (h : av_call q S = some (j, av, stk)) : j = q.2.2.2.1 := by
  obtain ⟨pc, ins, len, a, b, z⟩ := q
  unfold av_call at h
  dsimp only at h
  obtain ⟨hc, h2⟩ := av_bif h
  clear h
  cases ins <;> first | (cases h2; done) | skip
  case invokestatic i => cases h2; rfl
  case invokevirtual i =>
    dsimp only at h2
    split at h2
    · split at h2
      · obtain ⟨-, h3⟩ := av_bif h2
        cases h3
        rfl
      · cases h2
    · obtain ⟨-, h3⟩ := av_bif h2
      cases h3
      rfl
    · cases h2
  case invokespecial i =>
    dsimp only at h2
    split at h2
    · cases h2
      rfl
    · cases h2
theorem av_run_ok (hgood : GoodIn Ts Ts) (hcls : av_cls Ts cl F) (hcl4 : ∃ T N, cl[1]? = some ("SagGates$Gate", T, N)) (hcl5 : ∃ T N, cl[7]? = some ("SagGates$Told", T, N)) (h100 : cl.length ≤ 100) (h9 : ∀ j, 9000 ≤ j → (mt j).2.1 = []) (hall : ∀ mi, ∀ q ∈ (mt mi).2.1, av_ok Ts cl mt (mt mi) q) :
    ∀ (fuel : Nat) (X : av_X) (mi : Nat) (sfx : List av_Q) (S : av_S) (outs : av_O), av_run F mt fuel X mi sfx S = some outs → (∀ q ∈ sfx, av_ok Ts cl mt (mt mi) q) →
      ∀ (as0 : List Nat) (p : Program) (e : Env) (R : Room) (s : State) (m : MethodId) (args : Array Value) (below : List Frame) (meth : Method) (c : Code) (Q : State → Prop), av_Cx Ts cl D cy A sv X (mt mi) p R s m args meth c →
        (∀ (q : av_Q) (S : av_S) (r : Option av_V), av_ok Ts cl mt (mt mi) q → q.1 = S.1 → av_ret (mt mi) q S = some r → (r, S.2.2.2.1) ∈ outs → av_Good cl D cy A sv as0 (mt mi).1.2.2.2.1 p l e R s m args below meth c Q S) →
        av_Good cl D cy A sv as0 (mt mi).1.2.2.2.1 p l e R s m args below meth c Q S := by
  intro fuel
  induction fuel with
  | zero => intro X mi sfx S outs h; cases h
  | succ n ih =>
    intro X mi sfx S outs h hok as0 p e R s m args below meth c Q C0 hret
    have hsv := C0.2.2.2.2.2.2.2.2.2.2.1.1
    cases sfx with
    | nil => cases h
    | cons q rest =>
      have h' : (bif q.1 == S.1 then
        match av_one X F q S with
        | some ss => av_all (fun S' => av_run F mt n X mi (bif S'.1 == S.1 + q.2.2.1 then rest else av_from S'.1 (mt mi).2.1) S') ss
        | none =>
        match av_mk (mt mi).2.2.1 (mt mi).2.2.2.1 F q S with
        | some S' => av_run F mt n X mi rest S'
        | none =>
        match av_obj (mt mi) q S with
        | some S' => av_run F mt n X mi rest S'
        | none =>
        match av_call q S with
        | some (j, args, stk) =>
          bif av_fits (mt mi) (mt j) S.2.2.2.2.1 S.2.2.2.2.2 args.length stk then
            match av_run F mt n (X.1, none) j (mt j).2.1 (0, av_ent 0 args, [], S.2.2.2.1, 0, 0) with
            | some outs => av_all (fun (o : Option av_V × av_H) => av_run F mt n X mi rest (S.1 + q.2.2.1, S.2.1, o.1.toList ++ stk, o.2, S.2.2.2.2.1 + (mt j).2.2.1, S.2.2.2.2.2 + (mt j).2.2.2.1)) outs
            | none => none
          else none
        | none =>
        match av_ret (mt mi) q S with
        | some r => some [(r, S.2.2.2.1)]
        | none => none
      else none) = some outs := h
      clear h
      obtain ⟨hq, h1⟩ := av_bif h'
      clear h'
      have hq : q.1 = S.1 := by simpa using hq
      have okq := hok q List.mem_cons_self
      have okr : ∀ q ∈ rest, av_ok Ts cl mt (mt mi) q := fun q' hq' => hok q' (List.mem_cons_of_mem _ hq')
      cases hone : av_one X F q S with
      | some ss =>
        rw [hone] at h1
        refine av_one_ok C0 hcls hcl4 hcl5 h100 okq hq hone fun S' hS' => ?_
        obtain ⟨o', q1, q2⟩ := av_all_mem h1 S' hS'
        refine ih X mi _ S' o' q1 ?_ as0 p e R s m args below meth c Q C0 fun q3 S3 r3 a1 a2 a3 a4 => hret q3 S3 r3 a1 a2 a3 (q2 _ a4)
        cases (S'.1 == S.1 + q.2.2.1) with
        | true => exact okr
        | false => exact fun q' hq' => hall mi q' (av_from_mem hq')
      | none =>
      rw [hone] at h1
      dsimp only at h1
      cases hmk : av_mk (mt mi).2.2.1 (mt mi).2.2.2.1 F q S with
      | some S' =>
        rw [hmk] at h1
        exact av_mk_ok C0 hcls okq hq hmk (ih X mi rest S' outs h1 okr as0 p e R s m args below meth c Q C0 hret)
      | none =>
      rw [hmk] at h1
      dsimp only at h1
      cases hobj : av_obj (mt mi) q S with
      | some S' =>
        rw [hobj] at h1
        have hg := ih X mi rest S' outs h1 okr as0 p e R s m args below meth c Q C0 hret
        obtain ⟨pc, ins, len, a, b, z⟩ := q
        obtain ⟨pc', L, st, hp, cN, sN⟩ := S
        dsimp only at hq
        subst hq
        unfold av_obj at hobj
        dsimp only at hobj
        cases ins <;> first | (cases hobj; done) | skip
        case invokespecial i =>
          dsimp only at hobj
          obtain ⟨ha, hobj2⟩ := av_bif hobj
          split at hobj2
          · rename_i kx st'
            obtain ⟨hc, hobj3⟩ := av_bif hobj2
            cases hobj3
            simp only [Bool.and_eq_true, decide_eq_true_eq] at hc
            exact av_obj_ok C0 okq (by simpa using ha) hc.1 hc.2 hg
          · cases hobj2
        case invokestatic i =>
          dsimp only at hobj
          obtain ⟨ha, hobj2⟩ := av_bif hobj
          split at hobj2
          · rename_i w u st'
            obtain ⟨hc, hobj3⟩ := av_bif hobj2
            cases hobj3
            simp only [Bool.and_eq_true, decide_eq_true_eq] at hc
            exact av_mm_ok C0 okq (by simpa using ha) hc.1 hc.2.1 hc.2.2.1 hc.2.2.2 hg
          · cases hobj2
      | none =>
      rw [hobj] at h1
      dsimp only at h1
      cases hcall : av_call q S with
      | some jas =>
        obtain ⟨j, av, stk⟩ := jas
        rw [hcall] at h1
        dsimp only at h1
        obtain ⟨hfits, h2⟩ := av_bif h1
        cases hrun : av_run F mt n (X.1, none) j (mt j).2.1 (0, av_ent 0 av, [], S.2.2.2.1, 0, 0) with
        | none => rw [hrun] at h2; cases h2
        | some outs' =>
          rw [hrun] at h2
          dsimp only at h2
          have hn9 : q.2.2.2.1 < 9000 := by
            have hj := av_callj hcall
            rcases Nat.lt_or_ge q.2.2.2.1 9000 with q9 | q9
            · exact q9
            · rw [h9 j (by omega)] at hrun
              cases n <;> cases hrun
          have hMet : av_Met Ts cl D cy A sv l X.1 (mt j) av S.2.2.2.1 outs' := by
            refine av_met_ok hsv (av_call_okM okq hn9 hcall) (av_call_all hcall) ?_ ?_
            · unfold av_fits at hfits
              simp only [Bool.and_eq_true, decide_eq_true_eq] at hfits
              exact hfits.1
            · intro as1 p1 e1 R1 s1 m1 args1 below1 meth1 c1 C1
              exact ih (X.1, none) j _ _ outs' hrun (hall j) as1 p1 e1 R1 s1 m1 args1 below1 meth1 c1 _ C1 fun q3 S3 r3 a1 a2 a3 a4 => av_ret_ok C1 a1 a2 a3 a4
          refine av_call_ok C0 hgood h100 okq hq hn9 hcall hfits hMet fun ov hov => ?_
          obtain ⟨o', q1, q2⟩ := av_all_mem h2 ov hov
          exact ih X mi rest _ o' q1 okr as0 p e R s m args below meth c Q C0 fun q3 S3 r3 a1 a2 a3 a4 => hret q3 S3 r3 a1 a2 a3 (q2 _ a4)
      | none =>
      rw [hcall] at h1
      dsimp only at h1
      cases hr : av_ret (mt mi) q S with
      | none => rw [hr] at h1; cases h1
      | some r =>
        rw [hr] at h1
        cases h1
        exact hret q S r okq hq hr (by simp)
end AVR
end
section
def op_X0_init : List av_Q := [
  (0, .aload_n 0, 1, 0, 0, 0), (1, .invokespecial 3, 3, 9999, 0, 0), (4, .aload_n 0, 1, 0, 0, 0), (5, .bipush 73, 2, 0, 0, 0),
  (7, .newarray .int, 2, 0, 0, 0), (9, .putfield 9, 3, 0, 1, 4), (12, .aload_n 0, 1, 0, 0, 0), (13, .aload_n 1, 1, 0, 0, 0),
  (14, .putfield 15, 3, 0, 0, 4), (17, .aload_n 0, 1, 0, 0, 0), (18, .aload_n 2, 1, 0, 0, 0), (19, .putfield 19, 3, 0, 7, 4),
  (22, .return_, 1, 0, 0, 0)]
def op_X1_init : List av_Q := [
  (0, .aload_n 0, 1, 0, 0, 0), (1, .invokespecial 3, 3, 9999, 0, 0), (4, .aload_n 0, 1, 0, 0, 0), (5, .aload_n 1, 1, 0, 0, 0),
  (6, .putfield 9, 3, 1, 0, 4), (9, .return_, 1, 0, 0, 0)]
def op_X1_begin : List av_Q := [
  (0, .iload_n 2, 1, 0, 0, 0), (1, .ifCond .lt 12, 3, 0, 0, 0), (4, .iload_n 2, 1, 0, 0, 0), (5, .aload_n 1, 1, 0, 0, 0),
  (6, .getfield 15, 3, 4, 7, 4), (9, .arraylength, 1, 0, 0, 0), (10, .if_icmp .lt 4, 3, 0, 0, 0), (14, .aload_n 0, 1, 0, 0, 0),
  (15, .aload_n 1, 1, 0, 0, 0), (16, .getfield 15, 3, 4, 7, 4), (19, .iload_n 2, 1, 0, 0, 0), (20, .aaload, 1, 0, 0, 0),
  (21, .putfield 9, 3, 1, 0, 4), (24, .aload_n 0, 1, 0, 0, 0), (25, .iconst 0, 1, 0, 0, 0), (26, .putfield 21, 3, 1, 1, 0),
  (29, .aload_n 0, 1, 0, 0, 0), (30, .iconst 0, 1, 0, 0, 0), (31, .putfield 25, 3, 1, 2, 0), (34, .aload_n 0, 1, 0, 0, 0),
  (35, .iconst 0, 1, 0, 0, 0), (36, .putfield 28, 3, 1, 3, 0), (39, .aload_n 0, 1, 0, 0, 0), (40, .iconst 0, 1, 0, 0, 0),
  (41, .putfield 31, 3, 1, 4, 0), (44, .aload_n 0, 1, 0, 0, 0), (45, .aload_n 0, 1, 0, 0, 0), (46, .getfield 9, 3, 1, 0, 4),
  (49, .getfield 34, 3, 7, 7, 0), (52, .putfield 39, 3, 1, 5, 0), (55, .aload_n 0, 1, 0, 0, 0), (56, .aload_n 0, 1, 0, 0, 0),
  (57, .getfield 9, 3, 1, 0, 4), (60, .getfield 40, 3, 7, 9, 0), (63, .putfield 43, 3, 1, 6, 0), (66, .aload_n 0, 1, 0, 0, 0),
  (67, .iconst 0, 1, 0, 0, 0), (68, .putfield 44, 3, 1, 7, 0), (71, .aload_n 0, 1, 0, 0, 0), (72, .iconst 0, 1, 0, 0, 0),
  (73, .putfield 47, 3, 1, 8, 0), (76, .aload_n 0, 1, 0, 0, 0), (77, .aload_n 0, 1, 0, 0, 0), (78, .getfield 9, 3, 1, 0, 4),
  (81, .getfield 50, 3, 7, 12, 0), (84, .putfield 53, 3, 1, 9, 0), (87, .aload_n 0, 1, 0, 0, 0), (88, .iconst 0, 1, 0, 0, 0),
  (89, .putfield 54, 3, 1, 10, 0), (92, .aload_n 0, 1, 0, 0, 0), (93, .aload_n 0, 1, 0, 0, 0), (94, .getfield 9, 3, 1, 0, 4),
  (97, .getfield 57, 3, 7, 5, 0), (100, .putfield 60, 3, 1, 15, 0), (103, .aload_n 0, 1, 0, 0, 0), (104, .aload_n 0, 1, 0, 0, 0),
  (105, .getfield 9, 3, 1, 0, 4), (108, .getfield 61, 3, 7, 6, 0), (111, .putfield 64, 3, 1, 16, 0), (114, .aload_n 0, 1, 0, 0, 0),
  (115, .aload_n 1, 1, 0, 0, 0), (116, .aload_n 0, 1, 0, 0, 0), (117, .getfield 9, 3, 1, 0, 4), (120, .getfield 65, 3, 7, 14, 0),
  (123, .invokevirtual 68, 3, 3, 2, 1), (126, .return_, 1, 0, 0, 0)]
def op_X1_setCauses : List av_Q := [
  (0, .aload_n 0, 1, 0, 0, 0), (1, .iload_n 2, 1, 0, 0, 0), (2, .putfield 72, 3, 1, 11, 0), (5, .aload_n 0, 1, 0, 0, 0),
  (6, .aload_n 1, 1, 0, 0, 0), (7, .iload_n 2, 1, 0, 0, 0), (8, .iconst 0, 1, 0, 0, 0), (9, .invokevirtual 73, 3, 14, 2, 4),
  (12, .putfield 77, 3, 1, 12, 0), (15, .aload_n 0, 1, 0, 0, 0), (16, .aload_n 1, 1, 0, 0, 0), (17, .iload_n 2, 1, 0, 0, 0),
  (18, .iconst 1, 1, 0, 0, 0), (19, .invokevirtual 73, 3, 14, 2, 4), (22, .putfield 80, 3, 1, 13, 0), (25, .aload_n 0, 1, 0, 0, 0),
  (26, .aload_n 1, 1, 0, 0, 0), (27, .iload_n 2, 1, 0, 0, 0), (28, .iconst 2, 1, 0, 0, 0), (29, .invokevirtual 73, 3, 14, 2, 4),
  (32, .putfield 83, 3, 1, 14, 0), (35, .return_, 1, 0, 0, 0)]
def op_X1_copy : List av_Q := [
  (0, .aload_n 0, 1, 0, 0, 0), (1, .aload_n 1, 1, 0, 0, 0), (2, .getfield 9, 3, 1, 0, 4), (5, .putfield 9, 3, 1, 0, 4),
  (8, .aload_n 0, 1, 0, 0, 0), (9, .aload_n 1, 1, 0, 0, 0), (10, .getfield 21, 3, 1, 1, 0), (13, .putfield 21, 3, 1, 1, 0),
  (16, .aload_n 0, 1, 0, 0, 0), (17, .aload_n 1, 1, 0, 0, 0), (18, .getfield 25, 3, 1, 2, 0), (21, .putfield 25, 3, 1, 2, 0),
  (24, .aload_n 0, 1, 0, 0, 0), (25, .aload_n 1, 1, 0, 0, 0), (26, .getfield 28, 3, 1, 3, 0), (29, .putfield 28, 3, 1, 3, 0),
  (32, .aload_n 0, 1, 0, 0, 0), (33, .aload_n 1, 1, 0, 0, 0), (34, .getfield 31, 3, 1, 4, 0), (37, .putfield 31, 3, 1, 4, 0),
  (40, .aload_n 0, 1, 0, 0, 0), (41, .aload_n 1, 1, 0, 0, 0), (42, .getfield 39, 3, 1, 5, 0), (45, .putfield 39, 3, 1, 5, 0),
  (48, .aload_n 0, 1, 0, 0, 0), (49, .aload_n 1, 1, 0, 0, 0), (50, .getfield 43, 3, 1, 6, 0), (53, .putfield 43, 3, 1, 6, 0),
  (56, .aload_n 0, 1, 0, 0, 0), (57, .aload_n 1, 1, 0, 0, 0), (58, .getfield 44, 3, 1, 7, 0), (61, .putfield 44, 3, 1, 7, 0),
  (64, .aload_n 0, 1, 0, 0, 0), (65, .aload_n 1, 1, 0, 0, 0), (66, .getfield 47, 3, 1, 8, 0), (69, .putfield 47, 3, 1, 8, 0),
  (72, .aload_n 0, 1, 0, 0, 0), (73, .aload_n 1, 1, 0, 0, 0), (74, .getfield 53, 3, 1, 9, 0), (77, .putfield 53, 3, 1, 9, 0),
  (80, .aload_n 0, 1, 0, 0, 0), (81, .aload_n 1, 1, 0, 0, 0), (82, .getfield 54, 3, 1, 10, 0), (85, .putfield 54, 3, 1, 10, 0),
  (88, .aload_n 0, 1, 0, 0, 0), (89, .aload_n 1, 1, 0, 0, 0), (90, .getfield 72, 3, 1, 11, 0), (93, .putfield 72, 3, 1, 11, 0),
  (96, .aload_n 0, 1, 0, 0, 0), (97, .aload_n 1, 1, 0, 0, 0), (98, .getfield 77, 3, 1, 12, 0), (101, .putfield 77, 3, 1, 12, 0),
  (104, .aload_n 0, 1, 0, 0, 0), (105, .aload_n 1, 1, 0, 0, 0), (106, .getfield 80, 3, 1, 13, 0), (109, .putfield 80, 3, 1, 13, 0),
  (112, .aload_n 0, 1, 0, 0, 0), (113, .aload_n 1, 1, 0, 0, 0), (114, .getfield 83, 3, 1, 14, 0), (117, .putfield 83, 3, 1, 14, 0),
  (120, .aload_n 0, 1, 0, 0, 0), (121, .aload_n 1, 1, 0, 0, 0), (122, .getfield 60, 3, 1, 15, 0), (125, .putfield 60, 3, 1, 15, 0),
  (128, .aload_n 0, 1, 0, 0, 0), (129, .aload_n 1, 1, 0, 0, 0), (130, .getfield 64, 3, 1, 16, 0), (133, .putfield 64, 3, 1, 16, 0),
  (136, .return_, 1, 0, 0, 0)]
def op_X2_init : List av_Q := [
  (0, .aload_n 0, 1, 0, 0, 0), (1, .invokespecial 3, 3, 9999, 0, 0), (4, .aload_n 0, 1, 0, 0, 0), (5, .bipush 10, 2, 0, 0, 0),
  (7, .newarray .long, 2, 3, 0, 0), (9, .putfield 9, 3, 2, 0, 4), (12, .aload_n 0, 1, 0, 0, 0), (13, .bipush 64, 2, 0, 0, 0),
  (15, .newarray .long, 2, 3, 0, 0), (17, .putfield 15, 3, 2, 1, 4), (20, .aload_n 0, 1, 0, 0, 0), (21, .iconst 3, 1, 0, 0, 0),
  (22, .newarray .int, 2, 0, 0, 0), (24, .putfield 18, 3, 2, 2, 4), (27, .aload_n 0, 1, 0, 0, 0), (28, .iconst (-1), 1, 0, 0, 0),
  (29, .putfield 22, 3, 2, 3, 0), (32, .return_, 1, 0, 0, 0)]
def op_X2_forget : List av_Q := [
  (0, .aload_n 0, 1, 0, 0, 0), (1, .iconst (-1), 1, 0, 0, 0), (2, .putfield 22, 3, 2, 3, 0), (5, .iconst 0, 1, 0, 0, 0),
  (6, .istore_n 1, 1, 0, 0, 0), (7, .iload_n 1, 1, 0, 0, 0), (8, .iconst 3, 1, 0, 0, 0), (9, .if_icmp .ge 16, 3, 0, 0, 0),
  (12, .aload_n 0, 1, 0, 0, 0), (13, .getfield 18, 3, 2, 2, 4), (16, .iload_n 1, 1, 0, 0, 0), (17, .iconst 0, 1, 0, 0, 0),
  (18, .iastore, 1, 0, 0, 0), (19, .iinc 1 1, 3, 0, 0, 0), (22, .goto (-15), 3, 0, 0, 0), (25, .return_, 1, 0, 0, 0)]
def op_X3_init : List av_Q := [
  (0, .aload_n 0, 1, 0, 0, 0), (1, .invokespecial 3, 3, 9999, 0, 0), (4, .aload_n 0, 1, 0, 0, 0), (5, .bipush 40, 2, 0, 0, 0),
  (7, .newarray .int, 2, 0, 0, 0), (9, .putfield 9, 3, 3, 0, 4), (12, .aload_n 0, 1, 0, 0, 0), (13, .bipush 40, 2, 0, 0, 0),
  (15, .newarray .int, 2, 0, 0, 0), (17, .putfield 15, 3, 3, 1, 4), (20, .aload_n 0, 1, 0, 0, 0), (21, .bipush 40, 2, 0, 0, 0),
  (23, .newarray .int, 2, 0, 0, 0), (25, .putfield 18, 3, 3, 2, 4), (28, .aload_n 0, 1, 0, 0, 0), (29, .bipush 40, 2, 0, 0, 0),
  (31, .newarray .int, 2, 0, 0, 0), (33, .putfield 21, 3, 3, 3, 4), (36, .aload_n 0, 1, 0, 0, 0), (37, .bipush 40, 2, 0, 0, 0),
  (39, .newarray .int, 2, 0, 0, 0), (41, .putfield 24, 3, 3, 4, 4), (44, .aload_n 0, 1, 0, 0, 0), (45, .bipush 40, 2, 0, 0, 0),
  (47, .newarray .int, 2, 0, 0, 0), (49, .putfield 27, 3, 3, 5, 4), (52, .aload_n 0, 1, 0, 0, 0), (53, .bipush 40, 2, 0, 0, 0),
  (55, .newarray .boolean, 2, 2, 0, 0), (57, .putfield 30, 3, 3, 6, 4), (60, .aload_n 0, 1, 0, 0, 0), (61, .bipush 40, 2, 0, 0, 0),
  (63, .newarray .int, 2, 0, 0, 0), (65, .putfield 34, 3, 3, 7, 4), (68, .aload_n 0, 1, 0, 0, 0), (69, .iconst (-1), 1, 0, 0, 0),
  (70, .putfield 37, 3, 3, 10, 0), (73, .return_, 1, 0, 0, 0)]
def op_X3_clear : List av_Q := [
  (0, .aload_n 0, 1, 0, 0, 0), (1, .iconst 0, 1, 0, 0, 0), (2, .putfield 41, 3, 3, 9, 0), (5, .aload_n 0, 1, 0, 0, 0),
  (6, .iconst (-1), 1, 0, 0, 0), (7, .putfield 37, 3, 3, 10, 0), (10, .return_, 1, 0, 0, 0)]
def op_X3_knownCount : List av_Q := [
  (0, .aload_n 0, 1, 0, 0, 0), (1, .getfield 37, 3, 3, 10, 0), (4, .iconst (-1), 1, 0, 0, 0), (5, .if_icmp .ne 10, 3, 0, 0, 0),
  (8, .aload_n 0, 1, 0, 0, 0), (9, .getfield 41, 3, 3, 9, 0), (12, .goto 7, 3, 0, 0, 0), (19, .ireturn, 1, 0, 0, 0)]
def op_X4_init : List av_Q := [
  (0, .aload_n 0, 1, 0, 0, 0), (1, .invokespecial 3, 3, 9999, 0, 0), (4, .aload_n 0, 1, 0, 0, 0), (5, .bipush 12, 2, 0, 0, 0),
  (7, .newarray .int, 2, 0, 0, 0), (9, .putfield 9, 3, 4, 0, 4), (12, .aload_n 0, 1, 0, 0, 0), (13, .bipush 64, 2, 0, 0, 0),
  (15, .newarray .int, 2, 0, 0, 0), (17, .putfield 15, 3, 4, 1, 4), (20, .aload_n 0, 1, 0, 0, 0), (21, .iconst 4, 1, 0, 0, 0),
  (22, .newarray .int, 2, 0, 0, 0), (24, .putfield 18, 3, 4, 4, 4), (27, .aload_n 0, 1, 0, 0, 0), (28, .iconst 4, 1, 0, 0, 0),
  (29, .newarray .int, 2, 0, 0, 0), (31, .putfield 21, 3, 4, 5, 4), (34, .aload_n 0, 1, 0, 0, 0), (35, .iconst 4, 1, 0, 0, 0),
  (36, .newarray .int, 2, 0, 0, 0), (38, .putfield 24, 3, 4, 6, 4), (41, .aload_n 0, 1, 0, 0, 0), (42, .iconst 4, 1, 0, 0, 0),
  (43, .anewarray 27, 3, 5, 0, 0), (46, .putfield 29, 3, 4, 7, 4), (49, .aload_n 0, 1, 0, 0, 0), (50, .iconst 4, 1, 0, 0, 0),
  (51, .newarray .int, 2, 0, 0, 0), (53, .putfield 33, 3, 4, 8, 4), (56, .aload_n 0, 1, 0, 0, 0), (57, .bipush 6, 2, 0, 0, 0),
  (59, .newarray .int, 2, 0, 0, 0), (61, .putfield 36, 3, 4, 10, 4), (64, .aload_n 0, 1, 0, 0, 0), (65, .bipush 6, 2, 0, 0, 0),
  (67, .newarray .int, 2, 0, 0, 0), (69, .putfield 39, 3, 4, 11, 4), (72, .aload_n 0, 1, 0, 0, 0), (73, .bipush 6, 2, 0, 0, 0),
  (75, .newarray .int, 2, 0, 0, 0), (77, .putfield 42, 3, 4, 12, 4), (80, .aload_n 0, 1, 0, 0, 0), (81, .bipush 6, 2, 0, 0, 0),
  (83, .newarray .int, 2, 0, 0, 0), (85, .putfield 45, 3, 4, 13, 4), (88, .aload_n 0, 1, 0, 0, 0), (89, .bipush 6, 2, 0, 0, 0),
  (91, .newarray .int, 2, 0, 0, 0), (93, .putfield 48, 3, 4, 15, 4), (96, .aload_n 0, 1, 0, 0, 0), (97, .bipush 6, 2, 0, 0, 0),
  (99, .newarray .int, 2, 0, 0, 0), (101, .putfield 51, 3, 4, 16, 4), (104, .aload_n 0, 1, 0, 0, 0), (105, .bipush 6, 2, 0, 0, 0),
  (107, .newarray .int, 2, 0, 0, 0), (109, .putfield 54, 3, 4, 17, 4), (112, .aload_n 0, 1, 0, 0, 0), (113, .bipush 6, 2, 0, 0, 0),
  (115, .newarray .int, 2, 0, 0, 0), (117, .putfield 57, 3, 4, 18, 4), (120, .iconst 0, 1, 0, 0, 0), (121, .istore_n 1, 1, 0, 0, 0),
  (122, .iload_n 1, 1, 0, 0, 0), (123, .iconst 4, 1, 0, 0, 0), (124, .if_icmp .ge 22, 3, 0, 0, 0), (127, .aload_n 0, 1, 0, 0, 0),
  (128, .getfield 29, 3, 4, 7, 4), (131, .iload_n 1, 1, 0, 0, 0), (132, .new 27, 3, 7, 0, 0), (135, .dup, 1, 0, 0, 0),
  (136, .invokespecial 60, 3, 21, 0, 0), (139, .aastore, 1, 0, 0, 0), (140, .iinc 1 1, 3, 0, 0, 0), (143, .goto (-21), 3, 0, 0, 0),
  (146, .aload_n 0, 1, 0, 0, 0), (147, .invokevirtual 61, 3, 11, 0, 4), (150, .return_, 1, 0, 0, 0)]
def op_X4_clear : List av_Q := [
  (0, .iconst 0, 1, 0, 0, 0), (1, .istore_n 1, 1, 0, 0, 0), (2, .iload_n 1, 1, 0, 0, 0), (3, .bipush 12, 2, 0, 0, 0),
  (5, .if_icmp .ge 17, 3, 0, 0, 0), (8, .aload_n 0, 1, 0, 0, 0), (9, .getfield 9, 3, 4, 0, 4), (12, .iload_n 1, 1, 0, 0, 0),
  (13, .bipush 50, 2, 0, 0, 0), (15, .iastore, 1, 0, 0, 0), (16, .iinc 1 1, 3, 0, 0, 0), (19, .goto (-17), 3, 0, 0, 0),
  (22, .iconst 0, 1, 0, 0, 0), (23, .istore_n 1, 1, 0, 0, 0), (24, .iload_n 1, 1, 0, 0, 0), (25, .iconst 4, 1, 0, 0, 0),
  (26, .if_icmp .ge 30, 3, 0, 0, 0), (29, .aload_n 0, 1, 0, 0, 0), (30, .getfield 18, 3, 4, 4, 4), (33, .iload_n 1, 1, 0, 0, 0),
  (34, .iconst 0, 1, 0, 0, 0), (35, .iastore, 1, 0, 0, 0), (36, .aload_n 0, 1, 0, 0, 0), (37, .getfield 21, 3, 4, 5, 4),
  (40, .iload_n 1, 1, 0, 0, 0), (41, .iconst 0, 1, 0, 0, 0), (42, .iastore, 1, 0, 0, 0), (43, .aload_n 0, 1, 0, 0, 0),
  (44, .getfield 24, 3, 4, 6, 4), (47, .iload_n 1, 1, 0, 0, 0), (48, .iconst 0, 1, 0, 0, 0), (49, .iastore, 1, 0, 0, 0),
  (50, .iinc 1 1, 3, 0, 0, 0), (53, .goto (-29), 3, 0, 0, 0), (56, .iconst 0, 1, 0, 0, 0), (57, .istore_n 1, 1, 0, 0, 0),
  (58, .iload_n 1, 1, 0, 0, 0), (59, .iconst 4, 1, 0, 0, 0), (60, .if_icmp .ge 18, 3, 0, 0, 0), (63, .aload_n 0, 1, 0, 0, 0),
  (64, .getfield 29, 3, 4, 7, 4), (67, .iload_n 1, 1, 0, 0, 0), (68, .aaload, 1, 0, 0, 0), (69, .invokevirtual 64, 3, 22, 0, 7),
  (72, .iinc 1 1, 3, 0, 0, 0), (75, .goto (-17), 3, 0, 0, 0), (78, .aload_n 0, 1, 0, 0, 0), (79, .iconst 0, 1, 0, 0, 0),
  (80, .putfield 65, 3, 4, 2, 0), (83, .aload_n 0, 1, 0, 0, 0), (84, .iconst 0, 1, 0, 0, 0), (85, .putfield 69, 3, 4, 3, 0),
  (88, .aload_n 0, 1, 0, 0, 0), (89, .iconst 0, 1, 0, 0, 0), (90, .putfield 72, 3, 4, 9, 0), (93, .aload_n 0, 1, 0, 0, 0),
  (94, .iconst 0, 1, 0, 0, 0), (95, .putfield 75, 3, 4, 14, 0), (98, .aload_n 0, 1, 0, 0, 0), (99, .iconst 0, 1, 0, 0, 0),
  (100, .putfield 78, 3, 4, 19, 0), (103, .return_, 1, 0, 0, 0)]
def op_X4_isWork : List av_Q := [
  (0, .iload_n 1, 1, 0, 0, 0), (1, .ifCond .lt 21, 3, 0, 0, 0), (4, .iload_n 1, 1, 0, 0, 0), (5, .aload_n 0, 1, 0, 0, 0),
  (6, .getfield 75, 3, 4, 14, 0), (9, .if_icmp .ge 13, 3, 0, 0, 0), (22, .iconst 0, 1, 0, 0, 0), (23, .ireturn, 1, 0, 0, 0)]
def op_X4_firmIn : List av_Q := [
  (0, .iload_n 1, 1, 0, 0, 0), (1, .ifCond .ge 7, 3, 0, 0, 0), (8, .aload_n 0, 1, 0, 0, 0), (9, .getfield 9, 3, 4, 0, 4),
  (12, .iload_n 1, 1, 0, 0, 0), (13, .bipush 12, 2, 0, 0, 0), (15, .imul, 1, 0, 0, 0), (16, .bipush 52, 2, 0, 0, 0),
  (18, .idiv, 1, 0, 0, 0), (19, .bipush 12, 2, 0, 0, 0), (21, .irem, 1, 0, 0, 0), (22, .iaload, 1, 0, 0, 0),
  (23, .ireturn, 1, 0, 0, 0)]
def op_X4_moreBy : List av_Q := [
  (0, .iconst 0, 1, 0, 0, 0), (1, .istore_n 3, 1, 0, 0, 0), (2, .iconst 0, 1, 0, 0, 0), (3, .istore 4, 2, 0, 0, 0),
  (5, .iload 4, 2, 0, 0, 0), (7, .aload_n 0, 1, 0, 0, 0), (8, .getfield 78, 3, 4, 19, 0), (11, .if_icmp .ge 46, 3, 0, 0, 0),
  (57, .iload_n 3, 1, 0, 0, 0), (58, .ireturn, 1, 0, 0, 0)]
def op_X5_init : List av_Q := [
  (0, .aload_n 0, 1, 0, 0, 0), (1, .invokespecial 3, 3, 9999, 0, 0), (4, .aload_n 0, 1, 0, 0, 0), (5, .iconst (-1), 1, 0, 0, 0),
  (6, .putfield 9, 3, 5, 5, 0), (9, .aload_n 0, 1, 0, 0, 0), (10, .new 15, 3, 6, 0, 0), (13, .dup, 1, 0, 0, 0),
  (14, .aload_n 1, 1, 0, 0, 0), (15, .invokespecial 17, 3, 17, 1, 0), (18, .putfield 20, 3, 5, 0, 4), (21, .aload_n 0, 1, 0, 0, 0),
  (22, .new 24, 3, 0, 0, 0), (25, .dup, 1, 0, 0, 0), (26, .aload_n 0, 1, 0, 0, 0), (27, .getfield 20, 3, 5, 0, 4),
  (30, .aload_n 2, 1, 0, 0, 0), (31, .invokespecial 26, 3, 0, 2, 0), (34, .putfield 29, 3, 5, 1, 4), (37, .aload_n 0, 1, 0, 0, 0),
  (38, .aload_n 2, 1, 0, 0, 0), (39, .putfield 33, 3, 5, 2, 4), (42, .return_, 1, 0, 0, 0)]
def op_X5_readText : List av_Q := [
  (0, .aload_n 0, 1, 0, 0, 0), (1, .aload_n 1, 1, 0, 0, 0), (2, .putfield 33, 3, 5, 2, 4), (5, .aload_n 0, 1, 0, 0, 0),
  (6, .getfield 33, 3, 5, 2, 4), (9, .invokevirtual 37, 3, 11, 0, 4), (12, .aload_n 0, 1, 0, 0, 0), (13, .iconst 0, 1, 0, 0, 0),
  (14, .putfield 42, 3, 5, 3, 2), (17, .aload_n 0, 1, 0, 0, 0), (18, .iconst 0, 1, 0, 0, 0), (19, .putfield 46, 3, 5, 4, 0),
  (22, .aload_n 0, 1, 0, 0, 0), (23, .iconst (-1), 1, 0, 0, 0), (24, .putfield 9, 3, 5, 5, 0), (27, .aload_n 0, 1, 0, 0, 0),
  (28, .getfield 20, 3, 5, 0, 4), (31, .iload_n 2, 1, 0, 0, 0), (32, .invokevirtual 49, 3, 19, 1, 6), (35, .iconst 0, 1, 0, 0, 0),
  (36, .istore_n 3, 1, 0, 0, 0), (37, .iload_n 3, 1, 0, 0, 0), (38, .sipush 900, 3, 0, 0, 0), (41, .if_icmp .gt 131, 3, 0, 0, 0),
  (44, .aload_n 0, 1, 0, 0, 0), (45, .getfield 20, 3, 5, 0, 4), (48, .getfield 53, 3, 6, 4, 0), (51, .ifCond .ne 5, 3, 0, 0, 0),
  (54, .iload_n 3, 1, 0, 0, 0), (55, .ireturn, 1, 0, 0, 0)]
def op_X6_init : List av_Q := [
  (0, .aload_n 0, 1, 0, 0, 0), (1, .invokespecial 3, 3, 9999, 0, 0), (4, .aload_n 0, 1, 0, 0, 0), (5, .bipush 34, 2, 0, 0, 0),
  (7, .newarray .int, 2, 0, 0, 0), (9, .putfield 9, 3, 6, 1, 4), (12, .aload_n 0, 1, 0, 0, 0), (13, .aload_n 1, 1, 0, 0, 0),
  (14, .putfield 15, 3, 6, 0, 4), (17, .iconst 0, 1, 0, 0, 0), (18, .istore_n 2, 1, 0, 0, 0), (19, .iconst 0, 1, 0, 0, 0),
  (20, .istore_n 3, 1, 0, 0, 0), (21, .iconst 0, 1, 0, 0, 0), (22, .istore 4, 2, 0, 0, 0), (24, .iload 4, 2, 0, 0, 0),
  (26, .ldc 19, 2, 1, 0, 0), (28, .invokevirtual 21, 3, 121, 0, 100), (31, .if_icmp .ge 57, 3, 0, 0, 0), (34, .iload_n 2, 1, 0, 0, 0),
  (35, .bipush 34, 2, 0, 0, 0), (37, .if_icmp .ge 51, 3, 0, 0, 0), (40, .ldc 19, 2, 1, 0, 0), (42, .iload 4, 2, 0, 0, 0),
  (44, .invokevirtual 27, 3, 122, 1, 100), (47, .istore 5, 2, 0, 0, 0), (49, .iload 5, 2, 0, 0, 0), (51, .bipush 32, 2, 0, 0, 0),
  (53, .if_icmp .ne 11, 3, 0, 0, 0), (56, .iinc 2 1, 3, 0, 0, 0), (59, .iconst 0, 1, 0, 0, 0), (60, .istore_n 3, 1, 0, 0, 0),
  (61, .goto 21, 3, 0, 0, 0), (64, .aload_n 0, 1, 0, 0, 0), (65, .getfield 9, 3, 6, 1, 4), (68, .iload_n 2, 1, 0, 0, 0),
  (69, .dup2, 1, 0, 0, 0), (70, .iaload, 1, 0, 0, 0), (71, .iload 5, 2, 0, 0, 0), (73, .iload_n 3, 1, 0, 0, 0),
  (74, .invokestatic 31, 3, 18, 2, 0), (77, .ior, 1, 0, 0, 0), (78, .iastore, 1, 0, 0, 0), (79, .iinc 3 1, 3, 0, 0, 0),
  (82, .iinc 4 1, 3, 0, 0, 0), (85, .goto (-61), 3, 0, 0, 0), (88, .return_, 1, 0, 0, 0)]
def op_X6_letterBits : List av_Q := [
  (0, .iload_n 1, 1, 0, 0, 0), (1, .bipush 6, 2, 0, 0, 0), (3, .if_icmp .ge 18, 3, 0, 0, 0), (6, .iload_n 0, 1, 0, 0, 0),
  (7, .bipush 97, 2, 0, 0, 0), (9, .isub, 1, 0, 0, 0), (10, .iconst 1, 1, 0, 0, 0), (11, .iadd, 1, 0, 0, 0),
  (12, .iconst 5, 1, 0, 0, 0), (13, .iconst 5, 1, 0, 0, 0), (14, .iload_n 1, 1, 0, 0, 0), (15, .isub, 1, 0, 0, 0),
  (16, .imul, 1, 0, 0, 0), (17, .ishl, 1, 0, 0, 0), (18, .goto 4, 3, 0, 0, 0), (22, .ireturn, 1, 0, 0, 0)]
def op_X6_begin : List av_Q := [
  (0, .aload_n 0, 1, 0, 0, 0), (1, .iconst 0, 1, 0, 0, 0), (2, .iload_n 1, 1, 0, 0, 0), (3, .aload_n 0, 1, 0, 0, 0),
  (4, .getfield 15, 3, 6, 0, 4), (7, .arraylength, 1, 0, 0, 0), (8, .invokestatic 35, 3, 9002, 2, 0), (11, .invokestatic 40, 3, 9001, 2, 0),
  (14, .putfield 43, 3, 6, 2, 0), (17, .aload_n 0, 1, 0, 0, 0), (18, .iconst 0, 1, 0, 0, 0), (19, .putfield 46, 3, 6, 3, 0),
  (22, .aload_n 0, 1, 0, 0, 0), (23, .invokevirtual 49, 3, 20, 0, 6), (26, .return_, 1, 0, 0, 0)]
def op_X6_step : List av_Q := [
  (0, .aload_n 0, 1, 0, 0, 0), (1, .getfield 46, 3, 6, 3, 0), (4, .aload_n 0, 1, 0, 0, 0), (5, .getfield 43, 3, 6, 2, 0),
  (8, .if_icmp .ge 44, 3, 0, 0, 0), (52, .aload_n 0, 1, 0, 0, 0), (53, .aload_n 0, 1, 0, 0, 0), (54, .getfield 46, 3, 6, 3, 0),
  (57, .putfield 52, 3, 6, 5, 0), (60, .aload_n 0, 1, 0, 0, 0), (61, .iconst 0, 1, 0, 0, 0), (62, .putfield 55, 3, 6, 6, 0),
  (65, .aload_n 0, 1, 0, 0, 0), (66, .getfield 46, 3, 6, 3, 0), (69, .aload_n 0, 1, 0, 0, 0), (70, .getfield 43, 3, 6, 2, 0),
  (73, .if_icmp .lt 11, 3, 0, 0, 0), (76, .aload_n 0, 1, 0, 0, 0), (77, .iconst 0, 1, 0, 0, 0), (78, .putfield 58, 3, 6, 4, 0),
  (81, .goto 86, 3, 0, 0, 0), (167, .return_, 1, 0, 0, 0)]
def op_X7_init : List av_Q := [
  (0, .aload_n 0, 1, 0, 0, 0), (1, .invokespecial 3, 3, 9999, 0, 0), (4, .aload_n 0, 1, 0, 0, 0), (5, .bipush 9, 2, 0, 0, 0),
  (7, .newarray .int, 2, 0, 0, 0), (9, .putfield 9, 3, 7, 16, 4), (12, .aload_n 0, 1, 0, 0, 0), (13, .invokevirtual 15, 3, 22, 0, 7),
  (16, .return_, 1, 0, 0, 0)]
def op_X7_clear : List av_Q := [
  (0, .aload_n 0, 1, 0, 0, 0), (1, .bipush 24, 2, 0, 0, 0), (3, .putfield 18, 3, 7, 0, 0), (6, .aload_n 0, 1, 0, 0, 0),
  (7, .bipush 20, 2, 0, 0, 0), (9, .putfield 22, 3, 7, 2, 0), (12, .aload_n 0, 1, 0, 0, 0), (13, .bipush 24, 2, 0, 0, 0),
  (15, .invokevirtual 25, 3, 23, 1, 7), (18, .aload_n 0, 1, 0, 0, 0), (19, .iconst 0, 1, 0, 0, 0), (20, .putfield 29, 3, 7, 5, 0),
  (23, .aload_n 0, 1, 0, 0, 0), (24, .iconst 0, 1, 0, 0, 0), (25, .putfield 32, 3, 7, 6, 0), (28, .aload_n 0, 1, 0, 0, 0),
  (29, .bipush 36, 2, 0, 0, 0), (31, .putfield 35, 3, 7, 7, 0), (34, .aload_n 0, 1, 0, 0, 0), (35, .bipush 8, 2, 0, 0, 0),
  (37, .putfield 38, 3, 7, 8, 0), (40, .aload_n 0, 1, 0, 0, 0), (41, .iconst 0, 1, 0, 0, 0), (42, .putfield 41, 3, 7, 9, 0),
  (45, .aload_n 0, 1, 0, 0, 0), (46, .sipush 1000, 3, 0, 0, 0), (49, .putfield 44, 3, 7, 10, 0), (52, .aload_n 0, 1, 0, 0, 0),
  (53, .sipush 1000, 3, 0, 0, 0), (56, .putfield 47, 3, 7, 11, 0), (59, .aload_n 0, 1, 0, 0, 0), (60, .iconst 0, 1, 0, 0, 0),
  (61, .putfield 50, 3, 7, 12, 0), (64, .aload_n 0, 1, 0, 0, 0), (65, .sipush 3000, 3, 0, 0, 0), (68, .putfield 53, 3, 7, 13, 0),
  (71, .aload_n 0, 1, 0, 0, 0), (72, .iconst 0, 1, 0, 0, 0), (73, .putfield 56, 3, 7, 14, 0), (76, .aload_n 0, 1, 0, 0, 0),
  (77, .iconst 0, 1, 0, 0, 0), (78, .putfield 59, 3, 7, 15, 0), (81, .iconst 0, 1, 0, 0, 0), (82, .istore_n 1, 1, 0, 0, 0),
  (83, .iload_n 1, 1, 0, 0, 0), (84, .aload_n 0, 1, 0, 0, 0), (85, .getfield 9, 3, 7, 16, 4), (88, .arraylength, 1, 0, 0, 0),
  (89, .if_icmp .ge 16, 3, 0, 0, 0), (92, .aload_n 0, 1, 0, 0, 0), (93, .getfield 9, 3, 7, 16, 4), (96, .iload_n 1, 1, 0, 0, 0),
  (97, .iconst 0, 1, 0, 0, 0), (98, .iastore, 1, 0, 0, 0), (99, .iinc 1 1, 3, 0, 0, 0), (102, .goto (-19), 3, 0, 0, 0),
  (105, .return_, 1, 0, 0, 0)]
def op_X7_setHeight : List av_Q := [
  (0, .aload_n 0, 1, 0, 0, 0), (1, .iload_n 1, 1, 0, 0, 0), (2, .putfield 62, 3, 7, 1, 0), (5, .aload_n 0, 1, 0, 0, 0),
  (6, .bipush 6, 2, 0, 0, 0), (8, .putfield 65, 3, 7, 3, 0), (11, .aload_n 0, 1, 0, 0, 0), (12, .iload_n 1, 1, 0, 0, 0),
  (13, .bipush 6, 2, 0, 0, 0), (15, .isub, 1, 0, 0, 0), (16, .putfield 68, 3, 7, 4, 0), (19, .return_, 1, 0, 0, 0)]
def op_X8_init : List av_Q := [
  (0, .aload_n 0, 1, 0, 0, 0), (1, .invokespecial 3, 3, 9999, 0, 0), (4, .aload_n 0, 1, 0, 0, 0), (5, .bipush 28, 2, 0, 0, 0),
  (7, .newarray .int, 2, 0, 0, 0), (9, .putfield 9, 3, 8, 0, 4), (12, .aload_n 0, 1, 0, 0, 0), (13, .new 15, 3, 1, 0, 0),
  (16, .dup, 1, 0, 0, 0), (17, .aload_n 1, 1, 0, 0, 0), (18, .invokespecial 17, 3, 1, 1, 0), (21, .putfield 20, 3, 8, 1, 4),
  (24, .return_, 1, 0, 0, 0)]
def op_X9_init : List av_Q := [
  (0, .aload_n 0, 1, 0, 0, 0), (1, .invokespecial 3, 3, 9999, 0, 0), (4, .aload_n 0, 1, 0, 0, 0), (5, .bipush 16, 2, 0, 0, 0),
  (7, .newarray .int, 2, 0, 0, 0), (9, .putfield 9, 3, 9, 0, 4), (12, .aload_n 0, 1, 0, 0, 0), (13, .iconst 4, 1, 0, 0, 0),
  (14, .newarray .int, 2, 0, 0, 0), (16, .putfield 15, 3, 9, 1, 4), (19, .aload_n 0, 1, 0, 0, 0), (20, .iconst 4, 1, 0, 0, 0),
  (21, .newarray .int, 2, 0, 0, 0), (23, .putfield 18, 3, 9, 2, 4), (26, .return_, 1, 0, 0, 0)]
def op_X10_init : List av_Q := [
  (0, .aload_n 0, 1, 0, 0, 0), (1, .invokespecial 3, 3, 9999, 0, 0), (4, .aload_n 0, 1, 0, 0, 0), (5, .bipush 20, 2, 0, 0, 0),
  (7, .anewarray 9, 3, 4, 0, 0), (10, .putfield 11, 3, 10, 0, 4), (13, .aload_n 0, 1, 0, 0, 0), (14, .bipush 20, 2, 0, 0, 0),
  (16, .newarray .int, 2, 0, 0, 0), (18, .putfield 17, 3, 10, 1, 4), (21, .iconst 0, 1, 0, 0, 0), (22, .istore_n 2, 1, 0, 0, 0),
  (23, .iload_n 2, 1, 0, 0, 0), (24, .bipush 20, 2, 0, 0, 0), (26, .if_icmp .ge 23, 3, 0, 0, 0), (29, .aload_n 0, 1, 0, 0, 0),
  (30, .getfield 11, 3, 10, 0, 4), (33, .iload_n 2, 1, 0, 0, 0), (34, .new 9, 3, 1, 0, 0), (37, .dup, 1, 0, 0, 0),
  (38, .aload_n 1, 1, 0, 0, 0), (39, .invokespecial 21, 3, 1, 1, 0), (42, .aastore, 1, 0, 0, 0), (43, .iinc 2 1, 3, 0, 0, 0),
  (46, .goto (-23), 3, 0, 0, 0), (49, .return_, 1, 0, 0, 0)]
def op_X10_clear : List av_Q := [
  (0, .aload_n 0, 1, 0, 0, 0), (1, .iconst 0, 1, 0, 0, 0), (2, .putfield 24, 3, 10, 2, 0), (5, .return_, 1, 0, 0, 0)]
def op_X11_init : List av_Q := [
  (0, .aload_n 0, 1, 0, 0, 0), (1, .invokespecial 3, 3, 9999, 0, 0), (4, .aload_n 0, 1, 0, 0, 0), (5, .sipush 900, 3, 0, 0, 0),
  (8, .newarray .byte, 2, 1, 0, 0), (10, .putfield 11, 3, 11, 0, 4), (13, .aload_n 0, 1, 0, 0, 0), (14, .new 15, 3, 4, 0, 0),
  (17, .dup, 1, 0, 0, 0), (18, .invokespecial 17, 3, 10, 0, 0), (21, .putfield 18, 3, 11, 2, 4), (24, .aload_n 0, 1, 0, 0, 0),
  (25, .new 15, 3, 4, 0, 0), (28, .dup, 1, 0, 0, 0), (29, .invokespecial 17, 3, 10, 0, 0), (32, .putfield 22, 3, 11, 3, 4),
  (35, .aload_n 0, 1, 0, 0, 0), (36, .new 25, 3, 5, 0, 0), (39, .dup, 1, 0, 0, 0), (40, .aload_n 0, 1, 0, 0, 0),
  (41, .getfield 11, 3, 11, 0, 4), (44, .aload_n 0, 1, 0, 0, 0), (45, .getfield 22, 3, 11, 3, 4), (48, .invokespecial 27, 3, 15, 2, 0),
  (51, .putfield 30, 3, 11, 4, 4), (54, .aload_n 0, 1, 0, 0, 0), (55, .new 34, 3, 2, 0, 0), (58, .dup, 1, 0, 0, 0),
  (59, .invokespecial 36, 3, 5, 0, 0), (62, .putfield 37, 3, 11, 5, 4), (65, .aload_n 0, 1, 0, 0, 0), (66, .new 41, 3, 7, 0, 0),
  (69, .dup, 1, 0, 0, 0), (70, .invokespecial 43, 3, 21, 0, 0), (73, .putfield 44, 3, 11, 6, 4), (76, .aload_n 0, 1, 0, 0, 0),
  (77, .iconst 4, 1, 0, 0, 0), (78, .anewarray 48, 3, 4, 0, 0), (81, .putfield 50, 3, 11, 7, 4), (84, .aload_n 0, 1, 0, 0, 0),
  (85, .iconst 4, 1, 0, 0, 0), (86, .anewarray 48, 3, 4, 0, 0), (89, .putfield 54, 3, 11, 9, 4), (92, .aload_n 0, 1, 0, 0, 0),
  (93, .iconst (-1), 1, 0, 0, 0), (94, .putfield 57, 3, 11, 10, 0), (97, .aload_n 0, 1, 0, 0, 0), (98, .new 61, 3, 10, 0, 0),
  (101, .dup, 1, 0, 0, 0), (102, .aload_n 0, 1, 0, 0, 0), (103, .getfield 44, 3, 11, 6, 4), (106, .invokespecial 63, 3, 26, 1, 0),
  (109, .putfield 66, 3, 11, 11, 4), (112, .aload_n 0, 1, 0, 0, 0), (113, .new 70, 3, 3, 0, 0), (116, .dup, 1, 0, 0, 0),
  (117, .invokespecial 72, 3, 7, 0, 0), (120, .putfield 73, 3, 11, 12, 4), (123, .aload_n 0, 1, 0, 0, 0), (124, .new 77, 3, 8, 0, 0),
  (127, .dup, 1, 0, 0, 0), (128, .aload_n 0, 1, 0, 0, 0), (129, .getfield 44, 3, 11, 6, 4), (132, .invokespecial 79, 3, 24, 1, 0),
  (135, .putfield 80, 3, 11, 13, 4), (138, .aload_n 0, 1, 0, 0, 0), (139, .new 48, 3, 1, 0, 0), (142, .dup, 1, 0, 0, 0),
  (143, .aload_n 0, 1, 0, 0, 0), (144, .getfield 44, 3, 11, 6, 4), (147, .invokespecial 84, 3, 1, 1, 0), (150, .putfield 85, 3, 11, 14, 4),
  (153, .aload_n 0, 1, 0, 0, 0), (154, .new 89, 3, 9, 0, 0), (157, .dup, 1, 0, 0, 0), (158, .invokespecial 91, 3, 25, 0, 0),
  (161, .putfield 92, 3, 11, 15, 4), (164, .iconst 0, 1, 0, 0, 0), (165, .istore_n 1, 1, 0, 0, 0), (166, .iload_n 1, 1, 0, 0, 0),
  (167, .iconst 4, 1, 0, 0, 0), (168, .if_icmp .ge 43, 3, 0, 0, 0), (171, .aload_n 0, 1, 0, 0, 0), (172, .getfield 50, 3, 11, 7, 4),
  (175, .iload_n 1, 1, 0, 0, 0), (176, .new 48, 3, 1, 0, 0), (179, .dup, 1, 0, 0, 0), (180, .aload_n 0, 1, 0, 0, 0),
  (181, .getfield 44, 3, 11, 6, 4), (184, .invokespecial 84, 3, 1, 1, 0), (187, .aastore, 1, 0, 0, 0), (188, .aload_n 0, 1, 0, 0, 0),
  (189, .getfield 54, 3, 11, 9, 4), (192, .iload_n 1, 1, 0, 0, 0), (193, .new 48, 3, 1, 0, 0), (196, .dup, 1, 0, 0, 0),
  (197, .aload_n 0, 1, 0, 0, 0), (198, .getfield 44, 3, 11, 6, 4), (201, .invokespecial 84, 3, 1, 1, 0), (204, .aastore, 1, 0, 0, 0),
  (205, .iinc 1 1, 3, 0, 0, 0), (208, .goto (-42), 3, 0, 0, 0), (211, .return_, 1, 0, 0, 0)]
def op_X11_feed : List av_Q := [
  (0, .aload_n 0, 1, 0, 0, 0), (1, .getfield 96, 3, 11, 1, 0), (4, .sipush 880, 3, 0, 0, 0), (7, .if_icmp .le 5, 3, 0, 0, 0),
  (12, .aload_n 0, 1, 0, 0, 0), (13, .iload_n 1, 1, 0, 0, 0), (14, .invokevirtual 99, 3, 30, 1, 11), (17, .aload_n 0, 1, 0, 0, 0),
  (18, .iload_n 2, 1, 0, 0, 0), (19, .invokevirtual 99, 3, 30, 1, 11), (22, .aload_n 0, 1, 0, 0, 0), (23, .iload_n 3, 1, 0, 0, 0),
  (24, .invokevirtual 99, 3, 30, 1, 11), (27, .aload_n 0, 1, 0, 0, 0), (28, .iload 4, 2, 0, 0, 0), (30, .invokevirtual 99, 3, 30, 1, 11),
  (33, .aload_n 0, 1, 0, 0, 0), (34, .iload 5, 2, 0, 0, 0), (36, .invokevirtual 99, 3, 30, 1, 11), (39, .aload_n 0, 1, 0, 0, 0),
  (40, .getfield 96, 3, 11, 1, 0), (43, .ireturn, 1, 0, 0, 0)]
def op_X11_putOnTape : List av_Q := [
  (0, .bipush 24, 2, 0, 0, 0), (2, .istore_n 2, 1, 0, 0, 0), (3, .iload_n 2, 1, 0, 0, 0), (4, .ifCond .lt 51, 3, 0, 0, 0),
  (7, .aload_n 0, 1, 0, 0, 0), (8, .getfield 96, 3, 11, 1, 0), (11, .ifCond .lt 38, 3, 0, 0, 0), (14, .aload_n 0, 1, 0, 0, 0),
  (15, .getfield 96, 3, 11, 1, 0), (18, .aload_n 0, 1, 0, 0, 0), (19, .getfield 11, 3, 11, 0, 4), (22, .arraylength, 1, 0, 0, 0),
  (23, .if_icmp .ge 26, 3, 0, 0, 0), (26, .aload_n 0, 1, 0, 0, 0), (27, .getfield 11, 3, 11, 0, 4), (30, .aload_n 0, 1, 0, 0, 0),
  (31, .getfield 96, 3, 11, 1, 0), (34, .iload_n 1, 1, 0, 0, 0), (35, .iload_n 2, 1, 0, 0, 0), (36, .iushr, 1, 0, 0, 0),
  (37, .i2b, 1, 0, 0, 0), (38, .bastore, 1, 0, 0, 0), (39, .aload_n 0, 1, 0, 0, 0), (40, .dup, 1, 0, 0, 0),
  (41, .getfield 96, 3, 11, 1, 0), (44, .iconst 1, 1, 0, 0, 0), (45, .iadd, 1, 0, 0, 0), (46, .putfield 96, 3, 11, 1, 0),
  (49, .iinc 2 (-8), 3, 0, 0, 0), (52, .goto (-49), 3, 0, 0, 0), (55, .return_, 1, 0, 0, 0)]
def op_X11_text : List av_Q := [
  (0, .iload_n 1, 1, 0, 0, 0), (1, .ifCond .lt 11, 3, 0, 0, 0), (4, .iload_n 1, 1, 0, 0, 0), (5, .aload_n 0, 1, 0, 0, 0),
  (6, .getfield 96, 3, 11, 1, 0), (9, .if_icmp .le 6, 3, 0, 0, 0), (12, .bipush (-2), 2, 0, 0, 0), (14, .ireturn, 1, 0, 0, 0),
  (15, .aload_n 0, 1, 0, 0, 0), (16, .iconst 0, 1, 0, 0, 0), (17, .putfield 96, 3, 11, 1, 0), (20, .aload_n 0, 1, 0, 0, 0),
  (21, .getfield 30, 3, 11, 4, 4), (24, .aload_n 0, 1, 0, 0, 0), (25, .getfield 22, 3, 11, 3, 4), (28, .iload_n 1, 1, 0, 0, 0),
  (29, .invokevirtual 103, 3, 16, 2, 5), (32, .istore_n 2, 1, 0, 0, 0), (33, .iload_n 2, 1, 0, 0, 0), (34, .iconst (-1), 1, 0, 0, 0),
  (35, .if_icmp .eq 7, 3, 0, 0, 0), (38, .aload_n 0, 1, 0, 0, 0), (39, .invokevirtual 107, 3, 32, 0, 11), (42, .iload_n 2, 1, 0, 0, 0),
  (43, .ireturn, 1, 0, 0, 0)]
def op_X11_takeSpare : List av_Q := [
  (0, .aload_n 0, 1, 0, 0, 0), (1, .getfield 18, 3, 11, 2, 4), (4, .astore_n 1, 1, 0, 0, 0), (5, .aload_n 0, 1, 0, 0, 0),
  (6, .aload_n 0, 1, 0, 0, 0), (7, .getfield 22, 3, 11, 3, 4), (10, .putfield 18, 3, 11, 2, 4), (13, .aload_n 0, 1, 0, 0, 0),
  (14, .aload_n 1, 1, 0, 0, 0), (15, .putfield 22, 3, 11, 3, 4), (18, .aload_n 0, 1, 0, 0, 0), (19, .getfield 37, 3, 11, 5, 4),
  (22, .invokevirtual 110, 3, 6, 0, 2), (25, .iconst 0, 1, 0, 0, 0), (26, .istore_n 2, 1, 0, 0, 0), (27, .iload_n 2, 1, 0, 0, 0),
  (28, .iconst 4, 1, 0, 0, 0), (29, .if_icmp .ge 23, 3, 0, 0, 0), (32, .aload_n 0, 1, 0, 0, 0), (33, .getfield 50, 3, 11, 7, 4),
  (36, .iload_n 2, 1, 0, 0, 0), (37, .aaload, 1, 0, 0, 0), (38, .aload_n 0, 1, 0, 0, 0), (39, .getfield 18, 3, 11, 2, 4),
  (42, .iload_n 2, 1, 0, 0, 0), (43, .invokevirtual 113, 3, 2, 2, 1), (46, .iinc 2 1, 3, 0, 0, 0), (49, .goto (-22), 3, 0, 0, 0),
  (52, .aload_n 0, 1, 0, 0, 0), (53, .iconst 0, 1, 0, 0, 0), (54, .putfield 117, 3, 11, 8, 0), (57, .aload_n 0, 1, 0, 0, 0),
  (58, .iconst (-1), 1, 0, 0, 0), (59, .putfield 57, 3, 11, 10, 0), (62, .aload_n 0, 1, 0, 0, 0), (63, .getfield 66, 3, 11, 11, 4),
  (66, .invokevirtual 120, 3, 27, 0, 10), (69, .aload_n 0, 1, 0, 0, 0), (70, .getfield 73, 3, 11, 12, 4), (73, .invokevirtual 123, 3, 8, 0, 3),
  (76, .return_, 1, 0, 0, 0)]
def op_X11_fault : List av_Q := [
  (0, .iload_n 1, 1, 0, 0, 0), (1, .ifCond .ne 11, 3, 0, 0, 0), (4, .aload_n 0, 1, 0, 0, 0), (5, .getfield 30, 3, 11, 4, 4),
  (8, .getfield 124, 3, 5, 4, 0), (11, .ireturn, 1, 0, 0, 0), (12, .iload_n 1, 1, 0, 0, 0), (13, .iconst 1, 1, 0, 0, 0),
  (14, .if_icmp .ne 13, 3, 0, 0, 0), (17, .aload_n 0, 1, 0, 0, 0), (18, .getfield 30, 3, 11, 4, 4), (21, .getfield 127, 3, 5, 5, 0),
  (24, .goto 4, 3, 0, 0, 0), (27, .iconst (-1), 1, 0, 0, 0), (28, .ireturn, 1, 0, 0, 0)]
def op_X11_named : List av_Q := [
  (0, .iload_n 1, 1, 0, 0, 0), (1, .ifCond .ne 22, 3, 0, 0, 0), (4, .iload_n 2, 1, 0, 0, 0), (5, .aload_n 0, 1, 0, 0, 0),
  (6, .getfield 18, 3, 11, 2, 4), (9, .getfield 130, 3, 4, 8, 4), (12, .aload_n 0, 1, 0, 0, 0), (13, .getfield 18, 3, 11, 2, 4),
  (16, .getfield 134, 3, 4, 9, 0), (19, .invokestatic 137, 3, 35, 3, 0), (22, .ireturn, 1, 0, 0, 0), (23, .iload_n 1, 1, 0, 0, 0),
  (24, .iconst 1, 1, 0, 0, 0), (25, .if_icmp .ne 22, 3, 0, 0, 0), (28, .iload_n 2, 1, 0, 0, 0), (29, .aload_n 0, 1, 0, 0, 0),
  (30, .getfield 18, 3, 11, 2, 4), (33, .getfield 141, 3, 4, 10, 4), (36, .aload_n 0, 1, 0, 0, 0), (37, .getfield 18, 3, 11, 2, 4),
  (40, .getfield 144, 3, 4, 14, 0), (43, .invokestatic 137, 3, 35, 3, 0), (46, .ireturn, 1, 0, 0, 0), (47, .iload_n 1, 1, 0, 0, 0),
  (48, .iconst 2, 1, 0, 0, 0), (49, .if_icmp .ne 24, 3, 0, 0, 0), (52, .iload_n 2, 1, 0, 0, 0), (53, .aload_n 0, 1, 0, 0, 0),
  (54, .getfield 18, 3, 11, 2, 4), (57, .getfield 147, 3, 4, 15, 4), (60, .aload_n 0, 1, 0, 0, 0), (61, .getfield 18, 3, 11, 2, 4),
  (64, .getfield 150, 3, 4, 19, 0), (67, .invokestatic 137, 3, 35, 3, 0), (70, .goto 4, 3, 0, 0, 0), (73, .iconst (-1), 1, 0, 0, 0),
  (74, .ireturn, 1, 0, 0, 0)]
def op_X11_placeOf : List av_Q := [
  (0, .iconst 0, 1, 0, 0, 0), (1, .istore_n 3, 1, 0, 0, 0), (2, .iload_n 3, 1, 0, 0, 0), (3, .iload_n 2, 1, 0, 0, 0),
  (4, .if_icmp .ge 24, 3, 0, 0, 0), (28, .iconst (-1), 1, 0, 0, 0), (29, .ireturn, 1, 0, 0, 0)]
def op_X11_isGate : List av_Q := [
  (0, .iload_n 1, 1, 0, 0, 0), (1, .ifCond .lt 27, 3, 0, 0, 0), (4, .iload_n 1, 1, 0, 0, 0), (5, .aload_n 0, 1, 0, 0, 0),
  (6, .getfield 18, 3, 11, 2, 4), (9, .getfield 134, 3, 4, 9, 0), (12, .if_icmp .ge 16, 3, 0, 0, 0), (28, .iconst 0, 1, 0, 0, 0),
  (29, .ireturn, 1, 0, 0, 0)]
def op_X11_isAhead : List av_Q := [
  (0, .iload_n 0, 1, 0, 0, 0), (1, .ifCond .lt 14, 3, 0, 0, 0), (4, .iload_n 0, 1, 0, 0, 0), (5, .sipush 520, 3, 0, 0, 0),
  (8, .if_icmp .gt 7, 3, 0, 0, 0), (11, .iconst 1, 1, 0, 0, 0), (12, .goto 4, 3, 0, 0, 0), (15, .iconst 0, 1, 0, 0, 0),
  (16, .ireturn, 1, 0, 0, 0)]
def op_X11_isWeek : List av_Q := [
  (0, .iload_n 0, 1, 0, 0, 0), (1, .ifCond .lt 14, 3, 0, 0, 0), (4, .iload_n 0, 1, 0, 0, 0), (5, .sipush 2000, 3, 0, 0, 0),
  (8, .if_icmp .ge 7, 3, 0, 0, 0), (11, .iconst 1, 1, 0, 0, 0), (12, .goto 4, 3, 0, 0, 0), (15, .iconst 0, 1, 0, 0, 0),
  (16, .ireturn, 1, 0, 0, 0)]
def op_X11_works : List av_Q := [
  (0, .aload_n 0, 1, 0, 0, 0), (1, .getfield 18, 3, 11, 2, 4), (4, .iload_n 1, 1, 0, 0, 0), (5, .invokevirtual 208, 3, 12, 1, 4),
  (8, .ifCond .eq 12, 3, 0, 0, 0), (20, .iconst (-1), 1, 0, 0, 0), (21, .ireturn, 1, 0, 0, 0)]
def op_X11_firm : List av_Q := [
  (0, .iload_n 1, 1, 0, 0, 0), (1, .invokestatic 220, 3, 38, 1, 0), (4, .ifCond .eq 14, 3, 0, 0, 0), (7, .aload_n 0, 1, 0, 0, 0),
  (8, .getfield 18, 3, 11, 2, 4), (11, .iload_n 1, 1, 0, 0, 0), (12, .invokevirtual 223, 3, 13, 1, 4), (15, .goto 4, 3, 0, 0, 0),
  (18, .iconst (-1), 1, 0, 0, 0), (19, .ireturn, 1, 0, 0, 0)]
def op_X11_weeks : List av_Q := [
  (0, .iload_n 1, 1, 0, 0, 0), (1, .invokestatic 227, 3, 37, 1, 0), (4, .ifCond .eq 15, 3, 0, 0, 0), (7, .aload_n 0, 1, 0, 0, 0),
  (8, .getfield 117, 3, 11, 8, 0), (11, .iload_n 1, 1, 0, 0, 0), (12, .iadd, 1, 0, 0, 0), (13, .sipush 2000, 3, 0, 0, 0),
  (16, .if_icmp .le 5, 3, 0, 0, 0), (19, .iconst (-1), 1, 0, 0, 0), (20, .ireturn, 1, 0, 0, 0), (21, .iconst 0, 1, 0, 0, 0),
  (22, .istore_n 2, 1, 0, 0, 0), (23, .iload_n 2, 1, 0, 0, 0), (24, .aload_n 0, 1, 0, 0, 0), (25, .getfield 18, 3, 11, 2, 4),
  (28, .getfield 134, 3, 4, 9, 0), (31, .if_icmp .ge 40, 3, 0, 0, 0), (71, .aload_n 0, 1, 0, 0, 0), (72, .dup, 1, 0, 0, 0),
  (73, .getfield 117, 3, 11, 8, 0), (76, .iload_n 1, 1, 0, 0, 0), (77, .iadd, 1, 0, 0, 0), (78, .putfield 117, 3, 11, 8, 0),
  (81, .aload_n 0, 1, 0, 0, 0), (82, .getfield 117, 3, 11, 8, 0), (85, .ireturn, 1, 0, 0, 0)]
def op_X11_sags : List av_Q := [
  (0, .aload_n 0, 1, 0, 0, 0), (1, .iload_n 1, 1, 0, 0, 0), (2, .invokevirtual 155, 3, 36, 1, 11), (5, .ifCond .ne 6, 3, 0, 0, 0),
  (8, .ldc 234, 2, 0, 0, (-2147483648)), (10, .ireturn, 1, 0, 0, 0)]
def op_X11_latched : List av_Q := [
  (0, .aload_n 0, 1, 0, 0, 0), (1, .iload_n 1, 1, 0, 0, 0), (2, .invokevirtual 155, 3, 36, 1, 11), (5, .ifCond .ne 5, 3, 0, 0, 0),
  (8, .iconst (-1), 1, 0, 0, 0), (9, .ireturn, 1, 0, 0, 0)]
def op_X11_gives : List av_Q := [
  (0, .aload_n 0, 1, 0, 0, 0), (1, .iload_n 1, 1, 0, 0, 0), (2, .invokevirtual 155, 3, 36, 1, 11), (5, .ifCond .ne 5, 3, 0, 0, 0),
  (8, .iconst (-1), 1, 0, 0, 0), (9, .ireturn, 1, 0, 0, 0)]
def op_X11_work : List av_Q := [
  (0, .aload_n 0, 1, 0, 0, 0), (1, .iload_n 1, 1, 0, 0, 0), (2, .invokevirtual 155, 3, 36, 1, 11), (5, .ifCond .eq 14, 3, 0, 0, 0),
  (19, .iconst 0, 1, 0, 0, 0), (20, .ireturn, 1, 0, 0, 0)]
def op_X11_undo : List av_Q := [
  (0, .aload_n 0, 1, 0, 0, 0), (1, .getfield 66, 3, 11, 11, 4), (4, .getfield 273, 3, 10, 2, 0), (7, .ifCond .gt 5, 3, 0, 0, 0),
  (10, .iconst (-1), 1, 0, 0, 0), (11, .ireturn, 1, 0, 0, 0)]
def op_X11_lasts : List av_Q := [
  (0, .aload_n 0, 1, 0, 0, 0), (1, .iload_n 1, 1, 0, 0, 0), (2, .invokevirtual 155, 3, 36, 1, 11), (5, .ifCond .eq 10, 3, 0, 0, 0),
  (15, .iconst (-1), 1, 0, 0, 0), (16, .ireturn, 1, 0, 0, 0)]
def op_X11_least : List av_Q := [
  (0, .aload_n 0, 1, 0, 0, 0), (1, .iload_n 1, 1, 0, 0, 0), (2, .invokevirtual 155, 3, 36, 1, 11), (5, .ifCond .eq 28, 3, 0, 0, 0),
  (33, .iconst (-1), 1, 0, 0, 0), (34, .ireturn, 1, 0, 0, 0)]
def op_X11_way : List av_Q := [
  (0, .aload_n 0, 1, 0, 0, 0), (1, .iload_n 1, 1, 0, 0, 0), (2, .invokevirtual 155, 3, 36, 1, 11), (5, .ifCond .eq 10, 3, 0, 0, 0),
  (15, .ldc 234, 2, 0, 0, (-2147483648)), (17, .ireturn, 1, 0, 0, 0)]
def op_X11_enough : List av_Q := [
  (0, .aload_n 0, 1, 0, 0, 0), (1, .iload_n 1, 1, 0, 0, 0), (2, .invokevirtual 155, 3, 36, 1, 11), (5, .ifCond .eq 17, 3, 0, 0, 0),
  (22, .iconst (-1), 1, 0, 0, 0), (23, .ireturn, 1, 0, 0, 0)]
def op_X11_bears : List av_Q := [
  (0, .aload_n 0, 1, 0, 0, 0), (1, .iload_n 1, 1, 0, 0, 0), (2, .invokevirtual 155, 3, 36, 1, 11), (5, .ifCond .eq 17, 3, 0, 0, 0),
  (22, .iconst (-1), 1, 0, 0, 0), (23, .ireturn, 1, 0, 0, 0)]
def op_X11_knock : List av_Q := [
  (0, .aload_n 0, 1, 0, 0, 0), (1, .iload_n 1, 1, 0, 0, 0), (2, .invokevirtual 155, 3, 36, 1, 11), (5, .ifCond .eq 24, 3, 0, 0, 0),
  (29, .ldc2_w 308, 3, 0, 0, (-9223372036854775808)), (32, .lreturn, 1, 0, 0, 0)]
def op_X11_measure : List av_Q := [
  (0, .iload 4, 2, 0, 0, 0), (2, .ldc_w 321, 3, 0, 0, (-9999999)), (5, .if_icmp .lt 22, 3, 0, 0, 0), (8, .iload 4, 2, 0, 0, 0),
  (10, .iload 5, 2, 0, 0, 0), (12, .if_icmp .gt 15, 3, 0, 0, 0), (15, .iload 5, 2, 0, 0, 0), (17, .ldc_w 322, 3, 0, 0, 9999999),
  (20, .if_icmp .gt 7, 3, 0, 0, 0), (23, .iconst 1, 1, 0, 0, 0), (24, .goto 4, 3, 0, 0, 0), (27, .iconst 0, 1, 0, 0, 0),
  (28, .istore 6, 2, 0, 0, 0), (30, .aload_n 0, 1, 0, 0, 0), (31, .iload_n 1, 1, 0, 0, 0), (32, .invokevirtual 155, 3, 36, 1, 11),
  (35, .ifCond .eq 24, 3, 0, 0, 0), (59, .iconst (-1), 1, 0, 0, 0), (60, .ireturn, 1, 0, 0, 0)]
def op_X11_strike : List av_Q := [
  (0, .iload_n 1, 1, 0, 0, 0), (1, .ifCond .lt 25, 3, 0, 0, 0), (4, .iload_n 1, 1, 0, 0, 0), (5, .aload_n 0, 1, 0, 0, 0),
  (6, .getfield 73, 3, 11, 12, 4), (9, .getfield 327, 3, 3, 9, 0), (12, .if_icmp .ge 14, 3, 0, 0, 0), (26, .iconst (-1), 1, 0, 0, 0),
  (27, .ireturn, 1, 0, 0, 0)]
def op_X11_known : List av_Q := [
  (0, .iload_n 1, 1, 0, 0, 0), (1, .iconst (-1), 1, 0, 0, 0), (2, .if_icmp .lt 14, 3, 0, 0, 0), (5, .iload_n 1, 1, 0, 0, 0),
  (6, .aload_n 0, 1, 0, 0, 0), (7, .getfield 73, 3, 11, 12, 4), (10, .getfield 327, 3, 3, 9, 0), (13, .if_icmp .le 5, 3, 0, 0, 0),
  (16, .iconst 0, 1, 0, 0, 0), (17, .ireturn, 1, 0, 0, 0), (18, .aload_n 0, 1, 0, 0, 0), (19, .getfield 73, 3, 11, 12, 4),
  (22, .iload_n 1, 1, 0, 0, 0), (23, .putfield 331, 3, 3, 10, 0), (26, .iconst 1, 1, 0, 0, 0), (27, .ireturn, 1, 0, 0, 0)]
def op_X11_fits : List av_Q := [
  (0, .aload_n 0, 1, 0, 0, 0), (1, .iload_n 1, 1, 0, 0, 0), (2, .invokevirtual 155, 3, 36, 1, 11), (5, .ifCond .ne 5, 3, 0, 0, 0),
  (8, .iconst (-1), 1, 0, 0, 0), (9, .ireturn, 1, 0, 0, 0)]
def op_X11_odds : List av_Q := [
  (0, .aload_n 0, 1, 0, 0, 0), (1, .iload_n 1, 1, 0, 0, 0), (2, .invokevirtual 155, 3, 36, 1, 11), (5, .ifCond .eq 27, 3, 0, 0, 0),
  (32, .iconst (-1), 1, 0, 0, 0), (33, .ireturn, 1, 0, 0, 0)]
def op_X11_test : List av_Q := [
  (0, .aload_n 0, 1, 0, 0, 0), (1, .iload_n 1, 1, 0, 0, 0), (2, .invokevirtual 155, 3, 36, 1, 11), (5, .ifCond .eq 12, 3, 0, 0, 0),
  (17, .iconst (-1), 1, 0, 0, 0), (18, .ireturn, 1, 0, 0, 0)]
def op_X11_low : List av_Q := [
  (0, .aload_n 0, 1, 0, 0, 0), (1, .iload_n 1, 1, 0, 0, 0), (2, .invokevirtual 155, 3, 36, 1, 11), (5, .ifCond .eq 10, 3, 0, 0, 0),
  (15, .ldc 234, 2, 0, 0, (-2147483648)), (17, .ireturn, 1, 0, 0, 0)]
def op_X11_rest : List av_Q := [
  (0, .aload_n 0, 1, 0, 0, 0), (1, .iload_n 1, 1, 0, 0, 0), (2, .invokevirtual 155, 3, 36, 1, 11), (5, .ifCond .ne 5, 3, 0, 0, 0),
  (8, .iconst (-1), 1, 0, 0, 0), (9, .ireturn, 1, 0, 0, 0)]
def op_X11_shuts : List av_Q := [
  (0, .aload_n 0, 1, 0, 0, 0), (1, .iload_n 1, 1, 0, 0, 0), (2, .invokevirtual 155, 3, 36, 1, 11), (5, .ifCond .ne 5, 3, 0, 0, 0),
  (8, .iconst (-1), 1, 0, 0, 0), (9, .ireturn, 1, 0, 0, 0)]
def op_X11_above : List av_Q := [
  (0, .aload_n 0, 1, 0, 0, 0), (1, .iload_n 1, 1, 0, 0, 0), (2, .invokevirtual 155, 3, 36, 1, 11), (5, .ifCond .eq 10, 3, 0, 0, 0),
  (15, .ldc 234, 2, 0, 0, (-2147483648)), (17, .ireturn, 1, 0, 0, 0)]
def op_X11_opens : List av_Q := [
  (0, .aload_n 0, 1, 0, 0, 0), (1, .iload_n 1, 1, 0, 0, 0), (2, .invokevirtual 155, 3, 36, 1, 11), (5, .ifCond .ne 6, 3, 0, 0, 0),
  (8, .bipush (-2), 2, 0, 0, 0), (10, .ireturn, 1, 0, 0, 0)]
def op_X11_stand : List av_Q := [
  (0, .aload_n 0, 1, 0, 0, 0), (1, .iload_n 1, 1, 0, 0, 0), (2, .invokevirtual 155, 3, 36, 1, 11), (5, .ifCond .eq 19, 3, 0, 0, 0),
  (24, .ldc 234, 2, 0, 0, (-2147483648)), (26, .ireturn, 1, 0, 0, 0)]
def op_X11_first : List av_Q := [
  (0, .aload_n 0, 1, 0, 0, 0), (1, .getfield 18, 3, 11, 2, 4), (4, .getfield 134, 3, 4, 9, 0), (7, .ifCond .eq 29, 3, 0, 0, 0),
  (36, .iconst (-1), 1, 0, 0, 0), (37, .ireturn, 1, 0, 0, 0)]
def op_X11_wind : List av_Q := [
  (0, .iload_n 3, 1, 0, 0, 0), (1, .iconst 1, 1, 0, 0, 0), (2, .if_icmp .lt 13, 3, 0, 0, 0), (5, .iload_n 3, 1, 0, 0, 0),
  (6, .bipush 100, 2, 0, 0, 0), (8, .if_icmp .gt 7, 3, 0, 0, 0), (11, .iconst 1, 1, 0, 0, 0), (12, .goto 4, 3, 0, 0, 0),
  (15, .iconst 0, 1, 0, 0, 0), (16, .istore 6, 2, 0, 0, 0), (18, .iload 4, 2, 0, 0, 0), (20, .iconst 1, 1, 0, 0, 0),
  (21, .if_icmp .lt 14, 3, 0, 0, 0), (24, .iload 4, 2, 0, 0, 0), (26, .bipush 99, 2, 0, 0, 0), (28, .if_icmp .gt 7, 3, 0, 0, 0),
  (31, .iconst 1, 1, 0, 0, 0), (32, .goto 4, 3, 0, 0, 0), (35, .iconst 0, 1, 0, 0, 0), (36, .istore 7, 2, 0, 0, 0),
  (38, .aload_n 0, 1, 0, 0, 0), (39, .iload_n 1, 1, 0, 0, 0), (40, .invokevirtual 155, 3, 36, 1, 11), (43, .ifCond .eq 25, 3, 0, 0, 0),
  (68, .iconst (-1), 1, 0, 0, 0), (69, .ireturn, 1, 0, 0, 0)]
def op_X11_keep : List av_Q := [
  (0, .iconst 0, 1, 0, 0, 0), (1, .istore_n 1, 1, 0, 0, 0), (2, .iload_n 1, 1, 0, 0, 0), (3, .iconst 4, 1, 0, 0, 0),
  (4, .if_icmp .ge 24, 3, 0, 0, 0), (7, .aload_n 0, 1, 0, 0, 0), (8, .getfield 54, 3, 11, 9, 4), (11, .iload_n 1, 1, 0, 0, 0),
  (12, .aaload, 1, 0, 0, 0), (13, .aload_n 0, 1, 0, 0, 0), (14, .getfield 50, 3, 11, 7, 4), (17, .iload_n 1, 1, 0, 0, 0),
  (18, .aaload, 1, 0, 0, 0), (19, .invokevirtual 286, 3, 4, 1, 1), (22, .iinc 1 1, 3, 0, 0, 0), (25, .goto (-23), 3, 0, 0, 0),
  (28, .aload_n 0, 1, 0, 0, 0), (29, .aload_n 0, 1, 0, 0, 0), (30, .getfield 117, 3, 11, 8, 0), (33, .putfield 57, 3, 11, 10, 0),
  (36, .aload_n 0, 1, 0, 0, 0), (37, .getfield 117, 3, 11, 8, 0), (40, .ireturn, 1, 0, 0, 0)]
def op_X11_back : List av_Q := [
  (0, .aload_n 0, 1, 0, 0, 0), (1, .getfield 57, 3, 11, 10, 0), (4, .iconst (-1), 1, 0, 0, 0), (5, .if_icmp .ne 5, 3, 0, 0, 0),
  (8, .iconst (-1), 1, 0, 0, 0), (9, .ireturn, 1, 0, 0, 0)]
def op_X11_count : List av_Q := [
  (0, .iload_n 1, 1, 0, 0, 0), (1, .tableswitch 117 0 8 #[51, 59, 67, 75, 83, 88, 96, 104, 112], 51, 0, 0, 0), (52, .aload_n 0, 1, 0, 0, 0), (53, .getfield 18, 3, 11, 2, 4),
  (56, .getfield 134, 3, 4, 9, 0), (59, .ireturn, 1, 0, 0, 0), (60, .aload_n 0, 1, 0, 0, 0), (61, .getfield 18, 3, 11, 2, 4),
  (64, .getfield 144, 3, 4, 14, 0), (67, .ireturn, 1, 0, 0, 0), (68, .aload_n 0, 1, 0, 0, 0), (69, .getfield 18, 3, 11, 2, 4),
  (72, .getfield 150, 3, 4, 19, 0), (75, .ireturn, 1, 0, 0, 0), (76, .aload_n 0, 1, 0, 0, 0), (77, .getfield 18, 3, 11, 2, 4),
  (80, .getfield 398, 3, 4, 3, 0), (83, .ireturn, 1, 0, 0, 0), (84, .aload_n 0, 1, 0, 0, 0), (85, .getfield 117, 3, 11, 8, 0),
  (88, .ireturn, 1, 0, 0, 0), (89, .aload_n 0, 1, 0, 0, 0), (90, .getfield 73, 3, 11, 12, 4), (93, .getfield 327, 3, 3, 9, 0),
  (96, .ireturn, 1, 0, 0, 0), (97, .aload_n 0, 1, 0, 0, 0), (98, .getfield 73, 3, 11, 12, 4), (101, .invokevirtual 401, 3, 9, 0, 3),
  (104, .ireturn, 1, 0, 0, 0), (105, .aload_n 0, 1, 0, 0, 0), (106, .getfield 66, 3, 11, 11, 4), (109, .getfield 273, 3, 10, 2, 0),
  (112, .ireturn, 1, 0, 0, 0), (113, .aload_n 0, 1, 0, 0, 0), (114, .invokevirtual 404, 3, 70, 0, 11), (117, .ireturn, 1, 0, 0, 0),
  (118, .iconst (-1), 1, 0, 0, 0), (119, .ireturn, 1, 0, 0, 0)]
def op_X11_costOfAllDone : List av_Q := [
  (0, .iconst 0, 1, 0, 0, 0), (1, .istore_n 1, 1, 0, 0, 0), (2, .iconst 0, 1, 0, 0, 0), (3, .istore_n 2, 1, 0, 0, 0),
  (4, .iload_n 2, 1, 0, 0, 0), (5, .aload_n 0, 1, 0, 0, 0), (6, .getfield 18, 3, 11, 2, 4), (9, .getfield 134, 3, 4, 9, 0),
  (12, .if_icmp .ge 37, 3, 0, 0, 0), (49, .iload_n 1, 1, 0, 0, 0), (50, .ireturn, 1, 0, 0, 0)]
def op_X12_init_0 : List av_Q := [
  (0, .aload_n 0, 1, 0, 0, 0), (1, .invokespecial 1, 3, 9999, 0, 0), (4, .aload_n 0, 1, 0, 0, 0), (5, .sipush 900, 3, 0, 0, 0),
  (8, .newarray .int, 2, 0, 0, 0), (10, .putfield 7, 3, 12, 0, 4), (13, .aload_n 0, 1, 0, 0, 0), (14, .sipush 177, 3, 0, 0, 0),
  (17, .newarray .int, 2, 0, 0, 0), (19, .dup, 1, 0, 0, 0), (20, .iconst 0, 1, 0, 0, 0), (21, .bipush 103, 2, 0, 0, 0),
  (23, .iastore, 1, 0, 0, 0), (24, .dup, 1, 0, 0, 0), (25, .iconst 1, 1, 0, 0, 0), (26, .bipush 114, 2, 0, 0, 0),
  (28, .iastore, 1, 0, 0, 0), (29, .dup, 1, 0, 0, 0), (30, .iconst 2, 1, 0, 0, 0), (31, .bipush 111, 2, 0, 0, 0),
  (33, .iastore, 1, 0, 0, 0), (34, .dup, 1, 0, 0, 0), (35, .iconst 3, 1, 0, 0, 0), (36, .bipush 117, 2, 0, 0, 0),
  (38, .iastore, 1, 0, 0, 0), (39, .dup, 1, 0, 0, 0), (40, .iconst 4, 1, 0, 0, 0), (41, .bipush 110, 2, 0, 0, 0),
  (43, .iastore, 1, 0, 0, 0), (44, .dup, 1, 0, 0, 0), (45, .iconst 5, 1, 0, 0, 0), (46, .bipush 100, 2, 0, 0, 0),
  (48, .iastore, 1, 0, 0, 0), (49, .dup, 1, 0, 0, 0), (50, .bipush 6, 2, 0, 0, 0), (52, .bipush 32, 2, 0, 0, 0),
  (54, .iastore, 1, 0, 0, 0), (55, .dup, 1, 0, 0, 0), (56, .bipush 7, 2, 0, 0, 0), (58, .bipush 108, 2, 0, 0, 0),
  (60, .iastore, 1, 0, 0, 0), (61, .dup, 1, 0, 0, 0), (62, .bipush 8, 2, 0, 0, 0), (64, .bipush 97, 2, 0, 0, 0),
  (66, .iastore, 1, 0, 0, 0), (67, .dup, 1, 0, 0, 0), (68, .bipush 9, 2, 0, 0, 0), (70, .bipush 119, 2, 0, 0, 0),
  (72, .iastore, 1, 0, 0, 0), (73, .dup, 1, 0, 0, 0), (74, .bipush 10, 2, 0, 0, 0), (76, .bipush 32, 2, 0, 0, 0),
  (78, .iastore, 1, 0, 0, 0), (79, .dup, 1, 0, 0, 0), (80, .bipush 11, 2, 0, 0, 0), (82, .bipush 103, 2, 0, 0, 0),
  (84, .iastore, 1, 0, 0, 0), (85, .dup, 1, 0, 0, 0), (86, .bipush 12, 2, 0, 0, 0), (88, .bipush 97, 2, 0, 0, 0)]
def op_X12_init_1 : List av_Q := [
  (90, .iastore, 1, 0, 0, 0), (91, .dup, 1, 0, 0, 0), (92, .bipush 13, 2, 0, 0, 0), (94, .bipush 116, 2, 0, 0, 0),
  (96, .iastore, 1, 0, 0, 0), (97, .dup, 1, 0, 0, 0), (98, .bipush 14, 2, 0, 0, 0), (100, .bipush 101, 2, 0, 0, 0),
  (102, .iastore, 1, 0, 0, 0), (103, .dup, 1, 0, 0, 0), (104, .bipush 15, 2, 0, 0, 0), (106, .bipush 32, 2, 0, 0, 0),
  (108, .iastore, 1, 0, 0, 0), (109, .dup, 1, 0, 0, 0), (110, .bipush 16, 2, 0, 0, 0), (112, .bipush 119, 2, 0, 0, 0),
  (114, .iastore, 1, 0, 0, 0), (115, .dup, 1, 0, 0, 0), (116, .bipush 17, 2, 0, 0, 0), (118, .bipush 111, 2, 0, 0, 0),
  (120, .iastore, 1, 0, 0, 0), (121, .dup, 1, 0, 0, 0), (122, .bipush 18, 2, 0, 0, 0), (124, .bipush 114, 2, 0, 0, 0),
  (126, .iastore, 1, 0, 0, 0), (127, .dup, 1, 0, 0, 0), (128, .bipush 19, 2, 0, 0, 0), (130, .bipush 107, 2, 0, 0, 0),
  (132, .iastore, 1, 0, 0, 0), (133, .dup, 1, 0, 0, 0), (134, .bipush 20, 2, 0, 0, 0), (136, .bipush 32, 2, 0, 0, 0),
  (138, .iastore, 1, 0, 0, 0), (139, .dup, 1, 0, 0, 0), (140, .bipush 21, 2, 0, 0, 0), (142, .bipush 99, 2, 0, 0, 0),
  (144, .iastore, 1, 0, 0, 0), (145, .dup, 1, 0, 0, 0), (146, .bipush 22, 2, 0, 0, 0), (148, .bipush 97, 2, 0, 0, 0),
  (150, .iastore, 1, 0, 0, 0), (151, .dup, 1, 0, 0, 0), (152, .bipush 23, 2, 0, 0, 0), (154, .bipush 117, 2, 0, 0, 0),
  (156, .iastore, 1, 0, 0, 0), (157, .dup, 1, 0, 0, 0), (158, .bipush 24, 2, 0, 0, 0), (160, .bipush 115, 2, 0, 0, 0),
  (162, .iastore, 1, 0, 0, 0), (163, .dup, 1, 0, 0, 0), (164, .bipush 25, 2, 0, 0, 0), (166, .bipush 101, 2, 0, 0, 0),
  (168, .iastore, 1, 0, 0, 0), (169, .dup, 1, 0, 0, 0), (170, .bipush 26, 2, 0, 0, 0), (172, .bipush 32, 2, 0, 0, 0),
  (174, .iastore, 1, 0, 0, 0), (175, .dup, 1, 0, 0, 0), (176, .bipush 27, 2, 0, 0, 0), (178, .bipush 108, 2, 0, 0, 0)]
def op_X12_init_2 : List av_Q := [
  (180, .iastore, 1, 0, 0, 0), (181, .dup, 1, 0, 0, 0), (182, .bipush 28, 2, 0, 0, 0), (184, .bipush 101, 2, 0, 0, 0),
  (186, .iastore, 1, 0, 0, 0), (187, .dup, 1, 0, 0, 0), (188, .bipush 29, 2, 0, 0, 0), (190, .bipush 97, 2, 0, 0, 0),
  (192, .iastore, 1, 0, 0, 0), (193, .dup, 1, 0, 0, 0), (194, .bipush 30, 2, 0, 0, 0), (196, .bipush 110, 2, 0, 0, 0),
  (198, .iastore, 1, 0, 0, 0), (199, .dup, 1, 0, 0, 0), (200, .bipush 31, 2, 0, 0, 0), (202, .bipush 32, 2, 0, 0, 0),
  (204, .iastore, 1, 0, 0, 0), (205, .dup, 1, 0, 0, 0), (206, .bipush 32, 2, 0, 0, 0), (208, .bipush 111, 2, 0, 0, 0),
  (210, .iastore, 1, 0, 0, 0), (211, .dup, 1, 0, 0, 0), (212, .bipush 33, 2, 0, 0, 0), (214, .bipush 112, 2, 0, 0, 0),
  (216, .iastore, 1, 0, 0, 0), (217, .dup, 1, 0, 0, 0), (218, .bipush 34, 2, 0, 0, 0), (220, .bipush 101, 2, 0, 0, 0),
  (222, .iastore, 1, 0, 0, 0), (223, .dup, 1, 0, 0, 0), (224, .bipush 35, 2, 0, 0, 0), (226, .bipush 110, 2, 0, 0, 0),
  (228, .iastore, 1, 0, 0, 0), (229, .dup, 1, 0, 0, 0), (230, .bipush 36, 2, 0, 0, 0), (232, .bipush 32, 2, 0, 0, 0),
  (234, .iastore, 1, 0, 0, 0), (235, .dup, 1, 0, 0, 0), (236, .bipush 37, 2, 0, 0, 0), (238, .bipush 98, 2, 0, 0, 0),
  (240, .iastore, 1, 0, 0, 0), (241, .dup, 1, 0, 0, 0), (242, .bipush 38, 2, 0, 0, 0), (244, .bipush 101, 2, 0, 0, 0),
  (246, .iastore, 1, 0, 0, 0), (247, .dup, 1, 0, 0, 0), (248, .bipush 39, 2, 0, 0, 0), (250, .bipush 110, 2, 0, 0, 0),
  (252, .iastore, 1, 0, 0, 0), (253, .dup, 1, 0, 0, 0), (254, .bipush 40, 2, 0, 0, 0), (256, .bipush 100, 2, 0, 0, 0),
  (258, .iastore, 1, 0, 0, 0), (259, .dup, 1, 0, 0, 0), (260, .bipush 41, 2, 0, 0, 0), (262, .bipush 32, 2, 0, 0, 0),
  (264, .iastore, 1, 0, 0, 0), (265, .dup, 1, 0, 0, 0), (266, .bipush 42, 2, 0, 0, 0), (268, .bipush 107, 2, 0, 0, 0)]
def op_X12_init_3 : List av_Q := [
  (270, .iastore, 1, 0, 0, 0), (271, .dup, 1, 0, 0, 0), (272, .bipush 43, 2, 0, 0, 0), (274, .bipush 110, 2, 0, 0, 0),
  (276, .iastore, 1, 0, 0, 0), (277, .dup, 1, 0, 0, 0), (278, .bipush 44, 2, 0, 0, 0), (280, .bipush 111, 2, 0, 0, 0),
  (282, .iastore, 1, 0, 0, 0), (283, .dup, 1, 0, 0, 0), (284, .bipush 45, 2, 0, 0, 0), (286, .bipush 99, 2, 0, 0, 0),
  (288, .iastore, 1, 0, 0, 0), (289, .dup, 1, 0, 0, 0), (290, .bipush 46, 2, 0, 0, 0), (292, .bipush 107, 2, 0, 0, 0),
  (294, .iastore, 1, 0, 0, 0), (295, .dup, 1, 0, 0, 0), (296, .bipush 47, 2, 0, 0, 0), (298, .bipush 32, 2, 0, 0, 0),
  (300, .iastore, 1, 0, 0, 0), (301, .dup, 1, 0, 0, 0), (302, .bipush 48, 2, 0, 0, 0), (304, .bipush 104, 2, 0, 0, 0),
  (306, .iastore, 1, 0, 0, 0), (307, .dup, 1, 0, 0, 0), (308, .bipush 49, 2, 0, 0, 0), (310, .bipush 111, 2, 0, 0, 0),
  (312, .iastore, 1, 0, 0, 0), (313, .dup, 1, 0, 0, 0), (314, .bipush 50, 2, 0, 0, 0), (316, .bipush 111, 2, 0, 0, 0),
  (318, .iastore, 1, 0, 0, 0), (319, .dup, 1, 0, 0, 0), (320, .bipush 51, 2, 0, 0, 0), (322, .bipush 107, 2, 0, 0, 0),
  (324, .iastore, 1, 0, 0, 0), (325, .dup, 1, 0, 0, 0), (326, .bipush 52, 2, 0, 0, 0), (328, .bipush 115, 2, 0, 0, 0),
  (330, .iastore, 1, 0, 0, 0), (331, .dup, 1, 0, 0, 0), (332, .bipush 53, 2, 0, 0, 0), (334, .bipush 32, 2, 0, 0, 0),
  (336, .iastore, 1, 0, 0, 0), (337, .dup, 1, 0, 0, 0), (338, .bipush 54, 2, 0, 0, 0), (340, .bipush 112, 2, 0, 0, 0),
  (342, .iastore, 1, 0, 0, 0), (343, .dup, 1, 0, 0, 0), (344, .bipush 55, 2, 0, 0, 0), (346, .bipush 111, 2, 0, 0, 0),
  (348, .iastore, 1, 0, 0, 0), (349, .dup, 1, 0, 0, 0), (350, .bipush 56, 2, 0, 0, 0), (352, .bipush 115, 2, 0, 0, 0),
  (354, .iastore, 1, 0, 0, 0), (355, .dup, 1, 0, 0, 0), (356, .bipush 57, 2, 0, 0, 0), (358, .bipush 116, 2, 0, 0, 0)]
def op_X12_init_4 : List av_Q := [
  (360, .iastore, 1, 0, 0, 0), (361, .dup, 1, 0, 0, 0), (362, .bipush 58, 2, 0, 0, 0), (364, .bipush 32, 2, 0, 0, 0),
  (366, .iastore, 1, 0, 0, 0), (367, .dup, 1, 0, 0, 0), (368, .bipush 59, 2, 0, 0, 0), (370, .bipush 98, 2, 0, 0, 0),
  (372, .iastore, 1, 0, 0, 0), (373, .dup, 1, 0, 0, 0), (374, .bipush 60, 2, 0, 0, 0), (376, .bipush 114, 2, 0, 0, 0),
  (378, .iastore, 1, 0, 0, 0), (379, .dup, 1, 0, 0, 0), (380, .bipush 61, 2, 0, 0, 0), (382, .bipush 97, 2, 0, 0, 0),
  (384, .iastore, 1, 0, 0, 0), (385, .dup, 1, 0, 0, 0), (386, .bipush 62, 2, 0, 0, 0), (388, .bipush 99, 2, 0, 0, 0),
  (390, .iastore, 1, 0, 0, 0), (391, .dup, 1, 0, 0, 0), (392, .bipush 63, 2, 0, 0, 0), (394, .bipush 101, 2, 0, 0, 0),
  (396, .iastore, 1, 0, 0, 0), (397, .dup, 1, 0, 0, 0), (398, .bipush 64, 2, 0, 0, 0), (400, .bipush 32, 2, 0, 0, 0),
  (402, .iastore, 1, 0, 0, 0), (403, .dup, 1, 0, 0, 0), (404, .bipush 65, 2, 0, 0, 0), (406, .bipush 108, 2, 0, 0, 0),
  (408, .iastore, 1, 0, 0, 0), (409, .dup, 1, 0, 0, 0), (410, .bipush 66, 2, 0, 0, 0), (412, .bipush 97, 2, 0, 0, 0),
  (414, .iastore, 1, 0, 0, 0), (415, .dup, 1, 0, 0, 0), (416, .bipush 67, 2, 0, 0, 0), (418, .bipush 116, 2, 0, 0, 0),
  (420, .iastore, 1, 0, 0, 0), (421, .dup, 1, 0, 0, 0), (422, .bipush 68, 2, 0, 0, 0), (424, .bipush 99, 2, 0, 0, 0),
  (426, .iastore, 1, 0, 0, 0), (427, .dup, 1, 0, 0, 0), (428, .bipush 69, 2, 0, 0, 0), (430, .bipush 104, 2, 0, 0, 0),
  (432, .iastore, 1, 0, 0, 0), (433, .dup, 1, 0, 0, 0), (434, .bipush 70, 2, 0, 0, 0), (436, .bipush 32, 2, 0, 0, 0),
  (438, .iastore, 1, 0, 0, 0), (439, .dup, 1, 0, 0, 0), (440, .bipush 71, 2, 0, 0, 0), (442, .bipush 103, 2, 0, 0, 0),
  (444, .iastore, 1, 0, 0, 0), (445, .dup, 1, 0, 0, 0), (446, .bipush 72, 2, 0, 0, 0), (448, .bipush 97, 2, 0, 0, 0)]
def op_X12_init_5 : List av_Q := [
  (450, .iastore, 1, 0, 0, 0), (451, .dup, 1, 0, 0, 0), (452, .bipush 73, 2, 0, 0, 0), (454, .bipush 112, 2, 0, 0, 0),
  (456, .iastore, 1, 0, 0, 0), (457, .dup, 1, 0, 0, 0), (458, .bipush 74, 2, 0, 0, 0), (460, .bipush 32, 2, 0, 0, 0),
  (462, .iastore, 1, 0, 0, 0), (463, .dup, 1, 0, 0, 0), (464, .bipush 75, 2, 0, 0, 0), (466, .bipush 114, 2, 0, 0, 0),
  (468, .iastore, 1, 0, 0, 0), (469, .dup, 1, 0, 0, 0), (470, .bipush 76, 2, 0, 0, 0), (472, .bipush 105, 2, 0, 0, 0),
  (474, .iastore, 1, 0, 0, 0), (475, .dup, 1, 0, 0, 0), (476, .bipush 77, 2, 0, 0, 0), (478, .bipush 115, 2, 0, 0, 0),
  (480, .iastore, 1, 0, 0, 0), (481, .dup, 1, 0, 0, 0), (482, .bipush 78, 2, 0, 0, 0), (484, .bipush 101, 2, 0, 0, 0),
  (486, .iastore, 1, 0, 0, 0), (487, .dup, 1, 0, 0, 0), (488, .bipush 79, 2, 0, 0, 0), (490, .bipush 32, 2, 0, 0, 0),
  (492, .iastore, 1, 0, 0, 0), (493, .dup, 1, 0, 0, 0), (494, .bipush 80, 2, 0, 0, 0), (496, .bipush 104, 2, 0, 0, 0),
  (498, .iastore, 1, 0, 0, 0), (499, .dup, 1, 0, 0, 0), (500, .bipush 81, 2, 0, 0, 0), (502, .bipush 97, 2, 0, 0, 0),
  (504, .iastore, 1, 0, 0, 0), (505, .dup, 1, 0, 0, 0), (506, .bipush 82, 2, 0, 0, 0), (508, .bipush 115, 2, 0, 0, 0),
  (510, .iastore, 1, 0, 0, 0), (511, .dup, 1, 0, 0, 0), (512, .bipush 83, 2, 0, 0, 0), (514, .bipush 32, 2, 0, 0, 0),
  (516, .iastore, 1, 0, 0, 0), (517, .dup, 1, 0, 0, 0), (518, .bipush 84, 2, 0, 0, 0), (520, .bipush 115, 2, 0, 0, 0),
  (522, .iastore, 1, 0, 0, 0), (523, .dup, 1, 0, 0, 0), (524, .bipush 85, 2, 0, 0, 0), (526, .bipush 113, 2, 0, 0, 0),
  (528, .iastore, 1, 0, 0, 0), (529, .dup, 1, 0, 0, 0), (530, .bipush 86, 2, 0, 0, 0), (532, .bipush 117, 2, 0, 0, 0),
  (534, .iastore, 1, 0, 0, 0), (535, .dup, 1, 0, 0, 0), (536, .bipush 87, 2, 0, 0, 0), (538, .bipush 97, 2, 0, 0, 0)]
def op_X12_init_6 : List av_Q := [
  (540, .iastore, 1, 0, 0, 0), (541, .dup, 1, 0, 0, 0), (542, .bipush 88, 2, 0, 0, 0), (544, .bipush 114, 2, 0, 0, 0),
  (546, .iastore, 1, 0, 0, 0), (547, .dup, 1, 0, 0, 0), (548, .bipush 89, 2, 0, 0, 0), (550, .bipush 101, 2, 0, 0, 0),
  (552, .iastore, 1, 0, 0, 0), (553, .dup, 1, 0, 0, 0), (554, .bipush 90, 2, 0, 0, 0), (556, .bipush 32, 2, 0, 0, 0),
  (558, .iastore, 1, 0, 0, 0), (559, .dup, 1, 0, 0, 0), (560, .bipush 91, 2, 0, 0, 0), (562, .bipush 119, 2, 0, 0, 0),
  (564, .iastore, 1, 0, 0, 0), (565, .dup, 1, 0, 0, 0), (566, .bipush 92, 2, 0, 0, 0), (568, .bipush 105, 2, 0, 0, 0),
  (570, .iastore, 1, 0, 0, 0), (571, .dup, 1, 0, 0, 0), (572, .bipush 93, 2, 0, 0, 0), (574, .bipush 114, 2, 0, 0, 0),
  (576, .iastore, 1, 0, 0, 0), (577, .dup, 1, 0, 0, 0), (578, .bipush 94, 2, 0, 0, 0), (580, .bipush 101, 2, 0, 0, 0),
  (582, .iastore, 1, 0, 0, 0), (583, .dup, 1, 0, 0, 0), (584, .bipush 95, 2, 0, 0, 0), (586, .bipush 32, 2, 0, 0, 0),
  (588, .iastore, 1, 0, 0, 0), (589, .dup, 1, 0, 0, 0), (590, .bipush 96, 2, 0, 0, 0), (592, .bipush 119, 2, 0, 0, 0),
  (594, .iastore, 1, 0, 0, 0), (595, .dup, 1, 0, 0, 0), (596, .bipush 97, 2, 0, 0, 0), (598, .bipush 104, 2, 0, 0, 0),
  (600, .iastore, 1, 0, 0, 0), (601, .dup, 1, 0, 0, 0), (602, .bipush 98, 2, 0, 0, 0), (604, .bipush 101, 2, 0, 0, 0),
  (606, .iastore, 1, 0, 0, 0), (607, .dup, 1, 0, 0, 0), (608, .bipush 99, 2, 0, 0, 0), (610, .bipush 101, 2, 0, 0, 0),
  (612, .iastore, 1, 0, 0, 0), (613, .dup, 1, 0, 0, 0), (614, .bipush 100, 2, 0, 0, 0), (616, .bipush 108, 2, 0, 0, 0),
  (618, .iastore, 1, 0, 0, 0), (619, .dup, 1, 0, 0, 0), (620, .bipush 101, 2, 0, 0, 0), (622, .bipush 32, 2, 0, 0, 0),
  (624, .iastore, 1, 0, 0, 0), (625, .dup, 1, 0, 0, 0), (626, .bipush 102, 2, 0, 0, 0), (628, .bipush 115, 2, 0, 0, 0)]
def op_X12_init_7 : List av_Q := [
  (630, .iastore, 1, 0, 0, 0), (631, .dup, 1, 0, 0, 0), (632, .bipush 103, 2, 0, 0, 0), (634, .bipush 116, 2, 0, 0, 0),
  (636, .iastore, 1, 0, 0, 0), (637, .dup, 1, 0, 0, 0), (638, .bipush 104, 2, 0, 0, 0), (640, .bipush 111, 2, 0, 0, 0),
  (642, .iastore, 1, 0, 0, 0), (643, .dup, 1, 0, 0, 0), (644, .bipush 105, 2, 0, 0, 0), (646, .bipush 110, 2, 0, 0, 0),
  (648, .iastore, 1, 0, 0, 0), (649, .dup, 1, 0, 0, 0), (650, .bipush 106, 2, 0, 0, 0), (652, .bipush 101, 2, 0, 0, 0),
  (654, .iastore, 1, 0, 0, 0), (655, .dup, 1, 0, 0, 0), (656, .bipush 107, 2, 0, 0, 0), (658, .bipush 115, 2, 0, 0, 0),
  (660, .iastore, 1, 0, 0, 0), (661, .dup, 1, 0, 0, 0), (662, .bipush 108, 2, 0, 0, 0), (664, .bipush 32, 2, 0, 0, 0),
  (666, .iastore, 1, 0, 0, 0), (667, .dup, 1, 0, 0, 0), (668, .bipush 109, 2, 0, 0, 0), (670, .bipush 114, 2, 0, 0, 0),
  (672, .iastore, 1, 0, 0, 0), (673, .dup, 1, 0, 0, 0), (674, .bipush 110, 2, 0, 0, 0), (676, .bipush 101, 2, 0, 0, 0),
  (678, .iastore, 1, 0, 0, 0), (679, .dup, 1, 0, 0, 0), (680, .bipush 111, 2, 0, 0, 0), (682, .bipush 104, 2, 0, 0, 0),
  (684, .iastore, 1, 0, 0, 0), (685, .dup, 1, 0, 0, 0), (686, .bipush 112, 2, 0, 0, 0), (688, .bipush 97, 2, 0, 0, 0),
  (690, .iastore, 1, 0, 0, 0), (691, .dup, 1, 0, 0, 0), (692, .bipush 113, 2, 0, 0, 0), (694, .bipush 110, 2, 0, 0, 0),
  (696, .iastore, 1, 0, 0, 0), (697, .dup, 1, 0, 0, 0), (698, .bipush 114, 2, 0, 0, 0), (700, .bipush 103, 2, 0, 0, 0),
  (702, .iastore, 1, 0, 0, 0), (703, .dup, 1, 0, 0, 0), (704, .bipush 115, 2, 0, 0, 0), (706, .bipush 32, 2, 0, 0, 0),
  (708, .iastore, 1, 0, 0, 0), (709, .dup, 1, 0, 0, 0), (710, .bipush 116, 2, 0, 0, 0), (712, .bipush 97, 2, 0, 0, 0),
  (714, .iastore, 1, 0, 0, 0), (715, .dup, 1, 0, 0, 0), (716, .bipush 117, 2, 0, 0, 0), (718, .bipush 110, 2, 0, 0, 0)]
def op_X12_init_8 : List av_Q := [
  (720, .iastore, 1, 0, 0, 0), (721, .dup, 1, 0, 0, 0), (722, .bipush 118, 2, 0, 0, 0), (724, .bipush 100, 2, 0, 0, 0),
  (726, .iastore, 1, 0, 0, 0), (727, .dup, 1, 0, 0, 0), (728, .bipush 119, 2, 0, 0, 0), (730, .bipush 32, 2, 0, 0, 0),
  (732, .iastore, 1, 0, 0, 0), (733, .dup, 1, 0, 0, 0), (734, .bipush 120, 2, 0, 0, 0), (736, .bipush 111, 2, 0, 0, 0),
  (738, .iastore, 1, 0, 0, 0), (739, .dup, 1, 0, 0, 0), (740, .bipush 121, 2, 0, 0, 0), (742, .bipush 114, 2, 0, 0, 0),
  (744, .iastore, 1, 0, 0, 0), (745, .dup, 1, 0, 0, 0), (746, .bipush 122, 2, 0, 0, 0), (748, .bipush 32, 2, 0, 0, 0),
  (750, .iastore, 1, 0, 0, 0), (751, .dup, 1, 0, 0, 0), (752, .bipush 123, 2, 0, 0, 0), (754, .bipush 110, 2, 0, 0, 0),
  (756, .iastore, 1, 0, 0, 0), (757, .dup, 1, 0, 0, 0), (758, .bipush 124, 2, 0, 0, 0), (760, .bipush 111, 2, 0, 0, 0),
  (762, .iastore, 1, 0, 0, 0), (763, .dup, 1, 0, 0, 0), (764, .bipush 125, 2, 0, 0, 0), (766, .bipush 116, 2, 0, 0, 0),
  (768, .iastore, 1, 0, 0, 0), (769, .dup, 1, 0, 0, 0), (770, .bipush 126, 2, 0, 0, 0), (772, .bipush 32, 2, 0, 0, 0),
  (774, .iastore, 1, 0, 0, 0), (775, .dup, 1, 0, 0, 0), (776, .bipush 127, 2, 0, 0, 0), (778, .bipush 112, 2, 0, 0, 0),
  (780, .iastore, 1, 0, 0, 0), (781, .dup, 1, 0, 0, 0), (782, .sipush 128, 3, 0, 0, 0), (785, .bipush 117, 2, 0, 0, 0),
  (787, .iastore, 1, 0, 0, 0), (788, .dup, 1, 0, 0, 0), (789, .sipush 129, 3, 0, 0, 0), (792, .bipush 108, 2, 0, 0, 0),
  (794, .iastore, 1, 0, 0, 0), (795, .dup, 1, 0, 0, 0), (796, .sipush 130, 3, 0, 0, 0), (799, .bipush 108, 2, 0, 0, 0),
  (801, .iastore, 1, 0, 0, 0), (802, .dup, 1, 0, 0, 0), (803, .sipush 131, 3, 0, 0, 0), (806, .bipush 32, 2, 0, 0, 0),
  (808, .iastore, 1, 0, 0, 0), (809, .dup, 1, 0, 0, 0), (810, .sipush 132, 3, 0, 0, 0), (813, .bipush 102, 2, 0, 0, 0)]
def op_X12_init_9 : List av_Q := [
  (815, .iastore, 1, 0, 0, 0), (816, .dup, 1, 0, 0, 0), (817, .sipush 133, 3, 0, 0, 0), (820, .bipush 105, 2, 0, 0, 0),
  (822, .iastore, 1, 0, 0, 0), (823, .dup, 1, 0, 0, 0), (824, .sipush 134, 3, 0, 0, 0), (827, .bipush 114, 2, 0, 0, 0),
  (829, .iastore, 1, 0, 0, 0), (830, .dup, 1, 0, 0, 0), (831, .sipush 135, 3, 0, 0, 0), (834, .bipush 109, 2, 0, 0, 0),
  (836, .iastore, 1, 0, 0, 0), (837, .dup, 1, 0, 0, 0), (838, .sipush 136, 3, 0, 0, 0), (841, .bipush 32, 2, 0, 0, 0),
  (843, .iastore, 1, 0, 0, 0), (844, .dup, 1, 0, 0, 0), (845, .sipush 137, 3, 0, 0, 0), (848, .bipush 100, 2, 0, 0, 0),
  (850, .iastore, 1, 0, 0, 0), (851, .dup, 1, 0, 0, 0), (852, .sipush 138, 3, 0, 0, 0), (855, .bipush 101, 2, 0, 0, 0),
  (857, .iastore, 1, 0, 0, 0), (858, .dup, 1, 0, 0, 0), (859, .sipush 139, 3, 0, 0, 0), (862, .bipush 101, 2, 0, 0, 0),
  (864, .iastore, 1, 0, 0, 0), (865, .dup, 1, 0, 0, 0), (866, .sipush 140, 3, 0, 0, 0), (869, .bipush 112, 2, 0, 0, 0),
  (871, .iastore, 1, 0, 0, 0), (872, .dup, 1, 0, 0, 0), (873, .sipush 141, 3, 0, 0, 0), (876, .bipush 32, 2, 0, 0, 0),
  (878, .iastore, 1, 0, 0, 0), (879, .dup, 1, 0, 0, 0), (880, .sipush 142, 3, 0, 0, 0), (883, .bipush 116, 2, 0, 0, 0),
  (885, .iastore, 1, 0, 0, 0), (886, .dup, 1, 0, 0, 0), (887, .sipush 143, 3, 0, 0, 0), (890, .bipush 104, 2, 0, 0, 0),
  (892, .iastore, 1, 0, 0, 0), (893, .dup, 1, 0, 0, 0), (894, .sipush 144, 3, 0, 0, 0), (897, .bipush 105, 2, 0, 0, 0),
  (899, .iastore, 1, 0, 0, 0), (900, .dup, 1, 0, 0, 0), (901, .sipush 145, 3, 0, 0, 0), (904, .bipush 99, 2, 0, 0, 0),
  (906, .iastore, 1, 0, 0, 0), (907, .dup, 1, 0, 0, 0), (908, .sipush 146, 3, 0, 0, 0), (911, .bipush 107, 2, 0, 0, 0),
  (913, .iastore, 1, 0, 0, 0), (914, .dup, 1, 0, 0, 0), (915, .sipush 147, 3, 0, 0, 0), (918, .bipush 32, 2, 0, 0, 0)]
def op_X12_init_10 : List av_Q := [
  (920, .iastore, 1, 0, 0, 0), (921, .dup, 1, 0, 0, 0), (922, .sipush 148, 3, 0, 0, 0), (925, .bipush 117, 2, 0, 0, 0),
  (927, .iastore, 1, 0, 0, 0), (928, .dup, 1, 0, 0, 0), (929, .sipush 149, 3, 0, 0, 0), (932, .bipush 112, 2, 0, 0, 0),
  (934, .iastore, 1, 0, 0, 0), (935, .dup, 1, 0, 0, 0), (936, .sipush 150, 3, 0, 0, 0), (939, .bipush 32, 2, 0, 0, 0),
  (941, .iastore, 1, 0, 0, 0), (942, .dup, 1, 0, 0, 0), (943, .sipush 151, 3, 0, 0, 0), (946, .bipush 100, 2, 0, 0, 0),
  (948, .iastore, 1, 0, 0, 0), (949, .dup, 1, 0, 0, 0), (950, .sipush 152, 3, 0, 0, 0), (953, .bipush 111, 2, 0, 0, 0),
  (955, .iastore, 1, 0, 0, 0), (956, .dup, 1, 0, 0, 0), (957, .sipush 153, 3, 0, 0, 0), (960, .bipush 119, 2, 0, 0, 0),
  (962, .iastore, 1, 0, 0, 0), (963, .dup, 1, 0, 0, 0), (964, .sipush 154, 3, 0, 0, 0), (967, .bipush 110, 2, 0, 0, 0),
  (969, .iastore, 1, 0, 0, 0), (970, .dup, 1, 0, 0, 0), (971, .sipush 155, 3, 0, 0, 0), (974, .bipush 32, 2, 0, 0, 0),
  (976, .iastore, 1, 0, 0, 0), (977, .dup, 1, 0, 0, 0), (978, .sipush 156, 3, 0, 0, 0), (981, .bipush 100, 2, 0, 0, 0),
  (983, .iastore, 1, 0, 0, 0), (984, .dup, 1, 0, 0, 0), (985, .sipush 157, 3, 0, 0, 0), (988, .bipush 114, 2, 0, 0, 0),
  (990, .iastore, 1, 0, 0, 0), (991, .dup, 1, 0, 0, 0), (992, .sipush 158, 3, 0, 0, 0), (995, .bipush 111, 2, 0, 0, 0),
  (997, .iastore, 1, 0, 0, 0), (998, .dup, 1, 0, 0, 0), (999, .sipush 159, 3, 0, 0, 0), (1002, .bipush 112, 2, 0, 0, 0),
  (1004, .iastore, 1, 0, 0, 0), (1005, .dup, 1, 0, 0, 0), (1006, .sipush 160, 3, 0, 0, 0), (1009, .bipush 32, 2, 0, 0, 0),
  (1011, .iastore, 1, 0, 0, 0), (1012, .dup, 1, 0, 0, 0), (1013, .sipush 161, 3, 0, 0, 0), (1016, .bipush 119, 2, 0, 0, 0),
  (1018, .iastore, 1, 0, 0, 0), (1019, .dup, 1, 0, 0, 0), (1020, .sipush 162, 3, 0, 0, 0), (1023, .bipush 101, 2, 0, 0, 0)]
def op_X12_init_11 : List av_Q := [
  (1025, .iastore, 1, 0, 0, 0), (1026, .dup, 1, 0, 0, 0), (1027, .sipush 163, 3, 0, 0, 0), (1030, .bipush 101, 2, 0, 0, 0),
  (1032, .iastore, 1, 0, 0, 0), (1033, .dup, 1, 0, 0, 0), (1034, .sipush 164, 3, 0, 0, 0), (1037, .bipush 107, 2, 0, 0, 0),
  (1039, .iastore, 1, 0, 0, 0), (1040, .dup, 1, 0, 0, 0), (1041, .sipush 165, 3, 0, 0, 0), (1044, .bipush 32, 2, 0, 0, 0),
  (1046, .iastore, 1, 0, 0, 0), (1047, .dup, 1, 0, 0, 0), (1048, .sipush 166, 3, 0, 0, 0), (1051, .bipush 99, 2, 0, 0, 0),
  (1053, .iastore, 1, 0, 0, 0), (1054, .dup, 1, 0, 0, 0), (1055, .sipush 167, 3, 0, 0, 0), (1058, .bipush 104, 2, 0, 0, 0),
  (1060, .iastore, 1, 0, 0, 0), (1061, .dup, 1, 0, 0, 0), (1062, .sipush 168, 3, 0, 0, 0), (1065, .bipush 105, 2, 0, 0, 0),
  (1067, .iastore, 1, 0, 0, 0), (1068, .dup, 1, 0, 0, 0), (1069, .sipush 169, 3, 0, 0, 0), (1072, .bipush 108, 2, 0, 0, 0),
  (1074, .iastore, 1, 0, 0, 0), (1075, .dup, 1, 0, 0, 0), (1076, .sipush 170, 3, 0, 0, 0), (1079, .bipush 100, 2, 0, 0, 0),
  (1081, .iastore, 1, 0, 0, 0), (1082, .dup, 1, 0, 0, 0), (1083, .sipush 171, 3, 0, 0, 0), (1086, .bipush 32, 2, 0, 0, 0),
  (1088, .iastore, 1, 0, 0, 0), (1089, .dup, 1, 0, 0, 0), (1090, .sipush 172, 3, 0, 0, 0), (1093, .bipush 102, 2, 0, 0, 0),
  (1095, .iastore, 1, 0, 0, 0), (1096, .dup, 1, 0, 0, 0), (1097, .sipush 173, 3, 0, 0, 0), (1100, .bipush 97, 2, 0, 0, 0),
  (1102, .iastore, 1, 0, 0, 0), (1103, .dup, 1, 0, 0, 0), (1104, .sipush 174, 3, 0, 0, 0), (1107, .bipush 108, 2, 0, 0, 0),
  (1109, .iastore, 1, 0, 0, 0), (1110, .dup, 1, 0, 0, 0), (1111, .sipush 175, 3, 0, 0, 0), (1114, .bipush 108, 2, 0, 0, 0),
  (1116, .iastore, 1, 0, 0, 0), (1117, .dup, 1, 0, 0, 0), (1118, .sipush 176, 3, 0, 0, 0), (1121, .bipush 32, 2, 0, 0, 0),
  (1123, .iastore, 1, 0, 0, 0), (1124, .putfield 13, 3, 12, 3, 4), (1127, .aload_n 0, 1, 0, 0, 0), (1128, .iconst (-1), 1, 0, 0, 0)]
def op_X12_init_12 : List av_Q := [
  (1129, .putfield 16, 3, 12, 5, 0), (1132, .aload_n 0, 1, 0, 0, 0), (1133, .bipush 24, 2, 0, 0, 0), (1135, .newarray .int, 2, 0, 0, 0),
  (1137, .putfield 20, 3, 12, 21, 4), (1140, .aload_n 0, 1, 0, 0, 0), (1141, .bipush 8, 2, 0, 0, 0), (1143, .newarray .int, 2, 0, 0, 0),
  (1145, .putfield 23, 3, 12, 22, 4), (1148, .aload_n 0, 1, 0, 0, 0), (1149, .bipush 8, 2, 0, 0, 0), (1151, .newarray .int, 2, 0, 0, 0),
  (1153, .putfield 26, 3, 12, 23, 4), (1156, .aload_n 0, 1, 0, 0, 0), (1157, .bipush 8, 2, 0, 0, 0), (1159, .newarray .boolean, 2, 2, 0, 0),
  (1161, .putfield 29, 3, 12, 24, 4), (1164, .aload_n 0, 1, 0, 0, 0), (1165, .bipush 8, 2, 0, 0, 0), (1167, .newarray .int, 2, 0, 0, 0),
  (1169, .putfield 33, 3, 12, 25, 4), (1172, .aload_n 0, 1, 0, 0, 0), (1173, .sipush 128, 3, 0, 0, 0), (1176, .newarray .int, 2, 0, 0, 0),
  (1178, .putfield 36, 3, 12, 26, 4), (1181, .aload_n 0, 1, 0, 0, 0), (1182, .bipush 72, 2, 0, 0, 0), (1184, .newarray .int, 2, 0, 0, 0),
  (1186, .putfield 39, 3, 12, 27, 4), (1189, .aload_n 0, 1, 0, 0, 0), (1190, .bipush 12, 2, 0, 0, 0), (1192, .newarray .int, 2, 0, 0, 0),
  (1194, .putfield 42, 3, 12, 28, 4), (1197, .aload_n 0, 1, 0, 0, 0), (1198, .bipush 36, 2, 0, 0, 0), (1200, .newarray .int, 2, 0, 0, 0),
  (1202, .putfield 45, 3, 12, 29, 4), (1205, .aload_n 0, 1, 0, 0, 0), (1206, .bipush 12, 2, 0, 0, 0), (1208, .newarray .int, 2, 0, 0, 0),
  (1210, .putfield 48, 3, 12, 30, 4), (1213, .aload_n 0, 1, 0, 0, 0), (1214, .bipush 36, 2, 0, 0, 0), (1216, .newarray .int, 2, 0, 0, 0),
  (1218, .putfield 51, 3, 12, 31, 4), (1221, .aload_n 0, 1, 0, 0, 0), (1222, .sipush 128, 3, 0, 0, 0), (1225, .newarray .int, 2, 0, 0, 0),
  (1227, .putfield 54, 3, 12, 32, 4), (1230, .aload_n 0, 1, 0, 0, 0), (1231, .sipush 128, 3, 0, 0, 0), (1234, .newarray .int, 2, 0, 0, 0),
  (1236, .putfield 57, 3, 12, 33, 4), (1239, .aload_n 0, 1, 0, 0, 0), (1240, .sipush 128, 3, 0, 0, 0), (1243, .newarray .int, 2, 0, 0, 0),
  (1245, .putfield 60, 3, 12, 34, 4), (1248, .aload_n 0, 1, 0, 0, 0), (1249, .bipush 96, 2, 0, 0, 0), (1251, .newarray .int, 2, 0, 0, 0)]
def op_X12_init_13 : List av_Q := [
  (1253, .putfield 63, 3, 12, 35, 4), (1256, .aload_n 0, 1, 0, 0, 0), (1257, .bipush 96, 2, 0, 0, 0), (1259, .newarray .int, 2, 0, 0, 0),
  (1261, .putfield 66, 3, 12, 36, 4), (1264, .aload_n 0, 1, 0, 0, 0), (1265, .bipush 64, 2, 0, 0, 0), (1267, .newarray .int, 2, 0, 0, 0),
  (1269, .putfield 69, 3, 12, 44, 4), (1272, .aload_n 0, 1, 0, 0, 0), (1273, .bipush 16, 2, 0, 0, 0), (1275, .newarray .int, 2, 0, 0, 0),
  (1277, .putfield 72, 3, 12, 45, 4), (1280, .aload_n 0, 1, 0, 0, 0), (1281, .bipush 10, 2, 0, 0, 0), (1283, .newarray .long, 2, 3, 0, 0),
  (1285, .putfield 75, 3, 12, 46, 4), (1288, .aload_n 0, 1, 0, 0, 0), (1289, .bipush 64, 2, 0, 0, 0), (1291, .newarray .long, 2, 3, 0, 0),
  (1293, .putfield 79, 3, 12, 47, 4), (1296, .aload_n 0, 1, 0, 0, 0), (1297, .iconst 3, 1, 0, 0, 0), (1298, .newarray .long, 2, 3, 0, 0),
  (1300, .putfield 82, 3, 12, 49, 4), (1303, .aload_n 0, 1, 0, 0, 0), (1304, .sipush 340, 3, 0, 0, 0), (1307, .newarray .int, 2, 0, 0, 0),
  (1309, .putfield 85, 3, 12, 51, 4), (1312, .aload_n 0, 1, 0, 0, 0), (1313, .iconst (-1), 1, 0, 0, 0), (1314, .putfield 88, 3, 12, 53, 0),
  (1317, .aload_n 0, 1, 0, 0, 0), (1318, .bipush 40, 2, 0, 0, 0), (1320, .newarray .int, 2, 0, 0, 0), (1322, .putfield 91, 3, 12, 54, 4),
  (1325, .aload_n 0, 1, 0, 0, 0), (1326, .bipush 40, 2, 0, 0, 0), (1328, .newarray .int, 2, 0, 0, 0), (1330, .putfield 94, 3, 12, 55, 4),
  (1333, .aload_n 0, 1, 0, 0, 0), (1334, .bipush 40, 2, 0, 0, 0), (1336, .newarray .int, 2, 0, 0, 0), (1338, .putfield 97, 3, 12, 56, 4),
  (1341, .aload_n 0, 1, 0, 0, 0), (1342, .bipush 40, 2, 0, 0, 0), (1344, .newarray .int, 2, 0, 0, 0), (1346, .putfield 100, 3, 12, 57, 4),
  (1349, .aload_n 0, 1, 0, 0, 0), (1350, .bipush 40, 2, 0, 0, 0), (1352, .newarray .int, 2, 0, 0, 0), (1354, .putfield 103, 3, 12, 58, 4),
  (1357, .aload_n 0, 1, 0, 0, 0), (1358, .bipush 40, 2, 0, 0, 0), (1360, .newarray .boolean, 2, 2, 0, 0), (1362, .putfield 106, 3, 12, 59, 4),
  (1365, .aload_n 0, 1, 0, 0, 0), (1366, .bipush 7, 2, 0, 0, 0), (1368, .newarray .int, 2, 0, 0, 0), (1370, .putfield 109, 3, 12, 60, 4)]
def op_X12_init_14 : List av_Q := [
  (1373, .aload_n 0, 1, 0, 0, 0), (1374, .bipush 9, 2, 0, 0, 0), (1376, .newarray .int, 2, 0, 0, 0), (1378, .dup, 1, 0, 0, 0),
  (1379, .iconst 0, 1, 0, 0, 0), (1380, .sipush 1000, 3, 0, 0, 0), (1383, .iastore, 1, 0, 0, 0), (1384, .dup, 1, 0, 0, 0),
  (1385, .iconst 1, 1, 0, 0, 0), (1386, .sipush 924, 3, 0, 0, 0), (1389, .iastore, 1, 0, 0, 0), (1390, .dup, 1, 0, 0, 0),
  (1391, .iconst 2, 1, 0, 0, 0), (1392, .sipush 707, 3, 0, 0, 0), (1395, .iastore, 1, 0, 0, 0), (1396, .dup, 1, 0, 0, 0),
  (1397, .iconst 3, 1, 0, 0, 0), (1398, .sipush 383, 3, 0, 0, 0), (1401, .iastore, 1, 0, 0, 0), (1402, .dup, 1, 0, 0, 0),
  (1403, .iconst 4, 1, 0, 0, 0), (1404, .iconst 0, 1, 0, 0, 0), (1405, .iastore, 1, 0, 0, 0), (1406, .dup, 1, 0, 0, 0),
  (1407, .iconst 5, 1, 0, 0, 0), (1408, .sipush (-383), 3, 0, 0, 0), (1411, .iastore, 1, 0, 0, 0), (1412, .dup, 1, 0, 0, 0),
  (1413, .bipush 6, 2, 0, 0, 0), (1415, .sipush (-707), 3, 0, 0, 0), (1418, .iastore, 1, 0, 0, 0), (1419, .dup, 1, 0, 0, 0),
  (1420, .bipush 7, 2, 0, 0, 0), (1422, .sipush (-924), 3, 0, 0, 0), (1425, .iastore, 1, 0, 0, 0), (1426, .dup, 1, 0, 0, 0),
  (1427, .bipush 8, 2, 0, 0, 0), (1429, .sipush (-1000), 3, 0, 0, 0), (1432, .iastore, 1, 0, 0, 0), (1433, .putfield 112, 3, 12, 61, 4),
  (1436, .aload_n 0, 1, 0, 0, 0), (1437, .bipush 9, 2, 0, 0, 0), (1439, .newarray .int, 2, 0, 0, 0), (1441, .dup, 1, 0, 0, 0),
  (1442, .iconst 0, 1, 0, 0, 0), (1443, .iconst 0, 1, 0, 0, 0), (1444, .iastore, 1, 0, 0, 0), (1445, .dup, 1, 0, 0, 0),
  (1446, .iconst 1, 1, 0, 0, 0), (1447, .sipush 383, 3, 0, 0, 0), (1450, .iastore, 1, 0, 0, 0), (1451, .dup, 1, 0, 0, 0),
  (1452, .iconst 2, 1, 0, 0, 0), (1453, .sipush 707, 3, 0, 0, 0), (1456, .iastore, 1, 0, 0, 0), (1457, .dup, 1, 0, 0, 0),
  (1458, .iconst 3, 1, 0, 0, 0), (1459, .sipush 924, 3, 0, 0, 0), (1462, .iastore, 1, 0, 0, 0), (1463, .dup, 1, 0, 0, 0)]
def op_X12_init_15 : List av_Q := [
  (1464, .iconst 4, 1, 0, 0, 0), (1465, .sipush 1000, 3, 0, 0, 0), (1468, .iastore, 1, 0, 0, 0), (1469, .dup, 1, 0, 0, 0),
  (1470, .iconst 5, 1, 0, 0, 0), (1471, .sipush 924, 3, 0, 0, 0), (1474, .iastore, 1, 0, 0, 0), (1475, .dup, 1, 0, 0, 0),
  (1476, .bipush 6, 2, 0, 0, 0), (1478, .sipush 707, 3, 0, 0, 0), (1481, .iastore, 1, 0, 0, 0), (1482, .dup, 1, 0, 0, 0),
  (1483, .bipush 7, 2, 0, 0, 0), (1485, .sipush 383, 3, 0, 0, 0), (1488, .iastore, 1, 0, 0, 0), (1489, .dup, 1, 0, 0, 0),
  (1490, .bipush 8, 2, 0, 0, 0), (1492, .iconst 0, 1, 0, 0, 0), (1493, .iastore, 1, 0, 0, 0), (1494, .putfield 115, 3, 12, 62, 4),
  (1497, .aload_n 0, 1, 0, 0, 0), (1498, .iconst 4, 1, 0, 0, 0), (1499, .newarray .int, 2, 0, 0, 0), (1501, .putfield 118, 3, 12, 63, 4),
  (1504, .aload_n 0, 1, 0, 0, 0), (1505, .iconst 4, 1, 0, 0, 0), (1506, .newarray .int, 2, 0, 0, 0), (1508, .putfield 121, 3, 12, 64, 4),
  (1511, .aload_n 0, 1, 0, 0, 0), (1512, .bipush 64, 2, 0, 0, 0), (1514, .newarray .int, 2, 0, 0, 0), (1516, .putfield 124, 3, 12, 65, 4),
  (1519, .aload_n 0, 1, 0, 0, 0), (1520, .bipush 64, 2, 0, 0, 0), (1522, .newarray .int, 2, 0, 0, 0), (1524, .putfield 127, 3, 12, 68, 4),
  (1527, .aload_n 0, 1, 0, 0, 0), (1528, .invokevirtual 130, 3, 76, 0, 12), (1531, .aload_n 0, 1, 0, 0, 0), (1532, .invokevirtual 133, 3, 78, 0, 12),
  (1535, .return_, 1, 0, 0, 0)]
def op_X12_init : List av_Q := op_X12_init_0 ++ (op_X12_init_1 ++ (op_X12_init_2 ++ (op_X12_init_3 ++ (op_X12_init_4 ++ (op_X12_init_5 ++ (op_X12_init_6 ++ (op_X12_init_7 ++ (op_X12_init_8 ++ (op_X12_init_9 ++ (op_X12_init_10 ++ (op_X12_init_11 ++ (op_X12_init_12 ++ (op_X12_init_13 ++ (op_X12_init_14 ++ (op_X12_init_15)))))))))))))))
def op_X12_thrown : List av_Q := [
  (0, .aload_n 0, 1, 0, 0, 0), (1, .getfield 136, 3, 12, 2, 0), (4, .ireturn, 1, 0, 0, 0)]
def op_X12_feed : List av_Q := [
  (0, .aload_n 0, 1, 0, 0, 0), (1, .iconst 0, 1, 0, 0, 0), (2, .putfield 136, 3, 12, 2, 0), (5, .aload_n 0, 1, 0, 0, 0),
  (6, .getfield 139, 3, 12, 1, 0), (9, .bipush 20, 2, 0, 0, 0), (11, .iadd, 1, 0, 0, 0), (12, .sipush 900, 3, 0, 0, 0),
  (15, .if_icmp .le 5, 3, 0, 0, 0), (20, .iconst 0, 1, 0, 0, 0), (21, .istore 6, 2, 0, 0, 0), (23, .iload 6, 2, 0, 0, 0),
  (25, .bipush 20, 2, 0, 0, 0), (27, .if_icmp .ge 86, 3, 0, 0, 0), (30, .iload 6, 2, 0, 0, 0), (32, .iconst 4, 1, 0, 0, 0),
  (33, .if_icmp .ge 7, 3, 0, 0, 0), (36, .iload_n 1, 1, 0, 0, 0), (37, .goto 39, 3, 0, 0, 0), (40, .iload 6, 2, 0, 0, 0),
  (42, .bipush 8, 2, 0, 0, 0), (44, .if_icmp .ge 7, 3, 0, 0, 0), (47, .iload_n 2, 1, 0, 0, 0), (48, .goto 28, 3, 0, 0, 0),
  (51, .iload 6, 2, 0, 0, 0), (53, .bipush 12, 2, 0, 0, 0), (55, .if_icmp .ge 7, 3, 0, 0, 0), (58, .iload_n 3, 1, 0, 0, 0),
  (59, .goto 17, 3, 0, 0, 0), (62, .iload 6, 2, 0, 0, 0), (64, .bipush 16, 2, 0, 0, 0), (66, .if_icmp .ge 8, 3, 0, 0, 0),
  (69, .iload 4, 2, 0, 0, 0), (71, .goto 5, 3, 0, 0, 0), (74, .iload 5, 2, 0, 0, 0), (76, .istore 7, 2, 0, 0, 0),
  (78, .aload_n 0, 1, 0, 0, 0), (79, .getfield 7, 3, 12, 0, 4), (82, .aload_n 0, 1, 0, 0, 0), (83, .getfield 139, 3, 12, 1, 0),
  (86, .iload 6, 2, 0, 0, 0), (88, .iadd, 1, 0, 0, 0), (89, .iload 7, 2, 0, 0, 0), (91, .bipush 24, 2, 0, 0, 0),
  (93, .bipush 8, 2, 0, 0, 0), (95, .iload 6, 2, 0, 0, 0), (97, .iconst 4, 1, 0, 0, 0), (98, .irem, 1, 0, 0, 0),
  (99, .imul, 1, 0, 0, 0), (100, .isub, 1, 0, 0, 0), (101, .ishr, 1, 0, 0, 0), (102, .sipush 255, 3, 0, 0, 0),
  (105, .iand, 1, 0, 0, 0), (106, .iastore, 1, 0, 0, 0), (107, .iinc 6 1, 3, 0, 0, 0), (110, .goto (-87), 3, 0, 0, 0),
  (113, .aload_n 0, 1, 0, 0, 0), (114, .dup, 1, 0, 0, 0), (115, .getfield 139, 3, 12, 1, 0), (118, .bipush 20, 2, 0, 0, 0),
  (120, .iadd, 1, 0, 0, 0), (121, .putfield 139, 3, 12, 1, 0), (124, .aload_n 0, 1, 0, 0, 0), (125, .getfield 139, 3, 12, 1, 0),
  (128, .ireturn, 1, 0, 0, 0)]
def op_X12_isIn : List av_Q := [
  (0, .iload_n 0, 1, 0, 0, 0), (1, .iload_n 1, 1, 0, 0, 0), (2, .if_icmp .lt 12, 3, 0, 0, 0), (5, .iload_n 0, 1, 0, 0, 0),
  (6, .iload_n 2, 1, 0, 0, 0), (7, .if_icmp .gt 7, 3, 0, 0, 0), (10, .iconst 1, 1, 0, 0, 0), (11, .goto 4, 3, 0, 0, 0),
  (14, .iconst 0, 1, 0, 0, 0), (15, .ireturn, 1, 0, 0, 0)]
def op_X12_token : List av_Q := [
  (0, .aload_n 0, 1, 0, 0, 0), (1, .getfield 151, 3, 12, 7, 0), (4, .aload_n 0, 1, 0, 0, 0), (5, .getfield 148, 3, 12, 6, 0),
  (8, .if_icmp .ge 44, 3, 0, 0, 0), (52, .aload_n 0, 1, 0, 0, 0), (53, .aload_n 0, 1, 0, 0, 0), (54, .getfield 151, 3, 12, 7, 0),
  (57, .putfield 145, 3, 12, 10, 0), (60, .aload_n 0, 1, 0, 0, 0), (61, .getfield 151, 3, 12, 7, 0), (64, .aload_n 0, 1, 0, 0, 0),
  (65, .getfield 148, 3, 12, 6, 0), (68, .if_icmp .ne 11, 3, 0, 0, 0), (71, .aload_n 0, 1, 0, 0, 0), (72, .iconst 0, 1, 0, 0, 0),
  (73, .putfield 154, 3, 12, 8, 0), (76, .goto 206, 3, 0, 0, 0), (282, .return_, 1, 0, 0, 0)]
def op_X12_plain : List av_Q := [
  (0, .aload_n 0, 1, 0, 0, 0), (1, .iconst 0, 1, 0, 0, 0), (2, .putfield 197, 3, 12, 16, 0), (5, .aload_n 0, 1, 0, 0, 0),
  (6, .iconst 0, 1, 0, 0, 0), (7, .putfield 200, 3, 12, 17, 0), (10, .aload_n 0, 1, 0, 0, 0), (11, .iconst 0, 1, 0, 0, 0),
  (12, .putfield 203, 3, 12, 18, 0), (15, .aload_n 0, 1, 0, 0, 0), (16, .iconst 0, 1, 0, 0, 0), (17, .putfield 206, 3, 12, 19, 0),
  (20, .aload_n 0, 1, 0, 0, 0), (21, .iconst 0, 1, 0, 0, 0), (22, .putfield 209, 3, 12, 40, 0), (25, .aload_n 0, 1, 0, 0, 0),
  (26, .iconst 0, 1, 0, 0, 0), (27, .putfield 212, 3, 12, 20, 2), (30, .iconst 0, 1, 0, 0, 0), (31, .istore_n 1, 1, 0, 0, 0),
  (32, .iload_n 1, 1, 0, 0, 0), (33, .bipush 12, 2, 0, 0, 0), (35, .if_icmp .ge 20, 3, 0, 0, 0), (38, .aload_n 0, 1, 0, 0, 0),
  (39, .getfield 20, 3, 12, 21, 4), (42, .bipush 12, 2, 0, 0, 0), (44, .iload_n 1, 1, 0, 0, 0), (45, .iadd, 1, 0, 0, 0),
  (46, .bipush 50, 2, 0, 0, 0), (48, .iastore, 1, 0, 0, 0), (49, .iinc 1 1, 3, 0, 0, 0), (52, .goto (-20), 3, 0, 0, 0),
  (55, .iconst 0, 1, 0, 0, 0), (56, .istore_n 1, 1, 0, 0, 0), (57, .iload_n 1, 1, 0, 0, 0), (58, .iconst 4, 1, 0, 0, 0),
  (59, .if_icmp .ge 18, 3, 0, 0, 0), (62, .aload_n 0, 1, 0, 0, 0), (63, .getfield 29, 3, 12, 24, 4), (66, .iconst 4, 1, 0, 0, 0),
  (67, .iload_n 1, 1, 0, 0, 0), (68, .iadd, 1, 0, 0, 0), (69, .iconst 0, 1, 0, 0, 0), (70, .bastore, 1, 0, 0, 0),
  (71, .iinc 1 1, 3, 0, 0, 0), (74, .goto (-17), 3, 0, 0, 0), (77, .return_, 1, 0, 0, 0)]
def op_X12_copies : List av_Q := [
  (0, .iconst 0, 1, 0, 0, 0), (1, .istore_n 2, 1, 0, 0, 0), (2, .iload_n 2, 1, 0, 0, 0), (3, .iload_n 1, 1, 0, 0, 0),
  (4, .if_icmp .ge 17, 3, 0, 0, 0), (7, .aload_n 0, 1, 0, 0, 0), (8, .iload_n 2, 1, 0, 0, 0), (9, .aload_n 0, 1, 0, 0, 0),
  (10, .iload_n 1, 1, 0, 0, 0), (11, .iload_n 2, 1, 0, 0, 0), (12, .iadd, 1, 0, 0, 0), (13, .iaload, 1, 0, 0, 0),
  (14, .iastore, 1, 0, 0, 0), (15, .iinc 2 1, 3, 0, 0, 0), (18, .goto (-16), 3, 0, 0, 0), (21, .return_, 1, 0, 0, 0)]
def op_X12_keepText : List av_Q := [
  (0, .aload_n 0, 1, 0, 0, 0), (1, .aload_n 0, 1, 0, 0, 0), (2, .getfield 197, 3, 12, 16, 0), (5, .putfield 216, 3, 12, 12, 0),
  (8, .aload_n 0, 1, 0, 0, 0), (9, .aload_n 0, 1, 0, 0, 0), (10, .getfield 200, 3, 12, 17, 0), (13, .putfield 219, 3, 12, 13, 0),
  (16, .aload_n 0, 1, 0, 0, 0), (17, .aload_n 0, 1, 0, 0, 0), (18, .getfield 203, 3, 12, 18, 0), (21, .putfield 222, 3, 12, 14, 0),
  (24, .aload_n 0, 1, 0, 0, 0), (25, .aload_n 0, 1, 0, 0, 0), (26, .getfield 206, 3, 12, 19, 0), (29, .putfield 225, 3, 12, 15, 0),
  (32, .aload_n 0, 1, 0, 0, 0), (33, .getfield 20, 3, 12, 21, 4), (36, .bipush 12, 2, 0, 0, 0), (38, .invokestatic 228, 3, 77, 2, 0),
  (41, .aload_n 0, 1, 0, 0, 0), (42, .getfield 23, 3, 12, 22, 4), (45, .iconst 4, 1, 0, 0, 0), (46, .invokestatic 228, 3, 77, 2, 0),
  (49, .aload_n 0, 1, 0, 0, 0), (50, .getfield 26, 3, 12, 23, 4), (53, .iconst 4, 1, 0, 0, 0), (54, .invokestatic 228, 3, 77, 2, 0),
  (57, .iconst 0, 1, 0, 0, 0), (58, .istore_n 1, 1, 0, 0, 0), (59, .iload_n 1, 1, 0, 0, 0), (60, .iconst 4, 1, 0, 0, 0),
  (61, .if_icmp .ge 23, 3, 0, 0, 0), (64, .aload_n 0, 1, 0, 0, 0), (65, .getfield 29, 3, 12, 24, 4), (68, .iload_n 1, 1, 0, 0, 0),
  (69, .aload_n 0, 1, 0, 0, 0), (70, .getfield 29, 3, 12, 24, 4), (73, .iconst 4, 1, 0, 0, 0), (74, .iload_n 1, 1, 0, 0, 0),
  (75, .iadd, 1, 0, 0, 0), (76, .baload, 1, 0, 0, 0), (77, .bastore, 1, 0, 0, 0), (78, .iinc 1 1, 3, 0, 0, 0),
  (81, .goto (-22), 3, 0, 0, 0), (84, .aload_n 0, 1, 0, 0, 0), (85, .getfield 33, 3, 12, 25, 4), (88, .iconst 4, 1, 0, 0, 0),
  (89, .invokestatic 228, 3, 77, 2, 0), (92, .aload_n 0, 1, 0, 0, 0), (93, .getfield 36, 3, 12, 26, 4), (96, .bipush 64, 2, 0, 0, 0),
  (98, .invokestatic 228, 3, 77, 2, 0), (101, .aload_n 0, 1, 0, 0, 0), (102, .getfield 39, 3, 12, 27, 4), (105, .bipush 36, 2, 0, 0, 0),
  (107, .invokestatic 228, 3, 77, 2, 0), (110, .aload_n 0, 1, 0, 0, 0), (111, .getfield 42, 3, 12, 28, 4), (114, .bipush 6, 2, 0, 0, 0),
  (116, .invokestatic 228, 3, 77, 2, 0), (119, .aload_n 0, 1, 0, 0, 0), (120, .getfield 45, 3, 12, 29, 4), (123, .bipush 18, 2, 0, 0, 0),
  (125, .invokestatic 228, 3, 77, 2, 0), (128, .aload_n 0, 1, 0, 0, 0), (129, .getfield 48, 3, 12, 30, 4), (132, .bipush 6, 2, 0, 0, 0),
  (134, .invokestatic 228, 3, 77, 2, 0), (137, .aload_n 0, 1, 0, 0, 0), (138, .getfield 51, 3, 12, 31, 4), (141, .bipush 18, 2, 0, 0, 0),
  (143, .invokestatic 228, 3, 77, 2, 0), (146, .aload_n 0, 1, 0, 0, 0), (147, .getfield 54, 3, 12, 32, 4), (150, .bipush 64, 2, 0, 0, 0),
  (152, .invokestatic 228, 3, 77, 2, 0), (155, .aload_n 0, 1, 0, 0, 0), (156, .getfield 57, 3, 12, 33, 4), (159, .bipush 64, 2, 0, 0, 0),
  (161, .invokestatic 228, 3, 77, 2, 0), (164, .aload_n 0, 1, 0, 0, 0), (165, .getfield 60, 3, 12, 34, 4), (168, .bipush 64, 2, 0, 0, 0),
  (170, .invokestatic 228, 3, 77, 2, 0), (173, .iconst 0, 1, 0, 0, 0), (174, .istore_n 1, 1, 0, 0, 0), (175, .iload_n 1, 1, 0, 0, 0),
  (176, .iconst 4, 1, 0, 0, 0), (177, .if_icmp .ge 30, 3, 0, 0, 0), (180, .aload_n 0, 1, 0, 0, 0), (181, .iload_n 1, 1, 0, 0, 0),
  (182, .invokevirtual 232, 3, 84, 1, 12), (185, .aload_n 0, 1, 0, 0, 0), (186, .getfield 69, 3, 12, 44, 4), (189, .bipush 16, 2, 0, 0, 0),
  (191, .iload_n 1, 1, 0, 0, 0), (192, .imul, 1, 0, 0, 0), (193, .aload_n 0, 1, 0, 0, 0), (194, .getfield 72, 3, 12, 45, 4),
  (197, .iconst 0, 1, 0, 0, 0), (198, .invokestatic 236, 3, 83, 4, 0), (201, .iinc 1 1, 3, 0, 0, 0), (204, .goto (-29), 3, 0, 0, 0),
  (207, .aload_n 0, 1, 0, 0, 0), (208, .iconst 0, 1, 0, 0, 0), (209, .putfield 240, 3, 12, 43, 0), (212, .aload_n 0, 1, 0, 0, 0),
  (213, .iconst 0, 1, 0, 0, 0), (214, .putfield 243, 3, 12, 52, 0), (217, .aload_n 0, 1, 0, 0, 0), (218, .iconst (-1), 1, 0, 0, 0),
  (219, .putfield 88, 3, 12, 53, 0), (222, .aload_n 0, 1, 0, 0, 0), (223, .iconst 0, 1, 0, 0, 0), (224, .putfield 246, 3, 12, 50, 0),
  (227, .aload_n 0, 1, 0, 0, 0), (228, .iconst 0, 1, 0, 0, 0), (229, .putfield 249, 3, 12, 66, 2), (232, .return_, 1, 0, 0, 0)]
def op_X12_find : List av_Q := [
  (0, .iconst 0, 1, 0, 0, 0), (1, .istore 4, 2, 0, 0, 0), (3, .iload 4, 2, 0, 0, 0), (5, .iload_n 2, 1, 0, 0, 0),
  (6, .if_icmp .ge 22, 3, 0, 0, 0), (28, .iconst (-1), 1, 0, 0, 0), (29, .ireturn, 1, 0, 0, 0)]
def op_X12_text : List av_Q := [
  (0, .aload_n 0, 1, 0, 0, 0), (1, .iconst 0, 1, 0, 0, 0), (2, .putfield 136, 3, 12, 2, 0), (5, .iload_n 1, 1, 0, 0, 0),
  (6, .ifCond .lt 11, 3, 0, 0, 0), (9, .iload_n 1, 1, 0, 0, 0), (10, .aload_n 0, 1, 0, 0, 0), (11, .getfield 139, 3, 12, 1, 0),
  (14, .if_icmp .le 6, 3, 0, 0, 0), (17, .bipush (-2), 2, 0, 0, 0), (19, .ireturn, 1, 0, 0, 0), (20, .aload_n 0, 1, 0, 0, 0),
  (21, .iload_n 1, 1, 0, 0, 0), (22, .putfield 148, 3, 12, 6, 0), (25, .aload_n 0, 1, 0, 0, 0), (26, .iconst 0, 1, 0, 0, 0),
  (27, .putfield 139, 3, 12, 1, 0), (30, .aload_n 0, 1, 0, 0, 0), (31, .iconst 0, 1, 0, 0, 0), (32, .putfield 142, 3, 12, 4, 0),
  (35, .aload_n 0, 1, 0, 0, 0), (36, .iconst (-1), 1, 0, 0, 0), (37, .putfield 16, 3, 12, 5, 0), (40, .aload_n 0, 1, 0, 0, 0),
  (41, .iconst 0, 1, 0, 0, 0), (42, .putfield 151, 3, 12, 7, 0), (45, .aload_n 0, 1, 0, 0, 0), (46, .invokevirtual 130, 3, 76, 0, 12),
  (49, .aload_n 0, 1, 0, 0, 0), (50, .invokevirtual 187, 3, 75, 0, 12), (53, .iconst 0, 1, 0, 0, 0), (54, .istore_n 2, 1, 0, 0, 0),
  (55, .aload_n 0, 1, 0, 0, 0), (56, .getfield 154, 3, 12, 8, 0), (59, .ifCond .eq 18, 3, 0, 0, 0), (77, .aload_n 0, 1, 0, 0, 0),
  (78, .invokevirtual 133, 3, 78, 0, 12), (81, .iload_n 2, 1, 0, 0, 0), (82, .ireturn, 1, 0, 0, 0)]
def op_X12_fault : List av_Q := [
  (0, .aload_n 0, 1, 0, 0, 0), (1, .iconst 0, 1, 0, 0, 0), (2, .putfield 136, 3, 12, 2, 0), (5, .iload_n 1, 1, 0, 0, 0),
  (6, .ifCond .ne 10, 3, 0, 0, 0), (9, .aload_n 0, 1, 0, 0, 0), (10, .getfield 142, 3, 12, 4, 0), (13, .goto 16, 3, 0, 0, 0),
  (16, .iload_n 1, 1, 0, 0, 0), (17, .iconst 1, 1, 0, 0, 0), (18, .if_icmp .ne 10, 3, 0, 0, 0), (21, .aload_n 0, 1, 0, 0, 0),
  (22, .getfield 16, 3, 12, 5, 0), (25, .goto 4, 3, 0, 0, 0), (28, .iconst (-1), 1, 0, 0, 0), (29, .ireturn, 1, 0, 0, 0)]
def op_X12_named : List av_Q := [
  (0, .aload_n 0, 1, 0, 0, 0), (1, .iconst 0, 1, 0, 0, 0), (2, .putfield 136, 3, 12, 2, 0), (5, .iload_n 1, 1, 0, 0, 0),
  (6, .ifCond .ne 19, 3, 0, 0, 0), (9, .aload_n 0, 1, 0, 0, 0), (10, .getfield 33, 3, 12, 25, 4), (13, .iconst 0, 1, 0, 0, 0),
  (14, .aload_n 0, 1, 0, 0, 0), (15, .getfield 216, 3, 12, 12, 0), (18, .iload_n 2, 1, 0, 0, 0), (19, .invokestatic 252, 3, 79, 4, 0),
  (22, .goto 46, 3, 0, 0, 0), (25, .iload_n 1, 1, 0, 0, 0), (26, .iconst 1, 1, 0, 0, 0), (27, .if_icmp .ne 19, 3, 0, 0, 0),
  (30, .aload_n 0, 1, 0, 0, 0), (31, .getfield 42, 3, 12, 28, 4), (34, .iconst 0, 1, 0, 0, 0), (35, .aload_n 0, 1, 0, 0, 0),
  (36, .getfield 219, 3, 12, 13, 0), (39, .iload_n 2, 1, 0, 0, 0), (40, .invokestatic 252, 3, 79, 4, 0), (43, .goto 25, 3, 0, 0, 0),
  (46, .iload_n 1, 1, 0, 0, 0), (47, .iconst 2, 1, 0, 0, 0), (48, .if_icmp .ne 19, 3, 0, 0, 0), (51, .aload_n 0, 1, 0, 0, 0),
  (52, .getfield 48, 3, 12, 30, 4), (55, .iconst 0, 1, 0, 0, 0), (56, .aload_n 0, 1, 0, 0, 0), (57, .getfield 222, 3, 12, 14, 0),
  (60, .iload_n 2, 1, 0, 0, 0), (61, .invokestatic 252, 3, 79, 4, 0), (64, .goto 4, 3, 0, 0, 0), (67, .iconst (-1), 1, 0, 0, 0),
  (68, .ireturn, 1, 0, 0, 0)]
def op_X12_lays : List av_Q := [
  (0, .iconst 0, 1, 0, 0, 0), (1, .istore 4, 2, 0, 0, 0), (3, .iload 4, 2, 0, 0, 0), (5, .bipush 16, 2, 0, 0, 0),
  (7, .if_icmp .ge 21, 3, 0, 0, 0), (10, .aload_n 0, 1, 0, 0, 0), (11, .iload_n 1, 1, 0, 0, 0), (12, .iload 4, 2, 0, 0, 0),
  (14, .iadd, 1, 0, 0, 0), (15, .aload_n 2, 1, 0, 0, 0), (16, .iload_n 3, 1, 0, 0, 0), (17, .iload 4, 2, 0, 0, 0),
  (19, .iadd, 1, 0, 0, 0), (20, .iaload, 1, 0, 0, 0), (21, .iastore, 1, 0, 0, 0), (22, .iinc 4 1, 3, 0, 0, 0),
  (25, .goto (-22), 3, 0, 0, 0), (28, .return_, 1, 0, 0, 0)]
def op_X12_begins : List av_Q := [
  (0, .iconst 0, 1, 0, 0, 0), (1, .istore_n 2, 1, 0, 0, 0), (2, .iload_n 2, 1, 0, 0, 0), (3, .bipush 16, 2, 0, 0, 0),
  (5, .if_icmp .ge 16, 3, 0, 0, 0), (8, .aload_n 0, 1, 0, 0, 0), (9, .getfield 72, 3, 12, 45, 4), (12, .iload_n 2, 1, 0, 0, 0),
  (13, .iconst 0, 1, 0, 0, 0), (14, .iastore, 1, 0, 0, 0), (15, .iinc 2 1, 3, 0, 0, 0), (18, .goto (-16), 3, 0, 0, 0),
  (21, .aload_n 0, 1, 0, 0, 0), (22, .getfield 72, 3, 12, 45, 4), (25, .bipush 6, 2, 0, 0, 0), (27, .aload_n 0, 1, 0, 0, 0),
  (28, .getfield 36, 3, 12, 26, 4), (31, .bipush 16, 2, 0, 0, 0), (33, .iload_n 1, 1, 0, 0, 0), (34, .imul, 1, 0, 0, 0),
  (35, .bipush 7, 2, 0, 0, 0), (37, .iadd, 1, 0, 0, 0), (38, .iaload, 1, 0, 0, 0), (39, .iastore, 1, 0, 0, 0),
  (40, .aload_n 0, 1, 0, 0, 0), (41, .getfield 72, 3, 12, 45, 4), (44, .bipush 7, 2, 0, 0, 0), (46, .aload_n 0, 1, 0, 0, 0),
  (47, .getfield 36, 3, 12, 26, 4), (50, .bipush 16, 2, 0, 0, 0), (52, .iload_n 1, 1, 0, 0, 0), (53, .imul, 1, 0, 0, 0),
  (54, .bipush 9, 2, 0, 0, 0), (56, .iadd, 1, 0, 0, 0), (57, .iaload, 1, 0, 0, 0), (58, .iastore, 1, 0, 0, 0),
  (59, .aload_n 0, 1, 0, 0, 0), (60, .getfield 72, 3, 12, 45, 4), (63, .bipush 8, 2, 0, 0, 0), (65, .aload_n 0, 1, 0, 0, 0),
  (66, .getfield 36, 3, 12, 26, 4), (69, .bipush 16, 2, 0, 0, 0), (71, .iload_n 1, 1, 0, 0, 0), (72, .imul, 1, 0, 0, 0),
  (73, .bipush 12, 2, 0, 0, 0), (75, .iadd, 1, 0, 0, 0), (76, .iaload, 1, 0, 0, 0), (77, .iastore, 1, 0, 0, 0),
  (78, .aload_n 0, 1, 0, 0, 0), (79, .getfield 72, 3, 12, 45, 4), (82, .bipush 10, 2, 0, 0, 0), (84, .aload_n 0, 1, 0, 0, 0),
  (85, .getfield 36, 3, 12, 26, 4), (88, .bipush 16, 2, 0, 0, 0), (90, .iload_n 1, 1, 0, 0, 0), (91, .imul, 1, 0, 0, 0),
  (92, .bipush 14, 2, 0, 0, 0), (94, .iadd, 1, 0, 0, 0), (95, .iaload, 1, 0, 0, 0), (96, .iastore, 1, 0, 0, 0),
  (97, .return_, 1, 0, 0, 0)]
def op_X12_firmOf : List av_Q := [
  (0, .aload_n 0, 1, 0, 0, 0), (1, .getfield 20, 3, 12, 21, 4), (4, .iload_n 1, 1, 0, 0, 0), (5, .bipush 12, 2, 0, 0, 0),
  (7, .imul, 1, 0, 0, 0), (8, .bipush 52, 2, 0, 0, 0), (10, .idiv, 1, 0, 0, 0), (11, .bipush 12, 2, 0, 0, 0),
  (13, .irem, 1, 0, 0, 0), (14, .iaload, 1, 0, 0, 0), (15, .ireturn, 1, 0, 0, 0)]
def op_X12_isGate : List av_Q := [
  (0, .iload_n 1, 1, 0, 0, 0), (1, .ifCond .lt 15, 3, 0, 0, 0), (4, .iload_n 1, 1, 0, 0, 0), (5, .aload_n 0, 1, 0, 0, 0),
  (6, .getfield 216, 3, 12, 12, 0), (9, .if_icmp .ge 7, 3, 0, 0, 0), (16, .iconst 0, 1, 0, 0, 0), (17, .ireturn, 1, 0, 0, 0)]
def op_X12_fails : List av_Q := [
  (0, .aload_n 0, 1, 0, 0, 0), (1, .iload_n 1, 1, 0, 0, 0), (2, .putfield 136, 3, 12, 2, 0), (5, .iconst 0, 1, 0, 0, 0),
  (6, .ireturn, 1, 0, 0, 0)]
def op_X12_look : List av_Q := [
  (0, .aload_n 0, 1, 0, 0, 0), (1, .iconst 0, 1, 0, 0, 0), (2, .putfield 136, 3, 12, 2, 0), (5, .aload_n 0, 1, 0, 0, 0),
  (6, .iload_n 1, 1, 0, 0, 0), (7, .invokevirtual 407, 3, 86, 1, 12), (10, .ifCond .ne 9, 3, 0, 0, 0), (13, .aload_n 0, 1, 0, 0, 0),
  (14, .iconst 1, 1, 0, 0, 0), (15, .invokevirtual 410, 3, 87, 1, 12), (18, .ireturn, 1, 0, 0, 0)]
def op_X12_works : List av_Q := [
  (0, .aload_n 0, 1, 0, 0, 0), (1, .iconst 0, 1, 0, 0, 0), (2, .putfield 136, 3, 12, 2, 0), (5, .iload_n 1, 1, 0, 0, 0),
  (6, .ifCond .lt 20, 3, 0, 0, 0), (9, .iload_n 1, 1, 0, 0, 0), (10, .aload_n 0, 1, 0, 0, 0), (11, .getfield 219, 3, 12, 13, 0),
  (14, .if_icmp .ge 12, 3, 0, 0, 0), (26, .iconst (-1), 1, 0, 0, 0), (27, .goto 13, 3, 0, 0, 0), (40, .ireturn, 1, 0, 0, 0)]
def op_X12_firm : List av_Q := [
  (0, .aload_n 0, 1, 0, 0, 0), (1, .iconst 0, 1, 0, 0, 0), (2, .putfield 136, 3, 12, 2, 0), (5, .iload_n 1, 1, 0, 0, 0),
  (6, .iconst 0, 1, 0, 0, 0), (7, .sipush 1999, 3, 0, 0, 0), (10, .invokestatic 180, 3, 74, 3, 0), (13, .ifCond .eq 11, 3, 0, 0, 0),
  (16, .aload_n 0, 1, 0, 0, 0), (17, .iload_n 1, 1, 0, 0, 0), (18, .invokevirtual 383, 3, 85, 1, 12), (21, .goto 4, 3, 0, 0, 0),
  (24, .iconst (-1), 1, 0, 0, 0), (25, .ireturn, 1, 0, 0, 0)]
def op_X12_weeks : List av_Q := [
  (0, .aload_n 0, 1, 0, 0, 0), (1, .iconst 0, 1, 0, 0, 0), (2, .putfield 136, 3, 12, 2, 0), (5, .iload_n 1, 1, 0, 0, 0),
  (6, .iconst 0, 1, 0, 0, 0), (7, .sipush 520, 3, 0, 0, 0), (10, .invokestatic 180, 3, 74, 3, 0), (13, .ifCond .eq 15, 3, 0, 0, 0),
  (16, .aload_n 0, 1, 0, 0, 0), (17, .getfield 240, 3, 12, 43, 0), (20, .iload_n 1, 1, 0, 0, 0), (21, .iadd, 1, 0, 0, 0),
  (22, .sipush 2000, 3, 0, 0, 0), (25, .if_icmp .le 5, 3, 0, 0, 0), (28, .iconst (-1), 1, 0, 0, 0), (29, .ireturn, 1, 0, 0, 0),
  (30, .iconst 0, 1, 0, 0, 0), (31, .istore_n 2, 1, 0, 0, 0), (32, .iload_n 2, 1, 0, 0, 0), (33, .aload_n 0, 1, 0, 0, 0),
  (34, .getfield 216, 3, 12, 12, 0), (37, .if_icmp .ge 36, 3, 0, 0, 0), (73, .aload_n 0, 1, 0, 0, 0), (74, .dup, 1, 0, 0, 0),
  (75, .getfield 240, 3, 12, 43, 0), (78, .iload_n 1, 1, 0, 0, 0), (79, .iadd, 1, 0, 0, 0), (80, .putfield 240, 3, 12, 43, 0),
  (83, .aload_n 0, 1, 0, 0, 0), (84, .getfield 240, 3, 12, 43, 0), (87, .ireturn, 1, 0, 0, 0)]
def op_X12_sags : List av_Q := [
  (0, .aload_n 0, 1, 0, 0, 0), (1, .iconst 0, 1, 0, 0, 0), (2, .putfield 136, 3, 12, 2, 0), (5, .aload_n 0, 1, 0, 0, 0),
  (6, .iload_n 1, 1, 0, 0, 0), (7, .invokevirtual 407, 3, 86, 1, 12), (10, .ifCond .eq 13, 3, 0, 0, 0), (23, .ldc_w 419, 3, 0, 0, (-2147483648)),
  (26, .ireturn, 1, 0, 0, 0)]
def op_X12_latched : List av_Q := [
  (0, .aload_n 0, 1, 0, 0, 0), (1, .iconst 0, 1, 0, 0, 0), (2, .putfield 136, 3, 12, 2, 0), (5, .aload_n 0, 1, 0, 0, 0),
  (6, .iload_n 1, 1, 0, 0, 0), (7, .invokevirtual 407, 3, 86, 1, 12), (10, .ifCond .ne 5, 3, 0, 0, 0), (13, .iconst (-1), 1, 0, 0, 0),
  (14, .ireturn, 1, 0, 0, 0)]
def op_X12_gives : List av_Q := [
  (0, .aload_n 0, 1, 0, 0, 0), (1, .iconst 0, 1, 0, 0, 0), (2, .putfield 136, 3, 12, 2, 0), (5, .aload_n 0, 1, 0, 0, 0),
  (6, .iload_n 1, 1, 0, 0, 0), (7, .invokevirtual 407, 3, 86, 1, 12), (10, .ifCond .ne 5, 3, 0, 0, 0), (13, .iconst (-1), 1, 0, 0, 0),
  (14, .ireturn, 1, 0, 0, 0)]
def op_X12_work : List av_Q := [
  (0, .aload_n 0, 1, 0, 0, 0), (1, .iconst 0, 1, 0, 0, 0), (2, .putfield 136, 3, 12, 2, 0), (5, .aload_n 0, 1, 0, 0, 0),
  (6, .iload_n 1, 1, 0, 0, 0), (7, .invokevirtual 407, 3, 86, 1, 12), (10, .ifCond .eq 34, 3, 0, 0, 0), (44, .iconst 0, 1, 0, 0, 0),
  (45, .ireturn, 1, 0, 0, 0)]
def op_X12_undo : List av_Q := [
  (0, .aload_n 0, 1, 0, 0, 0), (1, .iconst 0, 1, 0, 0, 0), (2, .putfield 136, 3, 12, 2, 0), (5, .aload_n 0, 1, 0, 0, 0),
  (6, .getfield 246, 3, 12, 50, 0), (9, .ifCond .ne 5, 3, 0, 0, 0), (12, .iconst (-1), 1, 0, 0, 0), (13, .ireturn, 1, 0, 0, 0)]
def op_X12_lasts : List av_Q := [
  (0, .aload_n 0, 1, 0, 0, 0), (1, .iconst 0, 1, 0, 0, 0), (2, .putfield 136, 3, 12, 2, 0), (5, .aload_n 0, 1, 0, 0, 0),
  (6, .iload_n 1, 1, 0, 0, 0), (7, .invokevirtual 407, 3, 86, 1, 12), (10, .ifCond .eq 10, 3, 0, 0, 0), (20, .iconst (-1), 1, 0, 0, 0),
  (21, .ireturn, 1, 0, 0, 0)]
def op_X12_least : List av_Q := [
  (0, .aload_n 0, 1, 0, 0, 0), (1, .iconst 0, 1, 0, 0, 0), (2, .putfield 136, 3, 12, 2, 0), (5, .aload_n 0, 1, 0, 0, 0),
  (6, .iload_n 1, 1, 0, 0, 0), (7, .invokevirtual 407, 3, 86, 1, 12), (10, .ifCond .eq 31, 3, 0, 0, 0), (41, .iconst (-1), 1, 0, 0, 0),
  (42, .ireturn, 1, 0, 0, 0)]
def op_X12_way : List av_Q := [
  (0, .aload_n 0, 1, 0, 0, 0), (1, .iconst 0, 1, 0, 0, 0), (2, .putfield 136, 3, 12, 2, 0), (5, .aload_n 0, 1, 0, 0, 0),
  (6, .iload_n 1, 1, 0, 0, 0), (7, .invokevirtual 407, 3, 86, 1, 12), (10, .ifCond .eq 14, 3, 0, 0, 0), (24, .ldc_w 419, 3, 0, 0, (-2147483648)),
  (27, .ireturn, 1, 0, 0, 0)]
def op_X12_enough : List av_Q := [
  (0, .aload_n 0, 1, 0, 0, 0), (1, .iconst 0, 1, 0, 0, 0), (2, .putfield 136, 3, 12, 2, 0), (5, .aload_n 0, 1, 0, 0, 0),
  (6, .iload_n 1, 1, 0, 0, 0), (7, .invokevirtual 407, 3, 86, 1, 12), (10, .ifCond .eq 21, 3, 0, 0, 0), (31, .iconst (-1), 1, 0, 0, 0),
  (32, .ireturn, 1, 0, 0, 0)]
def op_X12_bears : List av_Q := [
  (0, .aload_n 0, 1, 0, 0, 0), (1, .iconst 0, 1, 0, 0, 0), (2, .putfield 136, 3, 12, 2, 0), (5, .aload_n 0, 1, 0, 0, 0),
  (6, .iload_n 1, 1, 0, 0, 0), (7, .invokevirtual 407, 3, 86, 1, 12), (10, .ifCond .eq 21, 3, 0, 0, 0), (31, .iconst (-1), 1, 0, 0, 0),
  (32, .ireturn, 1, 0, 0, 0)]
def op_X12_knock : List av_Q := [
  (0, .aload_n 0, 1, 0, 0, 0), (1, .iconst 0, 1, 0, 0, 0), (2, .putfield 136, 3, 12, 2, 0), (5, .aload_n 0, 1, 0, 0, 0),
  (6, .iload_n 1, 1, 0, 0, 0), (7, .invokevirtual 407, 3, 86, 1, 12), (10, .ifCond .eq 13, 3, 0, 0, 0), (23, .ldc2_w 438, 3, 0, 0, (-9223372036854775808)),
  (26, .lreturn, 1, 0, 0, 0)]
def op_X12_measure : List av_Q := [
  (0, .aload_n 0, 1, 0, 0, 0), (1, .iconst 0, 1, 0, 0, 0), (2, .putfield 136, 3, 12, 2, 0), (5, .aload_n 0, 1, 0, 0, 0),
  (6, .getfield 243, 3, 12, 52, 0), (9, .bipush 40, 2, 0, 0, 0), (11, .if_icmp .eq 58, 3, 0, 0, 0), (14, .aload_n 0, 1, 0, 0, 0),
  (15, .iload_n 1, 1, 0, 0, 0), (16, .invokevirtual 407, 3, 86, 1, 12), (19, .ifCond .eq 50, 3, 0, 0, 0), (69, .iconst (-1), 1, 0, 0, 0),
  (70, .ireturn, 1, 0, 0, 0)]
def op_X12_strike : List av_Q := [
  (0, .aload_n 0, 1, 0, 0, 0), (1, .iconst 0, 1, 0, 0, 0), (2, .putfield 136, 3, 12, 2, 0), (5, .aload_n 0, 1, 0, 0, 0),
  (6, .getfield 243, 3, 12, 52, 0), (9, .bipush 40, 2, 0, 0, 0), (11, .if_icmp .eq 15, 3, 0, 0, 0), (14, .iload_n 1, 1, 0, 0, 0),
  (15, .ifCond .lt 11, 3, 0, 0, 0), (18, .iload_n 1, 1, 0, 0, 0), (19, .aload_n 0, 1, 0, 0, 0), (20, .getfield 243, 3, 12, 52, 0),
  (23, .if_icmp .lt 5, 3, 0, 0, 0), (26, .iconst (-1), 1, 0, 0, 0), (27, .ireturn, 1, 0, 0, 0)]
def op_X12_known : List av_Q := [
  (0, .aload_n 0, 1, 0, 0, 0), (1, .iconst 0, 1, 0, 0, 0), (2, .putfield 136, 3, 12, 2, 0), (5, .iload_n 1, 1, 0, 0, 0),
  (6, .iconst (-1), 1, 0, 0, 0), (7, .aload_n 0, 1, 0, 0, 0), (8, .getfield 243, 3, 12, 52, 0), (11, .invokestatic 180, 3, 74, 3, 0),
  (14, .ifCond .ne 5, 3, 0, 0, 0), (17, .iconst 0, 1, 0, 0, 0), (18, .ireturn, 1, 0, 0, 0), (19, .aload_n 0, 1, 0, 0, 0),
  (20, .iload_n 1, 1, 0, 0, 0), (21, .putfield 88, 3, 12, 53, 0), (24, .iconst 1, 1, 0, 0, 0), (25, .ireturn, 1, 0, 0, 0)]
def op_X12_knownMany : List av_Q := [
  (0, .aload_n 0, 1, 0, 0, 0), (1, .getfield 88, 3, 12, 53, 0), (4, .ifCond .ge 10, 3, 0, 0, 0), (7, .aload_n 0, 1, 0, 0, 0),
  (8, .getfield 243, 3, 12, 52, 0), (11, .goto 7, 3, 0, 0, 0), (18, .ireturn, 1, 0, 0, 0)]
def op_X12_fits : List av_Q := [
  (0, .aload_n 0, 1, 0, 0, 0), (1, .iconst 0, 1, 0, 0, 0), (2, .putfield 136, 3, 12, 2, 0), (5, .aload_n 0, 1, 0, 0, 0),
  (6, .iload_n 1, 1, 0, 0, 0), (7, .invokevirtual 407, 3, 86, 1, 12), (10, .ifCond .eq 11, 3, 0, 0, 0), (21, .iconst (-1), 1, 0, 0, 0),
  (22, .ireturn, 1, 0, 0, 0)]
def op_X12_odds : List av_Q := [
  (0, .aload_n 0, 1, 0, 0, 0), (1, .iconst 0, 1, 0, 0, 0), (2, .putfield 136, 3, 12, 2, 0), (5, .aload_n 0, 1, 0, 0, 0),
  (6, .iload_n 1, 1, 0, 0, 0), (7, .invokevirtual 407, 3, 86, 1, 12), (10, .ifCond .eq 24, 3, 0, 0, 0), (34, .iconst (-1), 1, 0, 0, 0),
  (35, .ireturn, 1, 0, 0, 0)]
def op_X12_test : List av_Q := [
  (0, .aload_n 0, 1, 0, 0, 0), (1, .iconst 0, 1, 0, 0, 0), (2, .putfield 136, 3, 12, 2, 0), (5, .aload_n 0, 1, 0, 0, 0),
  (6, .iload_n 1, 1, 0, 0, 0), (7, .invokevirtual 407, 3, 86, 1, 12), (10, .ifCond .eq 12, 3, 0, 0, 0), (22, .iconst (-1), 1, 0, 0, 0),
  (23, .ireturn, 1, 0, 0, 0)]
def op_X12_low : List av_Q := [
  (0, .aload_n 0, 1, 0, 0, 0), (1, .iconst 0, 1, 0, 0, 0), (2, .putfield 136, 3, 12, 2, 0), (5, .aload_n 0, 1, 0, 0, 0),
  (6, .iload_n 1, 1, 0, 0, 0), (7, .invokevirtual 407, 3, 86, 1, 12), (10, .ifCond .eq 11, 3, 0, 0, 0), (21, .ldc_w 419, 3, 0, 0, (-2147483648)),
  (24, .ireturn, 1, 0, 0, 0)]
def op_X12_rest : List av_Q := [
  (0, .aload_n 0, 1, 0, 0, 0), (1, .iconst 0, 1, 0, 0, 0), (2, .putfield 136, 3, 12, 2, 0), (5, .aload_n 0, 1, 0, 0, 0),
  (6, .iload_n 1, 1, 0, 0, 0), (7, .invokevirtual 407, 3, 86, 1, 12), (10, .ifCond .ne 5, 3, 0, 0, 0), (13, .iconst (-1), 1, 0, 0, 0),
  (14, .ireturn, 1, 0, 0, 0)]
def op_X12_shuts : List av_Q := [
  (0, .aload_n 0, 1, 0, 0, 0), (1, .iconst 0, 1, 0, 0, 0), (2, .putfield 136, 3, 12, 2, 0), (5, .aload_n 0, 1, 0, 0, 0),
  (6, .iload_n 1, 1, 0, 0, 0), (7, .invokevirtual 407, 3, 86, 1, 12), (10, .ifCond .ne 5, 3, 0, 0, 0), (13, .iconst (-1), 1, 0, 0, 0),
  (14, .ireturn, 1, 0, 0, 0)]
def op_X12_above : List av_Q := [
  (0, .aload_n 0, 1, 0, 0, 0), (1, .iconst 0, 1, 0, 0, 0), (2, .putfield 136, 3, 12, 2, 0), (5, .aload_n 0, 1, 0, 0, 0),
  (6, .iload_n 1, 1, 0, 0, 0), (7, .invokevirtual 407, 3, 86, 1, 12), (10, .ifCond .eq 11, 3, 0, 0, 0), (21, .ldc_w 419, 3, 0, 0, (-2147483648)),
  (24, .ireturn, 1, 0, 0, 0)]
def op_X12_opens : List av_Q := [
  (0, .aload_n 0, 1, 0, 0, 0), (1, .iconst 0, 1, 0, 0, 0), (2, .putfield 136, 3, 12, 2, 0), (5, .aload_n 0, 1, 0, 0, 0),
  (6, .iload_n 1, 1, 0, 0, 0), (7, .invokevirtual 407, 3, 86, 1, 12), (10, .ifCond .ne 6, 3, 0, 0, 0), (13, .bipush (-2), 2, 0, 0, 0),
  (15, .ireturn, 1, 0, 0, 0)]
def op_X12_stand : List av_Q := [
  (0, .aload_n 0, 1, 0, 0, 0), (1, .iconst 0, 1, 0, 0, 0), (2, .putfield 136, 3, 12, 2, 0), (5, .aload_n 0, 1, 0, 0, 0),
  (6, .iload_n 1, 1, 0, 0, 0), (7, .invokevirtual 407, 3, 86, 1, 12), (10, .ifCond .eq 20, 3, 0, 0, 0), (30, .ldc_w 419, 3, 0, 0, (-2147483648)),
  (33, .ireturn, 1, 0, 0, 0)]
def op_X12_first : List av_Q := [
  (0, .aload_n 0, 1, 0, 0, 0), (1, .iconst 0, 1, 0, 0, 0), (2, .putfield 136, 3, 12, 2, 0), (5, .aload_n 0, 1, 0, 0, 0),
  (6, .getfield 216, 3, 12, 12, 0), (9, .ifCond .eq 25, 3, 0, 0, 0), (34, .iconst (-1), 1, 0, 0, 0), (35, .ireturn, 1, 0, 0, 0)]
def op_X12_wind : List av_Q := [
  (0, .aload_n 0, 1, 0, 0, 0), (1, .iconst 0, 1, 0, 0, 0), (2, .putfield 136, 3, 12, 2, 0), (5, .aload_n 0, 1, 0, 0, 0),
  (6, .iload_n 1, 1, 0, 0, 0), (7, .invokevirtual 407, 3, 86, 1, 12), (10, .ifCond .eq 36, 3, 0, 0, 0), (46, .iconst (-1), 1, 0, 0, 0),
  (47, .ireturn, 1, 0, 0, 0)]
def op_X12_keep : List av_Q := [
  (0, .aload_n 0, 1, 0, 0, 0), (1, .iconst 0, 1, 0, 0, 0), (2, .putfield 136, 3, 12, 2, 0), (5, .aload_n 0, 1, 0, 0, 0),
  (6, .iconst 1, 1, 0, 0, 0), (7, .putfield 249, 3, 12, 66, 2), (10, .aload_n 0, 1, 0, 0, 0), (11, .aload_n 0, 1, 0, 0, 0),
  (12, .getfield 240, 3, 12, 43, 0), (15, .putfield 512, 3, 12, 67, 0), (18, .iconst 0, 1, 0, 0, 0), (19, .istore_n 1, 1, 0, 0, 0),
  (20, .iload_n 1, 1, 0, 0, 0), (21, .iconst 4, 1, 0, 0, 0), (22, .if_icmp .ge 28, 3, 0, 0, 0), (25, .aload_n 0, 1, 0, 0, 0),
  (26, .getfield 127, 3, 12, 68, 4), (29, .bipush 16, 2, 0, 0, 0), (31, .iload_n 1, 1, 0, 0, 0), (32, .imul, 1, 0, 0, 0),
  (33, .aload_n 0, 1, 0, 0, 0), (34, .getfield 69, 3, 12, 44, 4), (37, .bipush 16, 2, 0, 0, 0), (39, .iload_n 1, 1, 0, 0, 0),
  (40, .imul, 1, 0, 0, 0), (41, .invokestatic 236, 3, 83, 4, 0), (44, .iinc 1 1, 3, 0, 0, 0), (47, .goto (-27), 3, 0, 0, 0),
  (50, .aload_n 0, 1, 0, 0, 0), (51, .getfield 240, 3, 12, 43, 0), (54, .ireturn, 1, 0, 0, 0)]
def op_X12_back : List av_Q := [
  (0, .aload_n 0, 1, 0, 0, 0), (1, .iconst 0, 1, 0, 0, 0), (2, .putfield 136, 3, 12, 2, 0), (5, .aload_n 0, 1, 0, 0, 0),
  (6, .getfield 249, 3, 12, 66, 2), (9, .ifCond .ne 5, 3, 0, 0, 0), (12, .iconst (-1), 1, 0, 0, 0), (13, .ireturn, 1, 0, 0, 0)]
def op_X12_count : List av_Q := [
  (0, .aload_n 0, 1, 0, 0, 0), (1, .iconst 0, 1, 0, 0, 0), (2, .putfield 136, 3, 12, 2, 0), (5, .iconst 0, 1, 0, 0, 0),
  (6, .istore_n 2, 1, 0, 0, 0), (7, .iload_n 1, 1, 0, 0, 0), (8, .tableswitch 129 0 8 #[52, 57, 62, 67, 72, 77, 82, 87, 92], 52, 0, 0, 0), (60, .aload_n 0, 1, 0, 0, 0),
  (61, .getfield 216, 3, 12, 12, 0), (64, .ireturn, 1, 0, 0, 0), (65, .aload_n 0, 1, 0, 0, 0), (66, .getfield 219, 3, 12, 13, 0),
  (69, .ireturn, 1, 0, 0, 0), (70, .aload_n 0, 1, 0, 0, 0), (71, .getfield 222, 3, 12, 14, 0), (74, .ireturn, 1, 0, 0, 0),
  (75, .aload_n 0, 1, 0, 0, 0), (76, .getfield 225, 3, 12, 15, 0), (79, .ireturn, 1, 0, 0, 0), (80, .aload_n 0, 1, 0, 0, 0),
  (81, .getfield 240, 3, 12, 43, 0), (84, .ireturn, 1, 0, 0, 0), (85, .aload_n 0, 1, 0, 0, 0), (86, .getfield 243, 3, 12, 52, 0),
  (89, .ireturn, 1, 0, 0, 0), (90, .aload_n 0, 1, 0, 0, 0), (91, .invokevirtual 442, 3, 106, 0, 12), (94, .ireturn, 1, 0, 0, 0),
  (95, .aload_n 0, 1, 0, 0, 0), (96, .getfield 246, 3, 12, 50, 0), (99, .ireturn, 1, 0, 0, 0), (100, .iconst 0, 1, 0, 0, 0),
  (101, .istore_n 3, 1, 0, 0, 0), (102, .iload_n 3, 1, 0, 0, 0), (103, .aload_n 0, 1, 0, 0, 0), (104, .getfield 216, 3, 12, 12, 0),
  (107, .if_icmp .ge 28, 3, 0, 0, 0), (135, .iload_n 2, 1, 0, 0, 0), (136, .ireturn, 1, 0, 0, 0), (137, .iconst (-1), 1, 0, 0, 0),
  (138, .ireturn, 1, 0, 0, 0)]
def op_J0_length_8abf5 : List av_Q := [
  (0, .aload_n 0, 1, 0, 0, 0), (1, .getfield 9, 3, 100, 0, 0), (4, .arraylength, 1, 0, 0, 0), (5, .aload_n 0, 1, 0, 0, 0),
  (6, .invokevirtual 335, 3, 123, 0, 100), (9, .ishr, 1, 0, 0, 0), (10, .ireturn, 1, 0, 0, 0)]
def op_J0_charAt_5068e : List av_Q := [
  (0, .aload_n 0, 1, 0, 0, 0), (1, .invokevirtual 492, 3, 124, 0, 100), (4, .ifCond .eq 12, 3, 0, 0, 0), (7, .aload_n 0, 1, 0, 0, 0),
  (8, .getfield 9, 3, 100, 0, 0), (11, .iload_n 1, 1, 0, 0, 0), (12, .invokestatic 495, 3, 126, 2, 0), (15, .ireturn, 1, 0, 0, 0)]
def op_J0_coder_7d493 : List av_Q := [
  (0, .getstatic 38, 3, 0, 0, 0), (3, .ifCond .eq 10, 3, 0, 0, 0), (6, .aload_n 0, 1, 0, 0, 0), (7, .getfield 15, 3, 100, 1, 0),
  (10, .goto 4, 3, 0, 0, 0), (14, .ireturn, 1, 0, 0, 0)]
def op_J0_isLatin1_aae02 : List av_Q := [
  (0, .getstatic 38, 3, 0, 0, 0), (3, .ifCond .eq 14, 3, 0, 0, 0), (6, .aload_n 0, 1, 0, 0, 0), (7, .getfield 15, 3, 100, 1, 0),
  (10, .ifCond .ne 7, 3, 0, 0, 0), (13, .iconst 1, 1, 0, 0, 0), (14, .goto 4, 3, 0, 0, 0), (18, .ireturn, 1, 0, 0, 0)]
def op_J0_checkIndex_df160 : List av_Q := [
  (0, .iload_n 0, 1, 0, 0, 0), (1, .iload_n 1, 1, 0, 0, 0), (2, .getstatic 1053, 3, 1, 0, 0), (5, .invokestatic 1059, 3, 127, 3, 0),
  (8, .pop, 1, 0, 0, 0), (9, .return_, 1, 0, 0, 0)]
def op_J1_charAt_3b067 : List av_Q := [
  (0, .iload_n 1, 1, 0, 0, 0), (1, .aload_n 0, 1, 0, 0, 0), (2, .arraylength, 1, 0, 0, 0), (3, .invokestatic 9, 3, 125, 2, 0),
  (6, .aload_n 0, 1, 0, 0, 0), (7, .iload_n 1, 1, 0, 0, 0), (8, .baload, 1, 0, 0, 0), (9, .sipush 255, 3, 0, 0, 0),
  (12, .iand, 1, 0, 0, 0), (13, .i2c, 1, 0, 0, 0), (14, .ireturn, 1, 0, 0, 0)]
def op_J3_checkIndex_8e157 : List av_Q := [
  (0, .iload_n 0, 1, 0, 0, 0), (1, .ifCond .lt 8, 3, 0, 0, 0), (4, .iload_n 0, 1, 0, 0, 0), (5, .iload_n 1, 1, 0, 0, 0),
  (6, .if_icmp .lt 10, 3, 0, 0, 0), (16, .iload_n 0, 1, 0, 0, 0), (17, .ireturn, 1, 0, 0, 0)]
def op_L_law_0 : List av_Q := [
  (0, .new 8, 3, 11, 0, 0), (3, .dup, 1, 0, 0, 0), (4, .invokespecial 17, 3, 28, 0, 0), (7, .astore_n 1, 1, 0, 0, 0),
  (8, .new 18, 3, 12, 0, 0), (11, .dup, 1, 0, 0, 0), (12, .invokespecial 20, 3, 71, 0, 0), (15, .astore_n 2, 1, 0, 0, 0),
  (16, .iconst 1, 1, 0, 0, 0), (17, .newarray .long, 2, 3, 0, 0), (19, .astore_n 3, 1, 0, 0, 0), (20, .iconst 0, 1, 0, 0, 0),
  (21, .istore 4, 2, 0, 0, 0), (23, .iload 4, 2, 0, 0, 0), (25, .aload_n 0, 1, 0, 0, 0), (26, .arraylength, 1, 0, 0, 0),
  (27, .bipush 6, 2, 0, 0, 0), (29, .isub, 1, 0, 0, 0), (30, .if_icmp .gt 1492, 3, 0, 0, 0), (33, .aload_n 0, 1, 0, 0, 0),
  (34, .iload 4, 2, 0, 0, 0), (36, .iaload, 1, 0, 0, 0), (37, .bipush 63, 2, 0, 0, 0), (39, .iand, 1, 0, 0, 0),
  (40, .tableswitch 1476 0 35 #[160, 233, 258, 283, 320, 388, 425, 450, 475, 512, 537, 562, 599, 612, 649, 710, 747, 796, 845, 883, 956, 981, 1006, 1031, 1080, 1117, 1154, 1179, 1204, 1241, 1266, 1315, 1352, 1425, 1438, 1451], 160, 0, 0, 0), (200, .aload_n 1, 1, 0, 0, 0), (201, .aload_n 0, 1, 0, 0, 0), (202, .iload 4, 2, 0, 0, 0),
  (204, .iconst 1, 1, 0, 0, 0), (205, .iadd, 1, 0, 0, 0), (206, .iaload, 1, 0, 0, 0), (207, .aload_n 0, 1, 0, 0, 0),
  (208, .iload 4, 2, 0, 0, 0), (210, .iconst 2, 1, 0, 0, 0), (211, .iadd, 1, 0, 0, 0), (212, .iaload, 1, 0, 0, 0),
  (213, .aload_n 0, 1, 0, 0, 0), (214, .iload 4, 2, 0, 0, 0), (216, .iconst 3, 1, 0, 0, 0), (217, .iadd, 1, 0, 0, 0),
  (218, .iaload, 1, 0, 0, 0), (219, .aload_n 0, 1, 0, 0, 0), (220, .iload 4, 2, 0, 0, 0), (222, .iconst 4, 1, 0, 0, 0),
  (223, .iadd, 1, 0, 0, 0), (224, .iaload, 1, 0, 0, 0), (225, .aload_n 0, 1, 0, 0, 0), (226, .iload 4, 2, 0, 0, 0),
  (228, .iconst 5, 1, 0, 0, 0), (229, .iadd, 1, 0, 0, 0), (230, .iaload, 1, 0, 0, 0), (231, .invokevirtual 21, 3, 29, 5, 11),
  (234, .aload_n 2, 1, 0, 0, 0), (235, .aload_n 0, 1, 0, 0, 0), (236, .iload 4, 2, 0, 0, 0), (238, .iconst 1, 1, 0, 0, 0),
  (239, .iadd, 1, 0, 0, 0), (240, .iaload, 1, 0, 0, 0), (241, .aload_n 0, 1, 0, 0, 0), (242, .iload 4, 2, 0, 0, 0)]
def op_L_law_1 : List av_Q := [
  (244, .iconst 2, 1, 0, 0, 0), (245, .iadd, 1, 0, 0, 0), (246, .iaload, 1, 0, 0, 0), (247, .aload_n 0, 1, 0, 0, 0),
  (248, .iload 4, 2, 0, 0, 0), (250, .iconst 3, 1, 0, 0, 0), (251, .iadd, 1, 0, 0, 0), (252, .iaload, 1, 0, 0, 0),
  (253, .aload_n 0, 1, 0, 0, 0), (254, .iload 4, 2, 0, 0, 0), (256, .iconst 4, 1, 0, 0, 0), (257, .iadd, 1, 0, 0, 0),
  (258, .iaload, 1, 0, 0, 0), (259, .aload_n 0, 1, 0, 0, 0), (260, .iload 4, 2, 0, 0, 0), (262, .iconst 5, 1, 0, 0, 0),
  (263, .iadd, 1, 0, 0, 0), (264, .iaload, 1, 0, 0, 0), (265, .invokevirtual 25, 3, 73, 5, 12), (268, .if_icmp .eq 1248, 3, 0, 0, 0),
  (273, .aload_n 1, 1, 0, 0, 0), (274, .aload_n 0, 1, 0, 0, 0), (275, .iload 4, 2, 0, 0, 0), (277, .iconst 1, 1, 0, 0, 0),
  (278, .iadd, 1, 0, 0, 0), (279, .iaload, 1, 0, 0, 0), (280, .invokevirtual 26, 3, 31, 1, 11), (283, .aload_n 2, 1, 0, 0, 0),
  (284, .aload_n 0, 1, 0, 0, 0), (285, .iload 4, 2, 0, 0, 0), (287, .iconst 1, 1, 0, 0, 0), (288, .iadd, 1, 0, 0, 0),
  (289, .iaload, 1, 0, 0, 0), (290, .invokevirtual 30, 3, 80, 1, 12), (293, .if_icmp .eq 1223, 3, 0, 0, 0), (298, .aload_n 1, 1, 0, 0, 0),
  (299, .aload_n 0, 1, 0, 0, 0), (300, .iload 4, 2, 0, 0, 0), (302, .iconst 1, 1, 0, 0, 0), (303, .iadd, 1, 0, 0, 0),
  (304, .iaload, 1, 0, 0, 0), (305, .invokevirtual 31, 3, 33, 1, 11), (308, .aload_n 2, 1, 0, 0, 0), (309, .aload_n 0, 1, 0, 0, 0),
  (310, .iload 4, 2, 0, 0, 0), (312, .iconst 1, 1, 0, 0, 0), (313, .iadd, 1, 0, 0, 0), (314, .iaload, 1, 0, 0, 0),
  (315, .invokevirtual 34, 3, 81, 1, 12), (318, .if_icmp .eq 1198, 3, 0, 0, 0), (323, .aload_n 1, 1, 0, 0, 0), (324, .aload_n 0, 1, 0, 0, 0),
  (325, .iload 4, 2, 0, 0, 0), (327, .iconst 1, 1, 0, 0, 0), (328, .iadd, 1, 0, 0, 0), (329, .iaload, 1, 0, 0, 0),
  (330, .aload_n 0, 1, 0, 0, 0), (331, .iload 4, 2, 0, 0, 0), (333, .iconst 2, 1, 0, 0, 0), (334, .iadd, 1, 0, 0, 0)]
def op_L_law_2 : List av_Q := [
  (335, .iaload, 1, 0, 0, 0), (336, .invokevirtual 35, 3, 34, 2, 11), (339, .aload_n 2, 1, 0, 0, 0), (340, .aload_n 0, 1, 0, 0, 0),
  (341, .iload 4, 2, 0, 0, 0), (343, .iconst 1, 1, 0, 0, 0), (344, .iadd, 1, 0, 0, 0), (345, .iaload, 1, 0, 0, 0),
  (346, .aload_n 0, 1, 0, 0, 0), (347, .iload 4, 2, 0, 0, 0), (349, .iconst 2, 1, 0, 0, 0), (350, .iadd, 1, 0, 0, 0),
  (351, .iaload, 1, 0, 0, 0), (352, .invokevirtual 38, 3, 82, 2, 12), (355, .if_icmp .eq 1161, 3, 0, 0, 0), (360, .aload_n 1, 1, 0, 0, 0),
  (361, .aload_n 0, 1, 0, 0, 0), (362, .iload 4, 2, 0, 0, 0), (364, .iconst 1, 1, 0, 0, 0), (365, .iadd, 1, 0, 0, 0),
  (366, .iaload, 1, 0, 0, 0), (367, .aload_n 0, 1, 0, 0, 0), (368, .iload 4, 2, 0, 0, 0), (370, .iconst 2, 1, 0, 0, 0),
  (371, .iadd, 1, 0, 0, 0), (372, .iaload, 1, 0, 0, 0), (373, .aload_n 3, 1, 0, 0, 0), (377, .istore 5, 2, 0, 0, 0),
  (379, .aload_n 2, 1, 0, 0, 0), (380, .aload_n 0, 1, 0, 0, 0), (381, .iload 4, 2, 0, 0, 0), (383, .iconst 1, 1, 0, 0, 0),
  (384, .iadd, 1, 0, 0, 0), (385, .iaload, 1, 0, 0, 0), (386, .aload_n 0, 1, 0, 0, 0), (387, .iload 4, 2, 0, 0, 0),
  (389, .iconst 2, 1, 0, 0, 0), (390, .iadd, 1, 0, 0, 0), (391, .iaload, 1, 0, 0, 0), (392, .invokevirtual 44, 3, 88, 2, 12),
  (395, .istore 6, 2, 0, 0, 0), (397, .aload_n 2, 1, 0, 0, 0), (398, .invokevirtual 45, 3, 72, 0, 12), (401, .iload 5, 2, 0, 0, 0),
  (403, .if_icmp .eq 5, 3, 0, 0, 0), (408, .iload 5, 2, 0, 0, 0), (410, .ifCond .ne 15, 3, 0, 0, 0), (425, .goto 1091, 3, 0, 0, 0),
  (428, .aload_n 1, 1, 0, 0, 0), (429, .aload_n 0, 1, 0, 0, 0), (430, .iload 4, 2, 0, 0, 0), (432, .iconst 1, 1, 0, 0, 0),
  (433, .iadd, 1, 0, 0, 0), (434, .iaload, 1, 0, 0, 0), (435, .aload_n 0, 1, 0, 0, 0), (436, .iload 4, 2, 0, 0, 0),
  (438, .iconst 2, 1, 0, 0, 0), (439, .iadd, 1, 0, 0, 0), (440, .iaload, 1, 0, 0, 0), (441, .invokevirtual 49, 3, 39, 2, 11)]
def op_L_law_3 : List av_Q := [
  (444, .aload_n 2, 1, 0, 0, 0), (445, .aload_n 0, 1, 0, 0, 0), (446, .iload 4, 2, 0, 0, 0), (448, .iconst 1, 1, 0, 0, 0),
  (449, .iadd, 1, 0, 0, 0), (450, .iaload, 1, 0, 0, 0), (451, .aload_n 0, 1, 0, 0, 0), (452, .iload 4, 2, 0, 0, 0),
  (454, .iconst 2, 1, 0, 0, 0), (455, .iadd, 1, 0, 0, 0), (456, .iaload, 1, 0, 0, 0), (457, .invokevirtual 52, 3, 89, 2, 12),
  (460, .if_icmp .eq 1056, 3, 0, 0, 0), (465, .aload_n 1, 1, 0, 0, 0), (466, .aload_n 0, 1, 0, 0, 0), (467, .iload 4, 2, 0, 0, 0),
  (469, .iconst 1, 1, 0, 0, 0), (470, .iadd, 1, 0, 0, 0), (471, .iaload, 1, 0, 0, 0), (472, .invokevirtual 53, 3, 40, 1, 11),
  (475, .aload_n 2, 1, 0, 0, 0), (476, .aload_n 0, 1, 0, 0, 0), (477, .iload 4, 2, 0, 0, 0), (479, .iconst 1, 1, 0, 0, 0),
  (480, .iadd, 1, 0, 0, 0), (481, .iaload, 1, 0, 0, 0), (482, .invokevirtual 56, 3, 90, 1, 12), (485, .if_icmp .eq 1031, 3, 0, 0, 0),
  (490, .aload_n 1, 1, 0, 0, 0), (491, .aload_n 0, 1, 0, 0, 0), (492, .iload 4, 2, 0, 0, 0), (494, .iconst 1, 1, 0, 0, 0),
  (495, .iadd, 1, 0, 0, 0), (496, .iaload, 1, 0, 0, 0), (497, .invokevirtual 57, 3, 41, 1, 11), (500, .aload_n 2, 1, 0, 0, 0),
  (501, .aload_n 0, 1, 0, 0, 0), (502, .iload 4, 2, 0, 0, 0), (504, .iconst 1, 1, 0, 0, 0), (505, .iadd, 1, 0, 0, 0),
  (506, .iaload, 1, 0, 0, 0), (507, .invokevirtual 60, 3, 91, 1, 12), (510, .if_icmp .eq 1006, 3, 0, 0, 0), (515, .aload_n 1, 1, 0, 0, 0),
  (516, .aload_n 0, 1, 0, 0, 0), (517, .iload 4, 2, 0, 0, 0), (519, .iconst 1, 1, 0, 0, 0), (520, .iadd, 1, 0, 0, 0),
  (521, .iaload, 1, 0, 0, 0), (522, .aload_n 0, 1, 0, 0, 0), (523, .iload 4, 2, 0, 0, 0), (525, .iconst 2, 1, 0, 0, 0),
  (526, .iadd, 1, 0, 0, 0), (527, .iaload, 1, 0, 0, 0), (528, .invokevirtual 61, 3, 42, 2, 11), (531, .aload_n 2, 1, 0, 0, 0),
  (532, .aload_n 0, 1, 0, 0, 0), (533, .iload 4, 2, 0, 0, 0), (535, .iconst 1, 1, 0, 0, 0), (536, .iadd, 1, 0, 0, 0)]
def op_L_law_4 : List av_Q := [
  (537, .iaload, 1, 0, 0, 0), (538, .aload_n 0, 1, 0, 0, 0), (539, .iload 4, 2, 0, 0, 0), (541, .iconst 2, 1, 0, 0, 0),
  (542, .iadd, 1, 0, 0, 0), (543, .iaload, 1, 0, 0, 0), (544, .invokevirtual 64, 3, 92, 2, 12), (547, .if_icmp .eq 969, 3, 0, 0, 0),
  (552, .aload_n 1, 1, 0, 0, 0), (553, .aload_n 0, 1, 0, 0, 0), (554, .iload 4, 2, 0, 0, 0), (556, .iconst 1, 1, 0, 0, 0),
  (557, .iadd, 1, 0, 0, 0), (558, .iaload, 1, 0, 0, 0), (559, .invokevirtual 65, 3, 43, 1, 11), (562, .aload_n 2, 1, 0, 0, 0),
  (563, .aload_n 0, 1, 0, 0, 0), (564, .iload 4, 2, 0, 0, 0), (566, .iconst 1, 1, 0, 0, 0), (567, .iadd, 1, 0, 0, 0),
  (568, .iaload, 1, 0, 0, 0), (569, .invokevirtual 68, 3, 93, 1, 12), (572, .if_icmp .eq 944, 3, 0, 0, 0), (577, .aload_n 1, 1, 0, 0, 0),
  (578, .aload_n 0, 1, 0, 0, 0), (579, .iload 4, 2, 0, 0, 0), (581, .iconst 1, 1, 0, 0, 0), (582, .iadd, 1, 0, 0, 0),
  (583, .iaload, 1, 0, 0, 0), (584, .invokevirtual 69, 3, 44, 1, 11), (587, .aload_n 2, 1, 0, 0, 0), (588, .aload_n 0, 1, 0, 0, 0),
  (589, .iload 4, 2, 0, 0, 0), (591, .iconst 1, 1, 0, 0, 0), (592, .iadd, 1, 0, 0, 0), (593, .iaload, 1, 0, 0, 0),
  (594, .invokevirtual 72, 3, 94, 1, 12), (597, .if_icmp .eq 919, 3, 0, 0, 0), (602, .aload_n 1, 1, 0, 0, 0), (603, .aload_n 0, 1, 0, 0, 0),
  (604, .iload 4, 2, 0, 0, 0), (606, .iconst 1, 1, 0, 0, 0), (607, .iadd, 1, 0, 0, 0), (608, .iaload, 1, 0, 0, 0),
  (609, .aload_n 0, 1, 0, 0, 0), (610, .iload 4, 2, 0, 0, 0), (612, .iconst 2, 1, 0, 0, 0), (613, .iadd, 1, 0, 0, 0),
  (614, .iaload, 1, 0, 0, 0), (615, .invokevirtual 73, 3, 45, 2, 11), (618, .aload_n 2, 1, 0, 0, 0), (619, .aload_n 0, 1, 0, 0, 0),
  (620, .iload 4, 2, 0, 0, 0), (622, .iconst 1, 1, 0, 0, 0), (623, .iadd, 1, 0, 0, 0), (624, .iaload, 1, 0, 0, 0),
  (625, .aload_n 0, 1, 0, 0, 0), (626, .iload 4, 2, 0, 0, 0), (628, .iconst 2, 1, 0, 0, 0), (629, .iadd, 1, 0, 0, 0)]
def op_L_law_5 : List av_Q := [
  (630, .iaload, 1, 0, 0, 0), (631, .invokevirtual 77, 3, 95, 2, 12), (634, .if_icmp .eq 882, 3, 0, 0, 0), (639, .aload_n 1, 1, 0, 0, 0),
  (640, .invokevirtual 78, 3, 46, 0, 11), (643, .aload_n 2, 1, 0, 0, 0), (644, .invokevirtual 81, 3, 96, 0, 12), (647, .if_icmp .eq 869, 3, 0, 0, 0),
  (652, .aload_n 1, 1, 0, 0, 0), (653, .aload_n 0, 1, 0, 0, 0), (654, .iload 4, 2, 0, 0, 0), (656, .iconst 1, 1, 0, 0, 0),
  (657, .iadd, 1, 0, 0, 0), (658, .iaload, 1, 0, 0, 0), (659, .aload_n 0, 1, 0, 0, 0), (660, .iload 4, 2, 0, 0, 0),
  (662, .iconst 2, 1, 0, 0, 0), (663, .iadd, 1, 0, 0, 0), (664, .iaload, 1, 0, 0, 0), (665, .invokevirtual 82, 3, 47, 2, 11),
  (668, .aload_n 2, 1, 0, 0, 0), (669, .aload_n 0, 1, 0, 0, 0), (670, .iload 4, 2, 0, 0, 0), (672, .iconst 1, 1, 0, 0, 0),
  (673, .iadd, 1, 0, 0, 0), (674, .iaload, 1, 0, 0, 0), (675, .aload_n 0, 1, 0, 0, 0), (676, .iload 4, 2, 0, 0, 0),
  (678, .iconst 2, 1, 0, 0, 0), (679, .iadd, 1, 0, 0, 0), (680, .iaload, 1, 0, 0, 0), (681, .invokevirtual 85, 3, 97, 2, 12),
  (684, .if_icmp .eq 832, 3, 0, 0, 0), (689, .aload_n 1, 1, 0, 0, 0), (690, .aload_n 0, 1, 0, 0, 0), (691, .iload 4, 2, 0, 0, 0),
  (693, .iconst 1, 1, 0, 0, 0), (694, .iadd, 1, 0, 0, 0), (695, .iaload, 1, 0, 0, 0), (696, .aload_n 0, 1, 0, 0, 0),
  (697, .iload 4, 2, 0, 0, 0), (699, .iconst 2, 1, 0, 0, 0), (700, .iadd, 1, 0, 0, 0), (701, .iaload, 1, 0, 0, 0),
  (702, .aload_n 0, 1, 0, 0, 0), (703, .iload 4, 2, 0, 0, 0), (705, .iconst 3, 1, 0, 0, 0), (706, .iadd, 1, 0, 0, 0),
  (707, .iaload, 1, 0, 0, 0), (708, .aload_n 0, 1, 0, 0, 0), (709, .iload 4, 2, 0, 0, 0), (711, .iconst 4, 1, 0, 0, 0),
  (712, .iadd, 1, 0, 0, 0), (713, .iaload, 1, 0, 0, 0), (714, .invokevirtual 86, 3, 48, 4, 11), (717, .aload_n 2, 1, 0, 0, 0),
  (718, .aload_n 0, 1, 0, 0, 0), (719, .iload 4, 2, 0, 0, 0), (721, .iconst 1, 1, 0, 0, 0), (722, .iadd, 1, 0, 0, 0)]
def op_L_law_6 : List av_Q := [
  (723, .iaload, 1, 0, 0, 0), (724, .aload_n 0, 1, 0, 0, 0), (725, .iload 4, 2, 0, 0, 0), (727, .iconst 2, 1, 0, 0, 0),
  (728, .iadd, 1, 0, 0, 0), (729, .iaload, 1, 0, 0, 0), (730, .aload_n 0, 1, 0, 0, 0), (731, .iload 4, 2, 0, 0, 0),
  (733, .iconst 3, 1, 0, 0, 0), (734, .iadd, 1, 0, 0, 0), (735, .iaload, 1, 0, 0, 0), (736, .aload_n 0, 1, 0, 0, 0),
  (737, .iload 4, 2, 0, 0, 0), (739, .iconst 4, 1, 0, 0, 0), (740, .iadd, 1, 0, 0, 0), (741, .iaload, 1, 0, 0, 0),
  (742, .invokevirtual 90, 3, 98, 4, 12), (745, .if_icmp .eq 771, 3, 0, 0, 0), (750, .aload_n 1, 1, 0, 0, 0), (751, .aload_n 0, 1, 0, 0, 0),
  (752, .iload 4, 2, 0, 0, 0), (754, .iconst 1, 1, 0, 0, 0), (755, .iadd, 1, 0, 0, 0), (756, .iaload, 1, 0, 0, 0),
  (757, .aload_n 0, 1, 0, 0, 0), (758, .iload 4, 2, 0, 0, 0), (760, .iconst 2, 1, 0, 0, 0), (761, .iadd, 1, 0, 0, 0),
  (762, .iaload, 1, 0, 0, 0), (763, .invokevirtual 91, 3, 49, 2, 11), (766, .aload_n 2, 1, 0, 0, 0), (767, .aload_n 0, 1, 0, 0, 0),
  (768, .iload 4, 2, 0, 0, 0), (770, .iconst 1, 1, 0, 0, 0), (771, .iadd, 1, 0, 0, 0), (772, .iaload, 1, 0, 0, 0),
  (773, .aload_n 0, 1, 0, 0, 0), (774, .iload 4, 2, 0, 0, 0), (776, .iconst 2, 1, 0, 0, 0), (777, .iadd, 1, 0, 0, 0),
  (778, .iaload, 1, 0, 0, 0), (779, .invokevirtual 94, 3, 99, 2, 12), (782, .if_icmp .eq 734, 3, 0, 0, 0), (787, .aload_n 1, 1, 0, 0, 0),
  (788, .aload_n 0, 1, 0, 0, 0), (789, .iload 4, 2, 0, 0, 0), (791, .iconst 1, 1, 0, 0, 0), (792, .iadd, 1, 0, 0, 0),
  (793, .iaload, 1, 0, 0, 0), (794, .aload_n 0, 1, 0, 0, 0), (795, .iload 4, 2, 0, 0, 0), (797, .iconst 2, 1, 0, 0, 0),
  (798, .iadd, 1, 0, 0, 0), (799, .iaload, 1, 0, 0, 0), (800, .aload_n 0, 1, 0, 0, 0), (801, .iload 4, 2, 0, 0, 0),
  (803, .iconst 3, 1, 0, 0, 0), (804, .iadd, 1, 0, 0, 0), (805, .iaload, 1, 0, 0, 0), (806, .invokevirtual 95, 3, 50, 3, 11)]
def op_L_law_7 : List av_Q := [
  (809, .aload_n 2, 1, 0, 0, 0), (810, .aload_n 0, 1, 0, 0, 0), (811, .iload 4, 2, 0, 0, 0), (813, .iconst 1, 1, 0, 0, 0),
  (814, .iadd, 1, 0, 0, 0), (815, .iaload, 1, 0, 0, 0), (816, .aload_n 0, 1, 0, 0, 0), (817, .iload 4, 2, 0, 0, 0),
  (819, .iconst 2, 1, 0, 0, 0), (820, .iadd, 1, 0, 0, 0), (821, .iaload, 1, 0, 0, 0), (822, .aload_n 0, 1, 0, 0, 0),
  (823, .iload 4, 2, 0, 0, 0), (825, .iconst 3, 1, 0, 0, 0), (826, .iadd, 1, 0, 0, 0), (827, .iaload, 1, 0, 0, 0),
  (828, .invokevirtual 99, 3, 100, 3, 12), (831, .if_icmp .eq 685, 3, 0, 0, 0), (836, .aload_n 1, 1, 0, 0, 0), (837, .aload_n 0, 1, 0, 0, 0),
  (838, .iload 4, 2, 0, 0, 0), (840, .iconst 1, 1, 0, 0, 0), (841, .iadd, 1, 0, 0, 0), (842, .iaload, 1, 0, 0, 0),
  (843, .aload_n 0, 1, 0, 0, 0), (844, .iload 4, 2, 0, 0, 0), (846, .iconst 2, 1, 0, 0, 0), (847, .iadd, 1, 0, 0, 0),
  (848, .iaload, 1, 0, 0, 0), (849, .aload_n 0, 1, 0, 0, 0), (850, .iload 4, 2, 0, 0, 0), (852, .iconst 3, 1, 0, 0, 0),
  (853, .iadd, 1, 0, 0, 0), (854, .iaload, 1, 0, 0, 0), (855, .invokevirtual 100, 3, 51, 3, 11), (858, .aload_n 2, 1, 0, 0, 0),
  (859, .aload_n 0, 1, 0, 0, 0), (860, .iload 4, 2, 0, 0, 0), (862, .iconst 1, 1, 0, 0, 0), (863, .iadd, 1, 0, 0, 0),
  (864, .iaload, 1, 0, 0, 0), (865, .aload_n 0, 1, 0, 0, 0), (866, .iload 4, 2, 0, 0, 0), (868, .iconst 2, 1, 0, 0, 0),
  (869, .iadd, 1, 0, 0, 0), (870, .iaload, 1, 0, 0, 0), (871, .aload_n 0, 1, 0, 0, 0), (872, .iload 4, 2, 0, 0, 0),
  (874, .iconst 3, 1, 0, 0, 0), (875, .iadd, 1, 0, 0, 0), (876, .iaload, 1, 0, 0, 0), (877, .invokevirtual 103, 3, 101, 3, 12),
  (880, .if_icmp .eq 636, 3, 0, 0, 0), (885, .aload_n 1, 1, 0, 0, 0), (886, .aload_n 0, 1, 0, 0, 0), (887, .iload 4, 2, 0, 0, 0),
  (889, .iconst 1, 1, 0, 0, 0), (890, .iadd, 1, 0, 0, 0), (891, .iaload, 1, 0, 0, 0), (892, .aload_n 0, 1, 0, 0, 0)]
def op_L_law_8 : List av_Q := [
  (893, .iload 4, 2, 0, 0, 0), (895, .iconst 2, 1, 0, 0, 0), (896, .iadd, 1, 0, 0, 0), (897, .iaload, 1, 0, 0, 0),
  (898, .invokevirtual 104, 3, 52, 2, 11), (901, .aload_n 2, 1, 0, 0, 0), (902, .aload_n 0, 1, 0, 0, 0), (903, .iload 4, 2, 0, 0, 0),
  (905, .iconst 1, 1, 0, 0, 0), (906, .iadd, 1, 0, 0, 0), (907, .iaload, 1, 0, 0, 0), (908, .aload_n 0, 1, 0, 0, 0),
  (909, .iload 4, 2, 0, 0, 0), (911, .iconst 2, 1, 0, 0, 0), (912, .iadd, 1, 0, 0, 0), (913, .iaload, 1, 0, 0, 0),
  (914, .invokevirtual 108, 3, 102, 2, 12), (917, .lcmp, 1, 0, 0, 0), (918, .ifCond .eq 598, 3, 0, 0, 0), (923, .aload_n 1, 1, 0, 0, 0),
  (924, .aload_n 0, 1, 0, 0, 0), (925, .iload 4, 2, 0, 0, 0), (927, .iconst 1, 1, 0, 0, 0), (928, .iadd, 1, 0, 0, 0),
  (929, .iaload, 1, 0, 0, 0), (930, .aload_n 0, 1, 0, 0, 0), (931, .iload 4, 2, 0, 0, 0), (933, .iconst 2, 1, 0, 0, 0),
  (934, .iadd, 1, 0, 0, 0), (935, .iaload, 1, 0, 0, 0), (936, .aload_n 0, 1, 0, 0, 0), (937, .iload 4, 2, 0, 0, 0),
  (939, .iconst 3, 1, 0, 0, 0), (940, .iadd, 1, 0, 0, 0), (941, .iaload, 1, 0, 0, 0), (942, .aload_n 0, 1, 0, 0, 0),
  (943, .iload 4, 2, 0, 0, 0), (945, .iconst 4, 1, 0, 0, 0), (946, .iadd, 1, 0, 0, 0), (947, .iaload, 1, 0, 0, 0),
  (948, .aload_n 0, 1, 0, 0, 0), (949, .iload 4, 2, 0, 0, 0), (951, .iconst 5, 1, 0, 0, 0), (952, .iadd, 1, 0, 0, 0),
  (953, .iaload, 1, 0, 0, 0), (954, .invokevirtual 109, 3, 53, 5, 11), (957, .aload_n 2, 1, 0, 0, 0), (958, .aload_n 0, 1, 0, 0, 0),
  (959, .iload 4, 2, 0, 0, 0), (961, .iconst 1, 1, 0, 0, 0), (962, .iadd, 1, 0, 0, 0), (963, .iaload, 1, 0, 0, 0),
  (964, .aload_n 0, 1, 0, 0, 0), (965, .iload 4, 2, 0, 0, 0), (967, .iconst 2, 1, 0, 0, 0), (968, .iadd, 1, 0, 0, 0),
  (969, .iaload, 1, 0, 0, 0), (970, .aload_n 0, 1, 0, 0, 0), (971, .iload 4, 2, 0, 0, 0), (973, .iconst 3, 1, 0, 0, 0)]
def op_L_law_9 : List av_Q := [
  (974, .iadd, 1, 0, 0, 0), (975, .iaload, 1, 0, 0, 0), (976, .aload_n 0, 1, 0, 0, 0), (977, .iload 4, 2, 0, 0, 0),
  (979, .iconst 4, 1, 0, 0, 0), (980, .iadd, 1, 0, 0, 0), (981, .iaload, 1, 0, 0, 0), (982, .aload_n 0, 1, 0, 0, 0),
  (983, .iload 4, 2, 0, 0, 0), (985, .iconst 5, 1, 0, 0, 0), (986, .iadd, 1, 0, 0, 0), (987, .iaload, 1, 0, 0, 0),
  (988, .invokevirtual 112, 3, 103, 5, 12), (991, .if_icmp .eq 525, 3, 0, 0, 0), (996, .aload_n 1, 1, 0, 0, 0), (997, .aload_n 0, 1, 0, 0, 0),
  (998, .iload 4, 2, 0, 0, 0), (1000, .iconst 1, 1, 0, 0, 0), (1001, .iadd, 1, 0, 0, 0), (1002, .iaload, 1, 0, 0, 0),
  (1003, .invokevirtual 113, 3, 54, 1, 11), (1006, .aload_n 2, 1, 0, 0, 0), (1007, .aload_n 0, 1, 0, 0, 0), (1008, .iload 4, 2, 0, 0, 0),
  (1010, .iconst 1, 1, 0, 0, 0), (1011, .iadd, 1, 0, 0, 0), (1012, .iaload, 1, 0, 0, 0), (1013, .invokevirtual 116, 3, 104, 1, 12),
  (1016, .if_icmp .eq 500, 3, 0, 0, 0), (1021, .aload_n 1, 1, 0, 0, 0), (1022, .aload_n 0, 1, 0, 0, 0), (1023, .iload 4, 2, 0, 0, 0),
  (1025, .iconst 1, 1, 0, 0, 0), (1026, .iadd, 1, 0, 0, 0), (1027, .iaload, 1, 0, 0, 0), (1028, .invokevirtual 117, 3, 55, 1, 11),
  (1031, .aload_n 2, 1, 0, 0, 0), (1032, .aload_n 0, 1, 0, 0, 0), (1033, .iload 4, 2, 0, 0, 0), (1035, .iconst 1, 1, 0, 0, 0),
  (1036, .iadd, 1, 0, 0, 0), (1037, .iaload, 1, 0, 0, 0), (1038, .invokevirtual 121, 3, 105, 1, 12), (1041, .if_icmp .eq 475, 3, 0, 0, 0),
  (1046, .aload_n 1, 1, 0, 0, 0), (1047, .aload_n 0, 1, 0, 0, 0), (1048, .iload 4, 2, 0, 0, 0), (1050, .iconst 1, 1, 0, 0, 0),
  (1051, .iadd, 1, 0, 0, 0), (1052, .iaload, 1, 0, 0, 0), (1053, .invokevirtual 122, 3, 56, 1, 11), (1056, .aload_n 2, 1, 0, 0, 0),
  (1057, .aload_n 0, 1, 0, 0, 0), (1058, .iload 4, 2, 0, 0, 0), (1060, .iconst 1, 1, 0, 0, 0), (1061, .iadd, 1, 0, 0, 0),
  (1062, .iaload, 1, 0, 0, 0), (1063, .invokevirtual 125, 3, 107, 1, 12), (1066, .if_icmp .eq 450, 3, 0, 0, 0), (1071, .aload_n 1, 1, 0, 0, 0)]
def op_L_law_10 : List av_Q := [
  (1072, .aload_n 0, 1, 0, 0, 0), (1073, .iload 4, 2, 0, 0, 0), (1075, .iconst 1, 1, 0, 0, 0), (1076, .iadd, 1, 0, 0, 0),
  (1077, .iaload, 1, 0, 0, 0), (1078, .aload_n 0, 1, 0, 0, 0), (1079, .iload 4, 2, 0, 0, 0), (1081, .iconst 2, 1, 0, 0, 0),
  (1082, .iadd, 1, 0, 0, 0), (1083, .iaload, 1, 0, 0, 0), (1084, .aload_n 0, 1, 0, 0, 0), (1085, .iload 4, 2, 0, 0, 0),
  (1087, .iconst 3, 1, 0, 0, 0), (1088, .iadd, 1, 0, 0, 0), (1089, .iaload, 1, 0, 0, 0), (1090, .invokevirtual 126, 3, 57, 3, 11),
  (1093, .aload_n 2, 1, 0, 0, 0), (1094, .aload_n 0, 1, 0, 0, 0), (1095, .iload 4, 2, 0, 0, 0), (1097, .iconst 1, 1, 0, 0, 0),
  (1098, .iadd, 1, 0, 0, 0), (1099, .iaload, 1, 0, 0, 0), (1100, .aload_n 0, 1, 0, 0, 0), (1101, .iload 4, 2, 0, 0, 0),
  (1103, .iconst 2, 1, 0, 0, 0), (1104, .iadd, 1, 0, 0, 0), (1105, .iaload, 1, 0, 0, 0), (1106, .aload_n 0, 1, 0, 0, 0),
  (1107, .iload 4, 2, 0, 0, 0), (1109, .iconst 3, 1, 0, 0, 0), (1110, .iadd, 1, 0, 0, 0), (1111, .iaload, 1, 0, 0, 0),
  (1112, .invokevirtual 129, 3, 108, 3, 12), (1115, .if_icmp .eq 401, 3, 0, 0, 0), (1120, .aload_n 1, 1, 0, 0, 0), (1121, .aload_n 0, 1, 0, 0, 0),
  (1122, .iload 4, 2, 0, 0, 0), (1124, .iconst 1, 1, 0, 0, 0), (1125, .iadd, 1, 0, 0, 0), (1126, .iaload, 1, 0, 0, 0),
  (1127, .aload_n 0, 1, 0, 0, 0), (1128, .iload 4, 2, 0, 0, 0), (1130, .iconst 2, 1, 0, 0, 0), (1131, .iadd, 1, 0, 0, 0),
  (1132, .iaload, 1, 0, 0, 0), (1133, .invokevirtual 130, 3, 58, 2, 11), (1136, .aload_n 2, 1, 0, 0, 0), (1137, .aload_n 0, 1, 0, 0, 0),
  (1138, .iload 4, 2, 0, 0, 0), (1140, .iconst 1, 1, 0, 0, 0), (1141, .iadd, 1, 0, 0, 0), (1142, .iaload, 1, 0, 0, 0),
  (1143, .aload_n 0, 1, 0, 0, 0), (1144, .iload 4, 2, 0, 0, 0), (1146, .iconst 2, 1, 0, 0, 0), (1147, .iadd, 1, 0, 0, 0),
  (1148, .iaload, 1, 0, 0, 0), (1149, .invokevirtual 133, 3, 109, 2, 12), (1152, .if_icmp .eq 364, 3, 0, 0, 0), (1157, .aload_n 1, 1, 0, 0, 0)]
def op_L_law_11 : List av_Q := [
  (1158, .aload_n 0, 1, 0, 0, 0), (1159, .iload 4, 2, 0, 0, 0), (1161, .iconst 1, 1, 0, 0, 0), (1162, .iadd, 1, 0, 0, 0),
  (1163, .iaload, 1, 0, 0, 0), (1164, .aload_n 0, 1, 0, 0, 0), (1165, .iload 4, 2, 0, 0, 0), (1167, .iconst 2, 1, 0, 0, 0),
  (1168, .iadd, 1, 0, 0, 0), (1169, .iaload, 1, 0, 0, 0), (1170, .invokevirtual 134, 3, 59, 2, 11), (1173, .aload_n 2, 1, 0, 0, 0),
  (1174, .aload_n 0, 1, 0, 0, 0), (1175, .iload 4, 2, 0, 0, 0), (1177, .iconst 1, 1, 0, 0, 0), (1178, .iadd, 1, 0, 0, 0),
  (1179, .iaload, 1, 0, 0, 0), (1180, .aload_n 0, 1, 0, 0, 0), (1181, .iload 4, 2, 0, 0, 0), (1183, .iconst 2, 1, 0, 0, 0),
  (1184, .iadd, 1, 0, 0, 0), (1185, .iaload, 1, 0, 0, 0), (1186, .invokevirtual 137, 3, 110, 2, 12), (1189, .if_icmp .eq 327, 3, 0, 0, 0),
  (1194, .aload_n 1, 1, 0, 0, 0), (1195, .aload_n 0, 1, 0, 0, 0), (1196, .iload 4, 2, 0, 0, 0), (1198, .iconst 1, 1, 0, 0, 0),
  (1199, .iadd, 1, 0, 0, 0), (1200, .iaload, 1, 0, 0, 0), (1201, .invokevirtual 138, 3, 60, 1, 11), (1204, .aload_n 2, 1, 0, 0, 0),
  (1205, .aload_n 0, 1, 0, 0, 0), (1206, .iload 4, 2, 0, 0, 0), (1208, .iconst 1, 1, 0, 0, 0), (1209, .iadd, 1, 0, 0, 0),
  (1210, .iaload, 1, 0, 0, 0), (1211, .invokevirtual 141, 3, 111, 1, 12), (1214, .if_icmp .eq 302, 3, 0, 0, 0), (1219, .aload_n 1, 1, 0, 0, 0),
  (1220, .aload_n 0, 1, 0, 0, 0), (1221, .iload 4, 2, 0, 0, 0), (1223, .iconst 1, 1, 0, 0, 0), (1224, .iadd, 1, 0, 0, 0),
  (1225, .iaload, 1, 0, 0, 0), (1226, .invokevirtual 142, 3, 61, 1, 11), (1229, .aload_n 2, 1, 0, 0, 0), (1230, .aload_n 0, 1, 0, 0, 0),
  (1231, .iload 4, 2, 0, 0, 0), (1233, .iconst 1, 1, 0, 0, 0), (1234, .iadd, 1, 0, 0, 0), (1235, .iaload, 1, 0, 0, 0),
  (1236, .invokevirtual 145, 3, 112, 1, 12), (1239, .if_icmp .eq 277, 3, 0, 0, 0), (1244, .aload_n 1, 1, 0, 0, 0), (1245, .aload_n 0, 1, 0, 0, 0),
  (1246, .iload 4, 2, 0, 0, 0), (1248, .iconst 1, 1, 0, 0, 0), (1249, .iadd, 1, 0, 0, 0), (1250, .iaload, 1, 0, 0, 0)]
def op_L_law_12 : List av_Q := [
  (1251, .aload_n 0, 1, 0, 0, 0), (1252, .iload 4, 2, 0, 0, 0), (1254, .iconst 2, 1, 0, 0, 0), (1255, .iadd, 1, 0, 0, 0),
  (1256, .iaload, 1, 0, 0, 0), (1257, .invokevirtual 146, 3, 62, 2, 11), (1260, .aload_n 2, 1, 0, 0, 0), (1261, .aload_n 0, 1, 0, 0, 0),
  (1262, .iload 4, 2, 0, 0, 0), (1264, .iconst 1, 1, 0, 0, 0), (1265, .iadd, 1, 0, 0, 0), (1266, .iaload, 1, 0, 0, 0),
  (1267, .aload_n 0, 1, 0, 0, 0), (1268, .iload 4, 2, 0, 0, 0), (1270, .iconst 2, 1, 0, 0, 0), (1271, .iadd, 1, 0, 0, 0),
  (1272, .iaload, 1, 0, 0, 0), (1273, .invokevirtual 149, 3, 113, 2, 12), (1276, .if_icmp .eq 240, 3, 0, 0, 0), (1281, .aload_n 1, 1, 0, 0, 0),
  (1282, .aload_n 0, 1, 0, 0, 0), (1283, .iload 4, 2, 0, 0, 0), (1285, .iconst 1, 1, 0, 0, 0), (1286, .iadd, 1, 0, 0, 0),
  (1287, .iaload, 1, 0, 0, 0), (1288, .invokevirtual 150, 3, 63, 1, 11), (1291, .aload_n 2, 1, 0, 0, 0), (1292, .aload_n 0, 1, 0, 0, 0),
  (1293, .iload 4, 2, 0, 0, 0), (1295, .iconst 1, 1, 0, 0, 0), (1296, .iadd, 1, 0, 0, 0), (1297, .iaload, 1, 0, 0, 0),
  (1298, .invokevirtual 153, 3, 114, 1, 12), (1301, .if_icmp .eq 215, 3, 0, 0, 0), (1306, .aload_n 1, 1, 0, 0, 0), (1307, .aload_n 0, 1, 0, 0, 0),
  (1308, .iload 4, 2, 0, 0, 0), (1310, .iconst 1, 1, 0, 0, 0), (1311, .iadd, 1, 0, 0, 0), (1312, .iaload, 1, 0, 0, 0),
  (1313, .aload_n 0, 1, 0, 0, 0), (1314, .iload 4, 2, 0, 0, 0), (1316, .iconst 2, 1, 0, 0, 0), (1317, .iadd, 1, 0, 0, 0),
  (1318, .iaload, 1, 0, 0, 0), (1319, .aload_n 0, 1, 0, 0, 0), (1320, .iload 4, 2, 0, 0, 0), (1322, .iconst 3, 1, 0, 0, 0),
  (1323, .iadd, 1, 0, 0, 0), (1324, .iaload, 1, 0, 0, 0), (1325, .invokevirtual 154, 3, 64, 3, 11), (1328, .aload_n 2, 1, 0, 0, 0),
  (1329, .aload_n 0, 1, 0, 0, 0), (1330, .iload 4, 2, 0, 0, 0), (1332, .iconst 1, 1, 0, 0, 0), (1333, .iadd, 1, 0, 0, 0),
  (1334, .iaload, 1, 0, 0, 0), (1335, .aload_n 0, 1, 0, 0, 0), (1336, .iload 4, 2, 0, 0, 0), (1338, .iconst 2, 1, 0, 0, 0)]
def op_L_law_13 : List av_Q := [
  (1339, .iadd, 1, 0, 0, 0), (1340, .iaload, 1, 0, 0, 0), (1341, .aload_n 0, 1, 0, 0, 0), (1342, .iload 4, 2, 0, 0, 0),
  (1344, .iconst 3, 1, 0, 0, 0), (1345, .iadd, 1, 0, 0, 0), (1346, .iaload, 1, 0, 0, 0), (1347, .invokevirtual 157, 3, 115, 3, 12),
  (1350, .if_icmp .eq 166, 3, 0, 0, 0), (1355, .aload_n 1, 1, 0, 0, 0), (1356, .aload_n 0, 1, 0, 0, 0), (1357, .iload 4, 2, 0, 0, 0),
  (1359, .iconst 1, 1, 0, 0, 0), (1360, .iadd, 1, 0, 0, 0), (1361, .iaload, 1, 0, 0, 0), (1362, .aload_n 0, 1, 0, 0, 0),
  (1363, .iload 4, 2, 0, 0, 0), (1365, .iconst 2, 1, 0, 0, 0), (1366, .iadd, 1, 0, 0, 0), (1367, .iaload, 1, 0, 0, 0),
  (1368, .invokevirtual 158, 3, 65, 2, 11), (1371, .aload_n 2, 1, 0, 0, 0), (1372, .aload_n 0, 1, 0, 0, 0), (1373, .iload 4, 2, 0, 0, 0),
  (1375, .iconst 1, 1, 0, 0, 0), (1376, .iadd, 1, 0, 0, 0), (1377, .iaload, 1, 0, 0, 0), (1378, .aload_n 0, 1, 0, 0, 0),
  (1379, .iload 4, 2, 0, 0, 0), (1381, .iconst 2, 1, 0, 0, 0), (1382, .iadd, 1, 0, 0, 0), (1383, .iaload, 1, 0, 0, 0),
  (1384, .invokevirtual 161, 3, 116, 2, 12), (1387, .if_icmp .eq 129, 3, 0, 0, 0), (1392, .aload_n 1, 1, 0, 0, 0), (1393, .aload_n 0, 1, 0, 0, 0),
  (1394, .iload 4, 2, 0, 0, 0), (1396, .iconst 1, 1, 0, 0, 0), (1397, .iadd, 1, 0, 0, 0), (1398, .iaload, 1, 0, 0, 0),
  (1399, .aload_n 0, 1, 0, 0, 0), (1400, .iload 4, 2, 0, 0, 0), (1402, .iconst 2, 1, 0, 0, 0), (1403, .iadd, 1, 0, 0, 0),
  (1404, .iaload, 1, 0, 0, 0), (1405, .aload_n 0, 1, 0, 0, 0), (1406, .iload 4, 2, 0, 0, 0), (1408, .iconst 3, 1, 0, 0, 0),
  (1409, .iadd, 1, 0, 0, 0), (1410, .iaload, 1, 0, 0, 0), (1411, .aload_n 0, 1, 0, 0, 0), (1412, .iload 4, 2, 0, 0, 0),
  (1414, .iconst 4, 1, 0, 0, 0), (1415, .iadd, 1, 0, 0, 0), (1416, .iaload, 1, 0, 0, 0), (1417, .aload_n 0, 1, 0, 0, 0),
  (1418, .iload 4, 2, 0, 0, 0), (1420, .iconst 5, 1, 0, 0, 0), (1421, .iadd, 1, 0, 0, 0), (1422, .iaload, 1, 0, 0, 0)]
def op_L_law_14 : List av_Q := [
  (1423, .invokevirtual 162, 3, 66, 5, 11), (1426, .aload_n 2, 1, 0, 0, 0), (1427, .aload_n 0, 1, 0, 0, 0), (1428, .iload 4, 2, 0, 0, 0),
  (1430, .iconst 1, 1, 0, 0, 0), (1431, .iadd, 1, 0, 0, 0), (1432, .iaload, 1, 0, 0, 0), (1433, .aload_n 0, 1, 0, 0, 0),
  (1434, .iload 4, 2, 0, 0, 0), (1436, .iconst 2, 1, 0, 0, 0), (1437, .iadd, 1, 0, 0, 0), (1438, .iaload, 1, 0, 0, 0),
  (1439, .aload_n 0, 1, 0, 0, 0), (1440, .iload 4, 2, 0, 0, 0), (1442, .iconst 3, 1, 0, 0, 0), (1443, .iadd, 1, 0, 0, 0),
  (1444, .iaload, 1, 0, 0, 0), (1445, .aload_n 0, 1, 0, 0, 0), (1446, .iload 4, 2, 0, 0, 0), (1448, .iconst 4, 1, 0, 0, 0),
  (1449, .iadd, 1, 0, 0, 0), (1450, .iaload, 1, 0, 0, 0), (1451, .aload_n 0, 1, 0, 0, 0), (1452, .iload 4, 2, 0, 0, 0),
  (1454, .iconst 5, 1, 0, 0, 0), (1455, .iadd, 1, 0, 0, 0), (1456, .iaload, 1, 0, 0, 0), (1457, .invokevirtual 165, 3, 117, 5, 12),
  (1460, .if_icmp .eq 56, 3, 0, 0, 0), (1465, .aload_n 1, 1, 0, 0, 0), (1466, .invokevirtual 166, 3, 67, 0, 11), (1469, .aload_n 2, 1, 0, 0, 0),
  (1470, .invokevirtual 169, 3, 118, 0, 12), (1473, .if_icmp .eq 43, 3, 0, 0, 0), (1478, .aload_n 1, 1, 0, 0, 0), (1479, .invokevirtual 170, 3, 68, 0, 11),
  (1482, .aload_n 2, 1, 0, 0, 0), (1483, .invokevirtual 173, 3, 119, 0, 12), (1486, .if_icmp .eq 30, 3, 0, 0, 0), (1491, .aload_n 1, 1, 0, 0, 0),
  (1492, .aload_n 0, 1, 0, 0, 0), (1493, .iload 4, 2, 0, 0, 0), (1495, .iconst 1, 1, 0, 0, 0), (1496, .iadd, 1, 0, 0, 0),
  (1497, .iaload, 1, 0, 0, 0), (1498, .invokevirtual 174, 3, 69, 1, 11), (1501, .aload_n 2, 1, 0, 0, 0), (1502, .aload_n 0, 1, 0, 0, 0),
  (1503, .iload 4, 2, 0, 0, 0), (1505, .iconst 1, 1, 0, 0, 0), (1506, .iadd, 1, 0, 0, 0), (1507, .iaload, 1, 0, 0, 0),
  (1508, .invokevirtual 177, 3, 120, 1, 12), (1511, .if_icmp .eq 5, 3, 0, 0, 0), (1516, .iinc 4 6, 3, 0, 0, 0), (1519, .goto (-1496), 3, 0, 0, 0),
  (1522, .iconst 1, 1, 0, 0, 0), (1523, .ireturn, 1, 0, 0, 0)]
def op_L_law : List av_Q := op_L_law_0 ++ (op_L_law_1 ++ (op_L_law_2 ++ (op_L_law_3 ++ (op_L_law_4 ++ (op_L_law_5 ++ (op_L_law_6 ++ (op_L_law_7 ++ (op_L_law_8 ++ (op_L_law_9 ++ (op_L_law_10 ++ (op_L_law_11 ++ (op_L_law_12 ++ (op_L_law_13 ++ (op_L_law_14))))))))))))))
def mt_X0_init : av_M := ((RX0, yX0_init, cX0_init, 3, none), op_X0_init, 1, 73, 1, 22)
def mt_X1_init : av_M := ((RX1, yX1_init, cX1_init, 2, none), op_X1_init, 0, 0, 1, 22)
def mt_X1_begin : av_M := ((RX1, yX1_begin, cX1_begin, 3, none), op_X1_begin, 0, 0, 2, 46)
def mt_X1_setCauses : av_M := ((RX1, yX1_setCauses, cX1_setCauses, 3, none), op_X1_setCauses, 0, 0, 1, 24)
def mt_X1_copy : av_M := ((RX1, yX1_copy, cX1_copy, 2, none), op_X1_copy, 0, 0, 0, 0)
def mt_X2_init : av_M := ((RX2, yX2_init, cX2_init, 1, none), op_X2_init, 3, 77, 1, 22)
def mt_X2_forget : av_M := ((RX2, yX2_forget, cX2_forget, 2, none), op_X2_forget, 0, 0, 0, 0)
def mt_X3_init : av_M := ((RX3, yX3_init, cX3_init, 1, none), op_X3_init, 8, 320, 1, 22)
def mt_X3_clear : av_M := ((RX3, yX3_clear, cX3_clear, 1, none), op_X3_clear, 0, 0, 0, 0)
def mt_X3_knownCount : av_M := ((RX3, yX3_knownCount, cX3_knownCount, 1, (some .int)), op_X3_knownCount, 0, 0, 0, 0)
def mt_X4_init : av_M := ((RX4, yX4_init, cX4_init, 2, none), op_X4_init, 23, 248, 3, 63)
def mt_X4_clear : av_M := ((RX4, yX4_clear, cX4_clear, 2, none), op_X4_clear, 0, 0, 2, 42)
def mt_X4_isWork : av_M := ((RX4, yX4_isWork, cX4_isWork, 2, (some .boolean)), op_X4_isWork, 0, 0, 0, 0)
def mt_X4_firmIn : av_M := ((RX4, yX4_firmIn, cX4_firmIn, 2, (some .int)), op_X4_firmIn, 0, 0, 0, 0)
def mt_X4_moreBy : av_M := ((RX4, yX4_moreBy, cX4_moreBy, 5, (some .int)), op_X4_moreBy, 0, 0, 0, 0)
def mt_X5_init : av_M := ((RX5, yX5_init, cX5_init, 3, none), op_X5_init, 4, 122, 5, 110)
def mt_X5_readText : av_M := ((RX5, yX5_readText, cX5_readText, 4, (some .int)), op_X5_readText, 0, 0, 3, 63)
def mt_X6_init : av_M := ((RX6, yX6_init, cX6_init, 6, none), op_X6_init, 1, 34, 4, 85)
def mt_X6_letterBits : av_M := ((RX6, yX6_letterBits, cX6_letterBits, 2, (some .int)), op_X6_letterBits, 0, 0, 0, 0)
def mt_X6_begin : av_M := ((RX6, yX6_begin, cX6_begin, 2, none), op_X6_begin, 0, 0, 1, 21)
def mt_X6_step : av_M := ((RX6, yX6_step, cX6_step, 1, none), op_X6_step, 0, 0, 0, 0)
def mt_X7_init : av_M := ((RX7, yX7_init, cX7_init, 1, none), op_X7_init, 1, 9, 2, 42)
def mt_X7_clear : av_M := ((RX7, yX7_clear, cX7_clear, 2, none), op_X7_clear, 0, 0, 1, 21)
def mt_X7_setHeight : av_M := ((RX7, yX7_setHeight, cX7_setHeight, 2, none), op_X7_setHeight, 0, 0, 0, 0)
def mt_X8_init : av_M := ((RX8, yX8_init, cX8_init, 2, none), op_X8_init, 2, 45, 2, 43)
def mt_X9_init : av_M := ((RX9, yX9_init, cX9_init, 1, none), op_X9_init, 3, 24, 1, 22)
def mt_X10_init : av_M := ((RX10, yX10_init, cX10_init, 3, none), op_X10_init, 22, 380, 2, 43)
def mt_X10_clear : av_M := ((RX10, yX10_clear, cX10_clear, 1, none), op_X10_clear, 0, 0, 0, 0)
def mt_X11_init : av_M := ((RX11, yX11_init, cX11_init, 2, none), op_X11_init, 110, 2623, 6, 132)
def mt_X11_feed : av_M := ((RX11, yX11_feed, cX11_feed, 6, (some .int)), op_X11_feed, 0, 0, 1, 22)
def mt_X11_putOnTape : av_M := ((RX11, yX11_putOnTape, cX11_putOnTape, 3, none), op_X11_putOnTape, 0, 0, 0, 0)
def mt_X11_text : av_M := ((RX11, yX11_text, cX11_text, 3, (some .int)), op_X11_text, 0, 0, 4, 90)
def mt_X11_takeSpare : av_M := ((RX11, yX11_takeSpare, cX11_takeSpare, 3, none), op_X11_takeSpare, 0, 0, 3, 68)
def mt_X11_fault : av_M := ((RX11, yX11_fault, cX11_fault, 2, (some .int)), op_X11_fault, 0, 0, 0, 0)
def mt_X11_named : av_M := ((RX11, yX11_named, cX11_named, 3, (some .int)), op_X11_named, 0, 0, 1, 23)
def mt_X11_placeOf : av_M := ((RX11, yX11_placeOf, cX11_placeOf, 4, (some .int)), op_X11_placeOf, 0, 0, 0, 0)
def mt_X11_isGate : av_M := ((RX11, yX11_isGate, cX11_isGate, 2, (some .boolean)), op_X11_isGate, 0, 0, 0, 0)
def mt_X11_isAhead : av_M := ((RX11, yX11_isAhead, cX11_isAhead, 1, (some .boolean)), op_X11_isAhead, 0, 0, 0, 0)
def mt_X11_isWeek : av_M := ((RX11, yX11_isWeek, cX11_isWeek, 1, (some .boolean)), op_X11_isWeek, 0, 0, 0, 0)
def mt_X11_works : av_M := ((RX11, yX11_works, cX11_works, 3, (some .int)), op_X11_works, 0, 0, 1, 21)
def mt_X11_firm : av_M := ((RX11, yX11_firm, cX11_firm, 2, (some .int)), op_X11_firm, 0, 0, 1, 21)
def mt_X11_weeks : av_M := ((RX11, yX11_weeks, cX11_weeks, 3, (some .int)), op_X11_weeks, 0, 0, 1, 20)
def mt_X11_sags : av_M := ((RX11, yX11_sags, cX11_sags, 4, (some .int)), op_X11_sags, 0, 0, 1, 21)
def mt_X11_latched : av_M := ((RX11, yX11_latched, cX11_latched, 2, (some .int)), op_X11_latched, 0, 0, 1, 21)
def mt_X11_gives : av_M := ((RX11, yX11_gives, cX11_gives, 4, (some .int)), op_X11_gives, 0, 0, 1, 21)
def mt_X11_work : av_M := ((RX11, yX11_work, cX11_work, 4, (some .boolean)), op_X11_work, 0, 0, 1, 21)
def mt_X11_undo : av_M := ((RX11, yX11_undo, cX11_undo, 2, (some .int)), op_X11_undo, 0, 0, 0, 0)
def mt_X11_lasts : av_M := ((RX11, yX11_lasts, cX11_lasts, 4, (some .int)), op_X11_lasts, 0, 0, 1, 21)
def mt_X11_least : av_M := ((RX11, yX11_least, cX11_least, 10, (some .int)), op_X11_least, 0, 0, 1, 21)
def mt_X11_way : av_M := ((RX11, yX11_way, cX11_way, 3, (some .int)), op_X11_way, 0, 0, 1, 21)
def mt_X11_enough : av_M := ((RX11, yX11_enough, cX11_enough, 6, (some .int)), op_X11_enough, 0, 0, 1, 21)
def mt_X11_bears : av_M := ((RX11, yX11_bears, cX11_bears, 9, (some .int)), op_X11_bears, 0, 0, 1, 21)
def mt_X11_knock : av_M := ((RX11, yX11_knock, cX11_knock, 5, (some .long)), op_X11_knock, 0, 0, 1, 21)
def mt_X11_measure : av_M := ((RX11, yX11_measure, cX11_measure, 7, (some .int)), op_X11_measure, 0, 0, 1, 21)
def mt_X11_strike : av_M := ((RX11, yX11_strike, cX11_strike, 2, (some .int)), op_X11_strike, 0, 0, 0, 0)
def mt_X11_known : av_M := ((RX11, yX11_known, cX11_known, 2, (some .boolean)), op_X11_known, 0, 0, 0, 0)
def mt_X11_fits : av_M := ((RX11, yX11_fits, cX11_fits, 2, (some .int)), op_X11_fits, 0, 0, 1, 21)
def mt_X11_odds : av_M := ((RX11, yX11_odds, cX11_odds, 4, (some .int)), op_X11_odds, 0, 0, 1, 21)
def mt_X11_test : av_M := ((RX11, yX11_test, cX11_test, 5, (some .int)), op_X11_test, 0, 0, 1, 21)
def mt_X11_low : av_M := ((RX11, yX11_low, cX11_low, 3, (some .int)), op_X11_low, 0, 0, 1, 21)
def mt_X11_rest : av_M := ((RX11, yX11_rest, cX11_rest, 4, (some .int)), op_X11_rest, 0, 0, 1, 21)
def mt_X11_shuts : av_M := ((RX11, yX11_shuts, cX11_shuts, 4, (some .int)), op_X11_shuts, 0, 0, 1, 21)
def mt_X11_above : av_M := ((RX11, yX11_above, cX11_above, 3, (some .int)), op_X11_above, 0, 0, 1, 21)
def mt_X11_opens : av_M := ((RX11, yX11_opens, cX11_opens, 3, (some .int)), op_X11_opens, 0, 0, 1, 21)
def mt_X11_stand : av_M := ((RX11, yX11_stand, cX11_stand, 7, (some .int)), op_X11_stand, 0, 0, 1, 21)
def mt_X11_first : av_M := ((RX11, yX11_first, cX11_first, 5, (some .int)), op_X11_first, 0, 0, 0, 0)
def mt_X11_wind : av_M := ((RX11, yX11_wind, cX11_wind, 14, (some .int)), op_X11_wind, 0, 0, 1, 21)
def mt_X11_keep : av_M := ((RX11, yX11_keep, cX11_keep, 2, (some .int)), op_X11_keep, 0, 0, 1, 21)
def mt_X11_back : av_M := ((RX11, yX11_back, cX11_back, 2, (some .int)), op_X11_back, 0, 0, 0, 0)
def mt_X11_count : av_M := ((RX11, yX11_count, cX11_count, 2, (some .int)), op_X11_count, 0, 0, 1, 22)
def mt_X11_costOfAllDone : av_M := ((RX11, yX11_costOfAllDone, cX11_costOfAllDone, 3, (some .int)), op_X11_costOfAllDone, 0, 0, 0, 0)
def mt_X12_init : av_M := ((RX12, yX12_init, cX12_init, 1, none), op_X12_init, 37, 2903, 2, 45)
def mt_X12_thrown : av_M := ((RX12, yX12_thrown, cX12_thrown, 1, (some .int)), op_X12_thrown, 0, 0, 0, 0)
def mt_X12_feed : av_M := ((RX12, yX12_feed, cX12_feed, 8, (some .int)), op_X12_feed, 0, 0, 0, 0)
def mt_X12_isIn : av_M := ((RX12, yX12_isIn, cX12_isIn, 3, (some .boolean)), op_X12_isIn, 0, 0, 0, 0)
def mt_X12_token : av_M := ((RX12, yX12_token, cX12_token, 1, none), op_X12_token, 0, 0, 0, 0)
def mt_X12_plain : av_M := ((RX12, yX12_plain, cX12_plain, 2, none), op_X12_plain, 0, 0, 0, 0)
def mt_X12_copies : av_M := ((RX12, yX12_copies, cX12_copies, 3, none), op_X12_copies, 0, 0, 0, 0)
def mt_X12_keepText : av_M := ((RX12, yX12_keepText, cX12_keepText, 2, none), op_X12_keepText, 0, 0, 1, 24)
def mt_X12_find : av_M := ((RX12, yX12_find, cX12_find, 5, (some .int)), op_X12_find, 0, 0, 0, 0)
def mt_X12_text : av_M := ((RX12, yX12_text, cX12_text, 3, (some .int)), op_X12_text, 0, 0, 2, 45)
def mt_X12_fault : av_M := ((RX12, yX12_fault, cX12_fault, 2, (some .int)), op_X12_fault, 0, 0, 0, 0)
def mt_X12_named : av_M := ((RX12, yX12_named, cX12_named, 3, (some .int)), op_X12_named, 0, 0, 1, 24)
def mt_X12_lays : av_M := ((RX12, yX12_lays, cX12_lays, 5, none), op_X12_lays, 0, 0, 0, 0)
def mt_X12_begins : av_M := ((RX12, yX12_begins, cX12_begins, 3, none), op_X12_begins, 0, 0, 0, 0)
def mt_X12_firmOf : av_M := ((RX12, yX12_firmOf, cX12_firmOf, 2, (some .int)), op_X12_firmOf, 0, 0, 0, 0)
def mt_X12_isGate : av_M := ((RX12, yX12_isGate, cX12_isGate, 2, (some .boolean)), op_X12_isGate, 0, 0, 0, 0)
def mt_X12_fails : av_M := ((RX12, yX12_fails, cX12_fails, 2, (some .int)), op_X12_fails, 0, 0, 0, 0)
def mt_X12_look : av_M := ((RX12, yX12_look, cX12_look, 3, (some .int)), op_X12_look, 0, 0, 1, 21)
def mt_X12_works : av_M := ((RX12, yX12_works, cX12_works, 3, (some .int)), op_X12_works, 0, 0, 0, 0)
def mt_X12_firm : av_M := ((RX12, yX12_firm, cX12_firm, 2, (some .int)), op_X12_firm, 0, 0, 1, 22)
def mt_X12_weeks : av_M := ((RX12, yX12_weeks, cX12_weeks, 3, (some .int)), op_X12_weeks, 0, 0, 1, 22)
def mt_X12_sags : av_M := ((RX12, yX12_sags, cX12_sags, 3, (some .int)), op_X12_sags, 0, 0, 1, 21)
def mt_X12_latched : av_M := ((RX12, yX12_latched, cX12_latched, 2, (some .int)), op_X12_latched, 0, 0, 1, 21)
def mt_X12_gives : av_M := ((RX12, yX12_gives, cX12_gives, 4, (some .int)), op_X12_gives, 0, 0, 1, 21)
def mt_X12_work : av_M := ((RX12, yX12_work, cX12_work, 4, (some .boolean)), op_X12_work, 0, 0, 1, 21)
def mt_X12_undo : av_M := ((RX12, yX12_undo, cX12_undo, 1, (some .int)), op_X12_undo, 0, 0, 0, 0)
def mt_X12_lasts : av_M := ((RX12, yX12_lasts, cX12_lasts, 5, (some .int)), op_X12_lasts, 0, 0, 1, 21)
def mt_X12_least : av_M := ((RX12, yX12_least, cX12_least, 8, (some .int)), op_X12_least, 0, 0, 1, 21)
def mt_X12_way : av_M := ((RX12, yX12_way, cX12_way, 4, (some .int)), op_X12_way, 0, 0, 1, 21)
def mt_X12_enough : av_M := ((RX12, yX12_enough, cX12_enough, 5, (some .int)), op_X12_enough, 0, 0, 1, 21)
def mt_X12_bears : av_M := ((RX12, yX12_bears, cX12_bears, 5, (some .int)), op_X12_bears, 0, 0, 1, 21)
def mt_X12_knock : av_M := ((RX12, yX12_knock, cX12_knock, 5, (some .long)), op_X12_knock, 0, 0, 1, 21)
def mt_X12_measure : av_M := ((RX12, yX12_measure, cX12_measure, 6, (some .int)), op_X12_measure, 0, 0, 1, 21)
def mt_X12_strike : av_M := ((RX12, yX12_strike, cX12_strike, 2, (some .int)), op_X12_strike, 0, 0, 0, 0)
def mt_X12_known : av_M := ((RX12, yX12_known, cX12_known, 2, (some .boolean)), op_X12_known, 0, 0, 1, 22)
def mt_X12_knownMany : av_M := ((RX12, yX12_knownMany, cX12_knownMany, 1, (some .int)), op_X12_knownMany, 0, 0, 0, 0)
def mt_X12_fits : av_M := ((RX12, yX12_fits, cX12_fits, 2, (some .int)), op_X12_fits, 0, 0, 1, 21)
def mt_X12_odds : av_M := ((RX12, yX12_odds, cX12_odds, 7, (some .int)), op_X12_odds, 0, 0, 1, 21)
def mt_X12_test : av_M := ((RX12, yX12_test, cX12_test, 9, (some .int)), op_X12_test, 0, 0, 1, 21)
def mt_X12_low : av_M := ((RX12, yX12_low, cX12_low, 3, (some .int)), op_X12_low, 0, 0, 1, 21)
def mt_X12_rest : av_M := ((RX12, yX12_rest, cX12_rest, 4, (some .int)), op_X12_rest, 0, 0, 1, 21)
def mt_X12_shuts : av_M := ((RX12, yX12_shuts, cX12_shuts, 2, (some .int)), op_X12_shuts, 0, 0, 1, 21)
def mt_X12_above : av_M := ((RX12, yX12_above, cX12_above, 3, (some .int)), op_X12_above, 0, 0, 1, 21)
def mt_X12_opens : av_M := ((RX12, yX12_opens, cX12_opens, 2, (some .int)), op_X12_opens, 0, 0, 1, 21)
def mt_X12_stand : av_M := ((RX12, yX12_stand, cX12_stand, 12, (some .int)), op_X12_stand, 0, 0, 1, 21)
def mt_X12_first : av_M := ((RX12, yX12_first, cX12_first, 7, (some .int)), op_X12_first, 0, 0, 0, 0)
def mt_X12_wind : av_M := ((RX12, yX12_wind, cX12_wind, 12, (some .int)), op_X12_wind, 0, 0, 1, 21)
def mt_X12_keep : av_M := ((RX12, yX12_keep, cX12_keep, 2, (some .int)), op_X12_keep, 0, 0, 1, 24)
def mt_X12_back : av_M := ((RX12, yX12_back, cX12_back, 2, (some .int)), op_X12_back, 0, 0, 0, 0)
def mt_X12_count : av_M := ((RX12, yX12_count, cX12_count, 4, (some .int)), op_X12_count, 0, 0, 1, 20)
def mt_J0_length_8abf5 : av_M := ((RJ0, yJ0_length_8abf5, cJ0_length_8abf5, 1, (some .int)), op_J0_length_8abf5, 0, 0, 1, 20)
def mt_J0_charAt_5068e : av_M := ((RJ0, yJ0_charAt_5068e, cJ0_charAt_5068e, 2, (some .char)), op_J0_charAt_5068e, 0, 0, 3, 64)
def mt_J0_coder_7d493 : av_M := ((RJ0, yJ0_coder_7d493, cJ0_coder_7d493, 1, (some .byte)), op_J0_coder_7d493, 0, 0, 0, 0)
def mt_J0_isLatin1_aae02 : av_M := ((RJ0, yJ0_isLatin1_aae02, cJ0_isLatin1_aae02, 1, (some .boolean)), op_J0_isLatin1_aae02, 0, 0, 0, 0)
def mt_J0_checkIndex_df160 : av_M := ((RJ0, yJ0_checkIndex_df160, cJ0_checkIndex_df160, 2, none), op_J0_checkIndex_df160, 0, 0, 1, 22)
def mt_J1_charAt_3b067 : av_M := ((RJ1, yJ1_charAt_3b067, cJ1_charAt_3b067, 2, (some .char)), op_J1_charAt_3b067, 0, 0, 2, 43)
def mt_J3_checkIndex_8e157 : av_M := ((RJ3, yJ3_checkIndex_8e157, cJ3_checkIndex_8e157, 3, (some .int)), op_J3_checkIndex_8e157, 0, 0, 0, 0)
def mt_L_law : av_M := ((RL, yL_law, cL_law, 7, some .boolean), op_L_law, 600002, 7302232, 11, 408)
def mt_none : av_M := (("", ⟨"", "", ""⟩, ⟨#[]⟩, 0, none), [], 0, 0, 0, 0)
def mt_list : List av_M := [mt_X0_init, mt_X1_init, mt_X1_begin, mt_X1_setCauses, mt_X1_copy, mt_X2_init, mt_X2_forget, mt_X3_init, mt_X3_clear, mt_X3_knownCount, mt_X4_init, mt_X4_clear, mt_X4_isWork, mt_X4_firmIn, mt_X4_moreBy, mt_X5_init, mt_X5_readText, mt_X6_init, mt_X6_letterBits, mt_X6_begin, mt_X6_step, mt_X7_init, mt_X7_clear, mt_X7_setHeight, mt_X8_init, mt_X9_init, mt_X10_init, mt_X10_clear, mt_X11_init, mt_X11_feed, mt_X11_putOnTape, mt_X11_text, mt_X11_takeSpare, mt_X11_fault, mt_X11_named, mt_X11_placeOf, mt_X11_isGate, mt_X11_isAhead, mt_X11_isWeek, mt_X11_works, mt_X11_firm, mt_X11_weeks, mt_X11_sags, mt_X11_latched, mt_X11_gives, mt_X11_work, mt_X11_undo, mt_X11_lasts, mt_X11_least, mt_X11_way, mt_X11_enough, mt_X11_bears, mt_X11_knock, mt_X11_measure, mt_X11_strike, mt_X11_known, mt_X11_fits, mt_X11_odds, mt_X11_test, mt_X11_low, mt_X11_rest, mt_X11_shuts, mt_X11_above, mt_X11_opens, mt_X11_stand, mt_X11_first, mt_X11_wind, mt_X11_keep, mt_X11_back, mt_X11_count, mt_X11_costOfAllDone, mt_X12_init, mt_X12_thrown, mt_X12_feed, mt_X12_isIn, mt_X12_token, mt_X12_plain, mt_X12_copies, mt_X12_keepText, mt_X12_find, mt_X12_text, mt_X12_fault, mt_X12_named, mt_X12_lays, mt_X12_begins, mt_X12_firmOf, mt_X12_isGate, mt_X12_fails, mt_X12_look, mt_X12_works, mt_X12_firm, mt_X12_weeks, mt_X12_sags, mt_X12_latched, mt_X12_gives, mt_X12_work, mt_X12_undo, mt_X12_lasts, mt_X12_least, mt_X12_way, mt_X12_enough, mt_X12_bears, mt_X12_knock, mt_X12_measure, mt_X12_strike, mt_X12_known, mt_X12_knownMany, mt_X12_fits, mt_X12_odds, mt_X12_test, mt_X12_low, mt_X12_rest, mt_X12_shuts, mt_X12_above, mt_X12_opens, mt_X12_stand, mt_X12_first, mt_X12_wind, mt_X12_keep, mt_X12_back, mt_X12_count, mt_J0_length_8abf5, mt_J0_charAt_5068e, mt_J0_coder_7d493, mt_J0_isLatin1_aae02, mt_J0_checkIndex_df160, mt_J1_charAt_3b067, mt_J3_checkIndex_8e157, mt_L_law]
def mt_all (j : Nat) : av_M := mt_list.getD j mt_none
def fk_all : av_F := [[4, 4, 0, 0, 0, 2, 2, 4], [4, 0, 0, 0, 0, 0, 0, 0, 0, 0, 0, 0, 0, 0, 0, 0, 0], [4, 4, 4, 0, 2], [4, 4, 4, 4, 4, 4, 4, 4, 0, 0, 0], [4, 4, 0, 0, 4, 4, 4, 4, 4, 0, 4, 4, 4, 4, 0, 4, 4, 4, 4, 0], [4, 4, 4, 2, 0, 0], [4, 4, 0, 0, 0, 0, 0], [0, 0, 0, 0, 0, 0, 0, 0, 0, 0, 0, 0, 0, 0, 0, 0, 4], [4, 4, 0], [4, 4, 4, 0], [4, 4, 0], [4, 0, 4, 4, 4, 4, 4, 4, 0, 4, 0, 4, 4, 4, 4, 4], [4, 0, 0, 4, 0, 0, 0, 0, 0, 0, 0, 0, 0, 0, 0, 0, 0, 0, 0, 0, 2, 4, 4, 4, 4, 4, 4, 4, 4, 4, 4, 4, 4, 4, 4, 4, 4, 0, 0, 0, 0, 2, 2, 0, 4, 4, 4, 4, 2, 4, 0, 4, 0, 0, 4, 4, 4, 4, 4, 4, 4, 4, 4, 4, 4, 4, 2, 0, 4]]
def wd_bytes : List av_V := [av_i (103, 103), av_i (114, 114), av_i (111, 111), av_i (117, 117), av_i (110, 110), av_i (100, 100), av_i (32, 32), av_i (108, 108), av_i (97, 97), av_i (119, 119), av_i (32, 32), av_i (103, 103), av_i (97, 97), av_i (116, 116), av_i (101, 101), av_i (32, 32), av_i (119, 119), av_i (111, 111), av_i (114, 114), av_i (107, 107), av_i (32, 32), av_i (99, 99), av_i (97, 97), av_i (117, 117), av_i (115, 115), av_i (101, 101), av_i (32, 32), av_i (108, 108), av_i (101, 101), av_i (97, 97), av_i (110, 110), av_i (32, 32), av_i (111, 111), av_i (112, 112), av_i (101, 101), av_i (110, 110), av_i (32, 32), av_i (98, 98), av_i (101, 101), av_i (110, 110), av_i (100, 100), av_i (32, 32), av_i (107, 107), av_i (110, 110), av_i (111, 111), av_i (99, 99), av_i (107, 107), av_i (32, 32), av_i (104, 104), av_i (111, 111), av_i (111, 111), av_i (107, 107), av_i (115, 115), av_i (32, 32), av_i (112, 112), av_i (111, 111), av_i (115, 115), av_i (116, 116), av_i (32, 32), av_i (98, 98), av_i (114, 114), av_i (97, 97), av_i (99, 99), av_i (101, 101), av_i (32, 32), av_i (108, 108), av_i (97, 97), av_i (116, 116), av_i (99, 99), av_i (104, 104), av_i (32, 32), av_i (99, 99), av_i (104, 104), av_i (105, 105), av_i (108, 108), av_i (100, 100), av_i (32, 32), av_i (103, 103), av_i (97, 97), av_i (112, 112), av_i (32, 32), av_i (114, 114), av_i (105, 105), av_i (115, 115), av_i (101, 101), av_i (32, 32), av_i (104, 104), av_i (97, 97), av_i (115, 115), av_i (32, 32), av_i (117, 117), av_i (112, 112), av_i (32, 32), av_i (100, 100), av_i (111, 111), av_i (119, 119), av_i (110, 110), av_i (32, 32), av_i (115, 115), av_i (113, 113), av_i (117, 117), av_i (97, 97), av_i (114, 114), av_i (101, 101), av_i (32, 32), av_i (119, 119), av_i (105, 105), av_i (114, 114), av_i (101, 101), av_i (32, 32), av_i (119, 119), av_i (104, 104), av_i (101, 101), av_i (101, 101), av_i (108, 108), av_i (32, 32), av_i (115, 115), av_i (116, 116), av_i (111, 111), av_i (110, 110), av_i (101, 101), av_i (115, 115), av_i (32, 32), av_i (114, 114), av_i (101, 101), av_i (104, 104), av_i (97, 97), av_i (110, 110), av_i (103, 103), av_i (32, 32), av_i (112, 112), av_i (117, 117), av_i (108, 108), av_i (108, 108), av_i (32, 32), av_i (102, 102), av_i (105, 105), av_i (114, 114), av_i (109, 109), av_i (32, 32), av_i (100, 100), av_i (101, 101), av_i (101, 101), av_i (112, 112), av_i (32, 32), av_i (116, 116), av_i (104, 104), av_i (105, 105), av_i (99, 99), av_i (107, 107), av_i (32, 32), av_i (100, 100), av_i (114, 114), av_i (111, 111), av_i (112, 112), av_i (32, 32), av_i (119, 119), av_i (101, 101), av_i (101, 101), av_i (107, 107), av_i (32, 32), av_i (102, 102), av_i (97, 97), av_i (108, 108), av_i (108, 108), av_i (32, 32), av_i (97, 97), av_i (110, 110), av_i (100, 100), av_i (32, 32), av_i (111, 111), av_i (114, 114), av_i (32, 32), av_i (110, 110), av_i (111, 111), av_i (116, 116), av_i (32, 32)]
end
section
/-! ===== the rows' words, by their places in the tables ===== -/
def av_T : List Jvm.Cond := lw_tbl.filter goodWord
theorem av_T_good : GoodIn av_T av_T := fun w hw => ⟨hw, good_of_word (List.mem_filter.mp hw).2⟩
def av_pt (k : Nat) : List Jvm.Cond := match k with
  | 0 => k2_sels lw_privs
  | 1 => tables_1_1
  | 2 => tables_1_2
  | 3 => tables_1_3
  | 4 => tables_1_4
  | 5 => tables_1_5
  | 6 => tables_1_6
  | 7 => tables_1_7
  | 8 => tables_1_8
  | 9 => tables_1_9
  | _ => []
theorem av_pt_in {k : Nat} {w : Jvm.Cond} (h : w ∈ av_pt k) : w ∈ lw_tbl := by
  unfold lw_tbl
  rw [List.mem_append]
  match k, h with
  | 0, h => exact .inl h
  | 1, h => exact .inr (by unfold tables_1; simp only [List.mem_append]; exact .inl h)
  | 2, h => exact .inr (by unfold tables_1; simp only [List.mem_append]; exact .inr (.inl h))
  | 3, h => exact .inr (by unfold tables_1; simp only [List.mem_append]; exact .inr (.inr (.inl h)))
  | 4, h => exact .inr (by unfold tables_1; simp only [List.mem_append]; exact .inr (.inr (.inr (.inl h))))
  | 5, h => exact .inr (by unfold tables_1; simp only [List.mem_append]; exact .inr (.inr (.inr (.inr (.inl h)))))
  | 6, h => exact .inr (by unfold tables_1; simp only [List.mem_append]; exact .inr (.inr (.inr (.inr (.inr (.inl h))))))
  | 7, h => exact .inr (by unfold tables_1; simp only [List.mem_append]; exact .inr (.inr (.inr (.inr (.inr (.inr (.inl h)))))))
  | 8, h => exact .inr (by unfold tables_1; simp only [List.mem_append]; exact .inr (.inr (.inr (.inr (.inr (.inr (.inr (.inl h))))))))
  | 9, h => exact .inr (by unfold tables_1; simp only [List.mem_append]; exact .inr (.inr (.inr (.inr (.inr (.inr (.inr (.inr h))))))))
  | k + 10, h => exact absurd h (by show w ∉ ([] : List Jvm.Cond); exact List.not_mem_nil)
theorem av_pt_T {k i : Nat} {w : Jvm.Cond} (h : (av_pt k)[i]? = some w) (hg : goodWord w = true) : w ∈ av_T := List.mem_filter.mpr ⟨av_pt_in (List.mem_of_getElem? h), hg⟩
def av_in (h : Nat × Nat) (w : Jvm.Cond) : Bool := decide ((av_pt h.1)[h.2]? = some w) && goodWord w
theorem av_in_ok {h : Nat × Nat} {w : Jvm.Cond} (q : av_in h w = true) : w ∈ av_T := by
  simp only [av_in, Bool.and_eq_true, decide_eq_true_eq] at q
  exact av_pt_T q.1 q.2
/-- a callee: how many parameters, and its kind: 0 static, 1 virtual, 2 a constructor -/
abbrev av_J : Type := List (Nat × Nat)
def av_okJ (J : av_J) (mt : Nat → av_M) (j : Nat) : Prop := ∀ np kd, J[j]? = some (np, kd) → av_okM av_T (mt j) ∧ (parseMethodDescriptor (mt j).1.2.1.desc).map (fun d => d.parameters.length) = some np ∧
  (kd = 0 → Jvm.Cond.static (mt j).1.2.1 ∈ av_T) ∧ (kd = 1 → Jvm.Cond.instanceMethod (mt j).1.2.1 ∈ av_T ∧ Jvm.Cond.selects (mt j).1.1 (mt j).1.2.1 (mt j).1.2.1 ∈ av_T) ∧ (kd = 2 → Jvm.Cond.instanceMethod (mt j).1.2.1 ∈ av_T ∧ (mt j).1.2.1.name = "<init>" ∧ (mt j).1.2.2.2.2 = none)
def av_okB (J : av_J) (mt : Nat → av_M) (M : av_M) (q : av_Q) (h : List (Nat × Nat)) : Bool :=
  decide (decode M.1.2.2.1 q.1 = .ok (q.2.1, q.2.2.1)) && (av_lenok q && (match q.2.1 with
    | .ldc i => bif q.2.2.2.1 == 0 then av_in (h.headD (99, 0)) (.constant M.1.1 i (Int32.ofInt q.2.2.2.2.2)) else decide (M.1.1 = RX6) && decide (i = 19)
    | .ldc_w i => av_in (h.headD (99, 0)) (.constant M.1.1 i (Int32.ofInt q.2.2.2.2.2))
    | .ldc2_w i => av_in (h.headD (99, 0)) (.constantLong M.1.1 i (Int64.ofInt q.2.2.2.2.2))
    | .getstatic i => bif q.2.2.2.1 == 0 then av_in (h.headD (99, 0)) (.fieldLink M.1.1 i "java/lang/String" "COMPACT_STRINGS" "Z") else av_in (h.headD (99, 0)) (.fieldLink M.1.1 i "jdk/internal/util/Preconditions" "SIOOBE_FORMATTER" "Ljava/util/function/BiFunction;")
    | .getfield i => bif q.2.2.2.1 == 100 then (bif q.2.2.2.2.1 == 0 then av_in (h.headD (99, 0)) (.fieldLink M.1.1 i "java/lang/String" "value" "[B") else av_in (h.headD (99, 0)) (.fieldLink M.1.1 i "java/lang/String" "coder" "B")) else
        (match vwCl[q.2.2.2.1]? with
        | some r => decide (q.2.2.2.2.1 < r.2.2) && av_in (h.headD (99, 0)) (.fieldLink M.1.1 i (r.2.1 q.2.2.2.2.1).1 (r.2.1 q.2.2.2.2.1).2.1 (r.2.1 q.2.2.2.2.1).2.2.1)
        | none => false)
    | .putfield i => (match vwCl[q.2.2.2.1]? with
        | some r => decide (q.2.2.2.2.1 < r.2.2) && (av_in (h.headD (99, 0)) (.fieldLink M.1.1 i (r.2.1 q.2.2.2.2.1).1 (r.2.1 q.2.2.2.2.1).2.1 (r.2.1 q.2.2.2.2.1).2.2.1) &&
          ((match parseFieldDescriptor (r.2.1 q.2.2.2.2.1).2.2.1 with
            | some ty => av_kd ty == q.2.2.2.2.2.toNat
            | none => false) && (!(r.2.1 q.2.2.2.2.1).2.2.2 || (decide (M.1.2.1.name = "<init>") && decide ((r.2.1 q.2.2.2.2.1).1 = M.1.1)))))
        | none => false)
    | .new i => (match vwCl[q.2.2.2.1]? with
        | some r => av_in (h.getD 0 (99, 0)) (.classLink M.1.1 i r.1) && (av_in (h.getD 1 (99, 0)) (.instantiable r.1 r.2.2) && av_in (h.getD 2 (99, 0)) (.initialized r.1))
        | none => false)
    | .newarray t => av_in (h.headD (99, 0)) (.arrayClass (newarray.typeOf t)) && (av_ak t == q.2.2.2.1)
    | .anewarray i => av_in (h.getD 0 (99, 0)) (.classLink M.1.1 i (av_lst q.2.2.2.1))
    | .iload_n k => decide (k.val < M.1.2.2.2.1)
    | .istore_n k => decide (k.val < M.1.2.2.2.1)
    | .istore k => decide (k < M.1.2.2.2.1)
    | .astore_n k => decide (k.val < M.1.2.2.2.1)
    | .astore k => decide (k < M.1.2.2.2.1)
    | .iinc k _ => decide (k < M.1.2.2.2.1)
    | .invokespecial i => bif q.2.2.2.1 == 9999 then av_in (h.headD (99, 0)) (.methodLink M.1.1 i Lib.objectInit) else
        (match J[q.2.2.2.1]? with
        | some (np, 2) => (np == q.2.2.2.2.1) && (av_in (h.headD (99, 0)) (.methodLink M.1.1 i (mt q.2.2.2.1).1.2.1) || (decide (M.1.1 = RX11) && decide ((i, (mt q.2.2.2.1).1.2.1) ∈ av_nest)))
        | _ => false)
    | .invokestatic i => bif q.2.2.2.1 == 9001 then av_in (h.headD (99, 0)) (.methodLink M.1.1 i Lib.Math.max.name) else bif q.2.2.2.1 == 9002 then av_in (h.headD (99, 0)) (.methodLink M.1.1 i Lib.Math.min.name) else (match J[q.2.2.2.1]? with
        | some (np, 0) => (np == q.2.2.2.2.1) && av_in (h.headD (99, 0)) (.methodLink M.1.1 i (mt q.2.2.2.1).1.2.1)
        | _ => false)
    | .invokevirtual i => (match J[q.2.2.2.1]? with
        | some (np, 1) => (np == q.2.2.2.2.1) && (av_in (h.headD (99, 0)) (.methodLink M.1.1 i (mt q.2.2.2.1).1.2.1) &&
          (match vwCl[q.2.2.2.2.2.toNat]? with
          | some r => decide (r.1 = (mt q.2.2.2.1).1.1)
          | none => (q.2.2.2.2.2.toNat == 100) && decide ((mt q.2.2.2.1).1.1 = "java/lang/String")))
        | _ => false)
    | _ => true))
theorem av_okB_ok {J : av_J} {mt : Nat → av_M} {M : av_M} {q : av_Q} {h : List (Nat × Nat)} (hm : Jvm.Cond.initialized "java/lang/Math" ∈ av_T ∧ (Jvm.Cond.static Lib.Math.max.name ∈ av_T ∧ Jvm.Cond.code Lib.Math.max.name Lib.Math.max.code 2 (some .int) ∈ av_T) ∧ Jvm.Cond.static Lib.Math.min.name ∈ av_T ∧ Jvm.Cond.code Lib.Math.min.name Lib.Math.min.code 2 (some .int) ∈ av_T) (hJ9 : J.length ≤ 9000) (hJ : ∀ j, av_okJ J mt j) (ho1 : Jvm.Cond.instanceMethod Lib.objectInit ∈ av_T) (ho2 : Jvm.Cond.code Lib.objectInit ⟨#[0xb1]⟩ 1 none ∈ av_T) (hb : av_okB J mt M q h = true) : av_ok av_T vwCl mt M q := by
  obtain ⟨pc, ins, len, a, b, z⟩ := q
  unfold av_okB at hb
  simp only [Bool.and_eq_true, decide_eq_true_eq] at hb
  obtain ⟨h1, h2, h3⟩ := hb
  refine ⟨h1, h2, ?_⟩
  cases ins <;> first | exact trivial | skip
  case ldc i =>
    dsimp only at h3 ⊢
    by_cases ha : a = 0
    · subst ha
      exact ⟨fun _ => av_in_ok h3, fun q => absurd rfl q⟩
    · have e : (a == 0) = false := by simpa using ha
      rw [e, cond_false] at h3
      simp only [Bool.and_eq_true, decide_eq_true_eq] at h3
      exact ⟨fun q => absurd q ha, fun _ => h3⟩
  case ldc_w i => exact av_in_ok h3
  case ldc2_w i => exact av_in_ok h3
  case getstatic i =>
    dsimp only at h3 ⊢
    by_cases ha : a = 0
    · subst ha
      exact ⟨fun _ => av_in_ok h3, fun q => absurd rfl q⟩
    · have e : (a == 0) = false := by simpa using ha
      rw [e, cond_false] at h3
      exact ⟨fun q => absurd q ha, fun _ => av_in_ok h3⟩
  case getfield i =>
    dsimp only at h3 ⊢
    by_cases ha : a = 100
    · subst ha
      refine ⟨fun _ => ?_, fun q => absurd rfl q⟩
      rw [show ((100 : Nat) == 100) = true from rfl, cond_true] at h3
      by_cases hb : b = 0
      · subst hb
        exact ⟨fun _ => av_in_ok h3, fun q => absurd rfl q⟩
      · have e : (b == 0) = false := by simpa using hb
        rw [e, cond_false] at h3
        exact ⟨fun q => absurd q hb, fun _ => av_in_ok h3⟩
    · have e : (a == 100) = false := by simpa using ha
      rw [e, cond_false] at h3
      refine ⟨fun q => absurd q ha, fun _ => ?_⟩
      split at h3
      · rename_i r hr
        simp only [Bool.and_eq_true, decide_eq_true_eq] at h3
        exact ⟨r.1, r.2.1, r.2.2, hr, h3.1, av_in_ok h3.2⟩
      · cases h3
  case putfield i =>
    dsimp only at h3 ⊢
    split at h3
    · rename_i r hr
      simp only [Bool.and_eq_true, decide_eq_true_eq] at h3
      obtain ⟨c1, c2, c3, c4⟩ := h3
      split at c3
      · rename_i ty hty
        refine ⟨r.1, r.2.1, r.2.2, ty, hr, c1, av_in_ok c2, hty, by simpa using c3, fun hf => ?_⟩
        rw [hf] at c4
        simpa using c4
      · cases c3
    · cases h3
  case new i =>
    dsimp only at h3 ⊢
    split at h3
    · rename_i r hr
      simp only [Bool.and_eq_true] at h3
      exact ⟨r.1, r.2.1, r.2.2, hr, av_in_ok h3.1, av_in_ok h3.2.1, av_in_ok h3.2.2⟩
    · cases h3
  case newarray t =>
    simp only [Bool.and_eq_true, beq_iff_eq] at h3
    exact ⟨av_in_ok h3.1, h3.2⟩
  case anewarray i => exact av_in_ok h3
  case iload_n k => simpa using h3
  case istore_n k => simpa using h3
  case istore k => simpa using h3
  case astore_n k => simpa using h3
  case astore k => simpa using h3
  case iinc k n => simpa using h3
  case invokespecial i =>
    dsimp only at h3 ⊢
    by_cases ha : a = 9999
    · subst ha
      exact ⟨fun _ => ⟨av_in_ok h3, ho1, ho2⟩, fun q => absurd q (by decide)⟩
    · have e : (a == 9999) = false := by simpa using ha
      rw [e, cond_false] at h3
      refine ⟨fun q => absurd q ha, fun _ => ?_⟩
      split at h3
      · rename_i np hj
        obtain ⟨j1, j2, -, -, j5⟩ := hJ a _ _ hj
        obtain ⟨j6, j7, j8⟩ := j5 rfl
        simp only [Bool.and_eq_true, Bool.or_eq_true, decide_eq_true_eq, beq_iff_eq] at h3
        obtain ⟨rfl, h4⟩ := h3
        refine ⟨j1, j7, j8, j6, j2, ?_⟩
        rcases h4 with h4 | h4
        · exact .inl (av_in_ok h4)
        · exact .inr h4
      · cases h3
  case invokestatic i =>
    obtain ⟨m1, ⟨m2, m3⟩, m4, m5⟩ := hm
    dsimp only at h3 ⊢
    by_cases ha : a = 9001
    · subst ha
      exact ⟨fun _ => ⟨av_in_ok h3, m2, m1, m3⟩, fun q => absurd q (by decide), fun q => absurd q (by decide)⟩
    · have e : (a == 9001) = false := by simpa using ha
      rw [e, cond_false] at h3
      by_cases ha2 : a = 9002
      · subst ha2
        exact ⟨fun q => absurd q (by decide), fun _ => ⟨av_in_ok h3, m4, m1, m5⟩, fun q => absurd q (by decide)⟩
      · have e : (a == 9002) = false := by simpa using ha2
        rw [e, cond_false] at h3
        refine ⟨fun q => absurd q ha, fun q => absurd q ha2, fun _ => ?_⟩
        split at h3
        · rename_i np hj
          obtain ⟨j1, j2, j3, -, -⟩ := hJ a _ _ hj
          simp only [Bool.and_eq_true, beq_iff_eq] at h3
          obtain ⟨rfl, h4⟩ := h3
          exact ⟨j1, j3 rfl, j2, av_in_ok h4⟩
        · cases h3
  case invokevirtual i =>
    dsimp only at h3 ⊢
    split at h3
    · rename_i np hj
      obtain ⟨j1, j2, -, j4, -⟩ := hJ a _ _ hj
      simp only [Bool.and_eq_true, beq_iff_eq] at h3
      obtain ⟨rfl, h4, h5⟩ := h3
      refine ⟨j1, (j4 rfl).1, (j4 rfl).2, j2, av_in_ok h4, ?_⟩
      split at h5
      · rename_i r hr
        have e5 : r.1 = (mt a).1.1 := by simpa using h5
        refine .inr ⟨r.2.1, r.2.2, ?_⟩
        rw [hr, ← e5]
      · simp only [Bool.and_eq_true, decide_eq_true_eq, beq_iff_eq] at h5
        exact .inl h5
    · cases h3
/-- all rows of a method -/
theorem av_zip_ok {J : av_J} {mt : Nat → av_M} {M : av_M} (hm : Jvm.Cond.initialized "java/lang/Math" ∈ av_T ∧ (Jvm.Cond.static Lib.Math.max.name ∈ av_T ∧ Jvm.Cond.code Lib.Math.max.name Lib.Math.max.code 2 (some .int) ∈ av_T) ∧ Jvm.Cond.static Lib.Math.min.name ∈ av_T ∧ Jvm.Cond.code Lib.Math.min.name Lib.Math.min.code 2 (some .int) ∈ av_T) (hJ9 : J.length ≤ 9000) (hJ : ∀ j, av_okJ J mt j) (ho1 : Jvm.Cond.instanceMethod Lib.objectInit ∈ av_T) (ho2 : Jvm.Cond.code Lib.objectInit ⟨#[0xb1]⟩ 1 none ∈ av_T) : ∀ {ops : List av_Q} {hs : List (List (Nat × Nat))}, ops.length = hs.length → (ops.zip hs).all (fun x => av_okB J mt M x.1 x.2) = true → ∀ q ∈ ops, av_ok av_T vwCl mt M q
  | [], _, _, _, q, hq => by cases hq
  | a :: ops, [], hl, _, q, hq => by simp at hl
  | a :: ops, b :: hs, hl, hb, q, hq => by
    simp only [List.zip_cons_cons, List.all_cons, Bool.and_eq_true] at hb
    rcases List.mem_cons.mp hq with rfl | hq
    · exact av_okB_ok hm hJ9 hJ ho1 ho2 hb.1
    · exact av_zip_ok hm hJ9 hJ ho1 ho2 (by simpa using hl) hb.2 q hq
end
section
/-! ===== the methods: their words ===== -/
theorem okm_X0_init : av_okM av_T mt_X0_init := ⟨av_pt_T (k := 2) (i := 101) rfl rfl, rfl, av_in_ok (h := (1, 10)) (by decide +kernel), by decide +kernel, by decide +kernel, by decide +kernel⟩
theorem okj_X0_init : av_okM av_T mt_X0_init ∧ (parseMethodDescriptor mt_X0_init.1.2.1.desc).map (fun d => d.parameters.length) = some 2 ∧ (2 = 0 → Jvm.Cond.static mt_X0_init.1.2.1 ∈ av_T) ∧ (2 = 1 → Jvm.Cond.instanceMethod mt_X0_init.1.2.1 ∈ av_T ∧ Jvm.Cond.selects mt_X0_init.1.1 mt_X0_init.1.2.1 mt_X0_init.1.2.1 ∈ av_T) ∧ (2 = 2 → Jvm.Cond.instanceMethod mt_X0_init.1.2.1 ∈ av_T ∧ mt_X0_init.1.2.1.name = "<init>" ∧ mt_X0_init.1.2.2.2.2 = none) := ⟨okm_X0_init, by decide +kernel, fun q => absurd q (by decide), fun q => absurd q (by decide), fun _ => ⟨av_in_ok (h := (2, 100)) (by decide +kernel), rfl, rfl⟩⟩
theorem okm_X1_init : av_okM av_T mt_X1_init := ⟨av_pt_T (k := 2) (i := 188) rfl rfl, rfl, av_in_ok (h := (1, 13)) (by decide +kernel), by decide +kernel, by decide +kernel, by decide +kernel⟩
theorem okj_X1_init : av_okM av_T mt_X1_init ∧ (parseMethodDescriptor mt_X1_init.1.2.1.desc).map (fun d => d.parameters.length) = some 1 ∧ (2 = 0 → Jvm.Cond.static mt_X1_init.1.2.1 ∈ av_T) ∧ (2 = 1 → Jvm.Cond.instanceMethod mt_X1_init.1.2.1 ∈ av_T ∧ Jvm.Cond.selects mt_X1_init.1.1 mt_X1_init.1.2.1 mt_X1_init.1.2.1 ∈ av_T) ∧ (2 = 2 → Jvm.Cond.instanceMethod mt_X1_init.1.2.1 ∈ av_T ∧ mt_X1_init.1.2.1.name = "<init>" ∧ mt_X1_init.1.2.2.2.2 = none) := ⟨okm_X1_init, by decide +kernel, fun q => absurd q (by decide), fun q => absurd q (by decide), fun _ => ⟨av_in_ok (h := (2, 187)) (by decide +kernel), rfl, rfl⟩⟩
theorem okm_X1_begin : av_okM av_T mt_X1_begin := ⟨av_pt_T (k := 4) (i := 104) rfl rfl, rfl, av_in_ok (h := (1, 13)) (by decide +kernel), by decide +kernel, by decide +kernel, by decide +kernel⟩
theorem okj_X1_begin : av_okM av_T mt_X1_begin ∧ (parseMethodDescriptor mt_X1_begin.1.2.1.desc).map (fun d => d.parameters.length) = some 2 ∧ (1 = 0 → Jvm.Cond.static mt_X1_begin.1.2.1 ∈ av_T) ∧ (1 = 1 → Jvm.Cond.instanceMethod mt_X1_begin.1.2.1 ∈ av_T ∧ Jvm.Cond.selects mt_X1_begin.1.1 mt_X1_begin.1.2.1 mt_X1_begin.1.2.1 ∈ av_T) ∧ (1 = 2 → Jvm.Cond.instanceMethod mt_X1_begin.1.2.1 ∈ av_T ∧ mt_X1_begin.1.2.1.name = "<init>" ∧ mt_X1_begin.1.2.2.2.2 = none) := ⟨okm_X1_begin, by decide +kernel, fun q => absurd q (by decide), fun _ => ⟨av_in_ok (h := (4, 102)) (by decide +kernel), av_in_ok (h := (4, 103)) (by decide +kernel)⟩, fun q => absurd q (by decide)⟩
theorem okm_X1_setCauses : av_okM av_T mt_X1_setCauses := ⟨av_pt_T (k := 4) (i := 108) rfl rfl, rfl, av_in_ok (h := (1, 13)) (by decide +kernel), by decide +kernel, by decide +kernel, by decide +kernel⟩
theorem okj_X1_setCauses : av_okM av_T mt_X1_setCauses ∧ (parseMethodDescriptor mt_X1_setCauses.1.2.1.desc).map (fun d => d.parameters.length) = some 2 ∧ (1 = 0 → Jvm.Cond.static mt_X1_setCauses.1.2.1 ∈ av_T) ∧ (1 = 1 → Jvm.Cond.instanceMethod mt_X1_setCauses.1.2.1 ∈ av_T ∧ Jvm.Cond.selects mt_X1_setCauses.1.1 mt_X1_setCauses.1.2.1 mt_X1_setCauses.1.2.1 ∈ av_T) ∧ (1 = 2 → Jvm.Cond.instanceMethod mt_X1_setCauses.1.2.1 ∈ av_T ∧ mt_X1_setCauses.1.2.1.name = "<init>" ∧ mt_X1_setCauses.1.2.2.2.2 = none) := ⟨okm_X1_setCauses, by decide +kernel, fun q => absurd q (by decide), fun _ => ⟨av_in_ok (h := (4, 106)) (by decide +kernel), av_in_ok (h := (4, 107)) (by decide +kernel)⟩, fun q => absurd q (by decide)⟩
theorem okm_X1_copy : av_okM av_T mt_X1_copy := ⟨av_pt_T (k := 5) (i := 37) rfl rfl, rfl, av_in_ok (h := (1, 13)) (by decide +kernel), by decide +kernel, by decide +kernel, by decide +kernel⟩
theorem okj_X1_copy : av_okM av_T mt_X1_copy ∧ (parseMethodDescriptor mt_X1_copy.1.2.1.desc).map (fun d => d.parameters.length) = some 1 ∧ (1 = 0 → Jvm.Cond.static mt_X1_copy.1.2.1 ∈ av_T) ∧ (1 = 1 → Jvm.Cond.instanceMethod mt_X1_copy.1.2.1 ∈ av_T ∧ Jvm.Cond.selects mt_X1_copy.1.1 mt_X1_copy.1.2.1 mt_X1_copy.1.2.1 ∈ av_T) ∧ (1 = 2 → Jvm.Cond.instanceMethod mt_X1_copy.1.2.1 ∈ av_T ∧ mt_X1_copy.1.2.1.name = "<init>" ∧ mt_X1_copy.1.2.2.2.2 = none) := ⟨okm_X1_copy, by decide +kernel, fun q => absurd q (by decide), fun _ => ⟨av_in_ok (h := (5, 35)) (by decide +kernel), av_in_ok (h := (5, 36)) (by decide +kernel)⟩, fun q => absurd q (by decide)⟩
theorem okm_X2_init : av_okM av_T mt_X2_init := ⟨av_pt_T (k := 2) (i := 154) rfl rfl, rfl, av_in_ok (h := (1, 11)) (by decide +kernel), by decide +kernel, by decide +kernel, by decide +kernel⟩
theorem okj_X2_init : av_okM av_T mt_X2_init ∧ (parseMethodDescriptor mt_X2_init.1.2.1.desc).map (fun d => d.parameters.length) = some 0 ∧ (2 = 0 → Jvm.Cond.static mt_X2_init.1.2.1 ∈ av_T) ∧ (2 = 1 → Jvm.Cond.instanceMethod mt_X2_init.1.2.1 ∈ av_T ∧ Jvm.Cond.selects mt_X2_init.1.1 mt_X2_init.1.2.1 mt_X2_init.1.2.1 ∈ av_T) ∧ (2 = 2 → Jvm.Cond.instanceMethod mt_X2_init.1.2.1 ∈ av_T ∧ mt_X2_init.1.2.1.name = "<init>" ∧ mt_X2_init.1.2.2.2.2 = none) := ⟨okm_X2_init, by decide +kernel, fun q => absurd q (by decide), fun q => absurd q (by decide), fun _ => ⟨av_in_ok (h := (2, 153)) (by decide +kernel), rfl, rfl⟩⟩
theorem okm_X2_forget : av_okM av_T mt_X2_forget := ⟨av_pt_T (k := 4) (i := 100) rfl rfl, rfl, av_in_ok (h := (1, 11)) (by decide +kernel), by decide +kernel, by decide +kernel, by decide +kernel⟩
theorem okj_X2_forget : av_okM av_T mt_X2_forget ∧ (parseMethodDescriptor mt_X2_forget.1.2.1.desc).map (fun d => d.parameters.length) = some 0 ∧ (1 = 0 → Jvm.Cond.static mt_X2_forget.1.2.1 ∈ av_T) ∧ (1 = 1 → Jvm.Cond.instanceMethod mt_X2_forget.1.2.1 ∈ av_T ∧ Jvm.Cond.selects mt_X2_forget.1.1 mt_X2_forget.1.2.1 mt_X2_forget.1.2.1 ∈ av_T) ∧ (1 = 2 → Jvm.Cond.instanceMethod mt_X2_forget.1.2.1 ∈ av_T ∧ mt_X2_forget.1.2.1.name = "<init>" ∧ mt_X2_forget.1.2.2.2.2 = none) := ⟨okm_X2_forget, by decide +kernel, fun q => absurd q (by decide), fun _ => ⟨av_in_ok (h := (4, 98)) (by decide +kernel), av_in_ok (h := (4, 99)) (by decide +kernel)⟩, fun q => absurd q (by decide)⟩
theorem okm_X3_init : av_okM av_T mt_X3_init := ⟨av_pt_T (k := 3) (i := 34) rfl rfl, rfl, av_in_ok (h := (1, 14)) (by decide +kernel), by decide +kernel, by decide +kernel, by decide +kernel⟩
theorem okj_X3_init : av_okM av_T mt_X3_init ∧ (parseMethodDescriptor mt_X3_init.1.2.1.desc).map (fun d => d.parameters.length) = some 0 ∧ (2 = 0 → Jvm.Cond.static mt_X3_init.1.2.1 ∈ av_T) ∧ (2 = 1 → Jvm.Cond.instanceMethod mt_X3_init.1.2.1 ∈ av_T ∧ Jvm.Cond.selects mt_X3_init.1.1 mt_X3_init.1.2.1 mt_X3_init.1.2.1 ∈ av_T) ∧ (2 = 2 → Jvm.Cond.instanceMethod mt_X3_init.1.2.1 ∈ av_T ∧ mt_X3_init.1.2.1.name = "<init>" ∧ mt_X3_init.1.2.2.2.2 = none) := ⟨okm_X3_init, by decide +kernel, fun q => absurd q (by decide), fun q => absurd q (by decide), fun _ => ⟨av_in_ok (h := (3, 33)) (by decide +kernel), rfl, rfl⟩⟩
theorem okm_X3_clear : av_okM av_T mt_X3_clear := ⟨av_pt_T (k := 4) (i := 120) rfl rfl, rfl, av_in_ok (h := (1, 14)) (by decide +kernel), by decide +kernel, by decide +kernel, by decide +kernel⟩
theorem okj_X3_clear : av_okM av_T mt_X3_clear ∧ (parseMethodDescriptor mt_X3_clear.1.2.1.desc).map (fun d => d.parameters.length) = some 0 ∧ (1 = 0 → Jvm.Cond.static mt_X3_clear.1.2.1 ∈ av_T) ∧ (1 = 1 → Jvm.Cond.instanceMethod mt_X3_clear.1.2.1 ∈ av_T ∧ Jvm.Cond.selects mt_X3_clear.1.1 mt_X3_clear.1.2.1 mt_X3_clear.1.2.1 ∈ av_T) ∧ (1 = 2 → Jvm.Cond.instanceMethod mt_X3_clear.1.2.1 ∈ av_T ∧ mt_X3_clear.1.2.1.name = "<init>" ∧ mt_X3_clear.1.2.2.2.2 = none) := ⟨okm_X3_clear, by decide +kernel, fun q => absurd q (by decide), fun _ => ⟨av_in_ok (h := (4, 118)) (by decide +kernel), av_in_ok (h := (4, 119)) (by decide +kernel)⟩, fun q => absurd q (by decide)⟩
theorem okm_X3_knownCount : av_okM av_T mt_X3_knownCount := ⟨av_pt_T (k := 5) (i := 147) rfl rfl, rfl, av_in_ok (h := (1, 14)) (by decide +kernel), by decide +kernel, by decide +kernel, by decide +kernel⟩
theorem okj_X3_knownCount : av_okM av_T mt_X3_knownCount ∧ (parseMethodDescriptor mt_X3_knownCount.1.2.1.desc).map (fun d => d.parameters.length) = some 0 ∧ (1 = 0 → Jvm.Cond.static mt_X3_knownCount.1.2.1 ∈ av_T) ∧ (1 = 1 → Jvm.Cond.instanceMethod mt_X3_knownCount.1.2.1 ∈ av_T ∧ Jvm.Cond.selects mt_X3_knownCount.1.1 mt_X3_knownCount.1.2.1 mt_X3_knownCount.1.2.1 ∈ av_T) ∧ (1 = 2 → Jvm.Cond.instanceMethod mt_X3_knownCount.1.2.1 ∈ av_T ∧ mt_X3_knownCount.1.2.1.name = "<init>" ∧ mt_X3_knownCount.1.2.2.2.2 = none) := ⟨okm_X3_knownCount, by decide +kernel, fun q => absurd q (by decide), fun _ => ⟨av_in_ok (h := (5, 145)) (by decide +kernel), av_in_ok (h := (5, 146)) (by decide +kernel)⟩, fun q => absurd q (by decide)⟩
theorem okm_X4_init : av_okM av_T mt_X4_init := ⟨av_pt_T (k := 1) (i := 37) rfl rfl, rfl, av_in_ok (h := (1, 2)) (by decide +kernel), by decide +kernel, by decide +kernel, by decide +kernel⟩
theorem okj_X4_init : av_okM av_T mt_X4_init ∧ (parseMethodDescriptor mt_X4_init.1.2.1.desc).map (fun d => d.parameters.length) = some 0 ∧ (2 = 0 → Jvm.Cond.static mt_X4_init.1.2.1 ∈ av_T) ∧ (2 = 1 → Jvm.Cond.instanceMethod mt_X4_init.1.2.1 ∈ av_T ∧ Jvm.Cond.selects mt_X4_init.1.1 mt_X4_init.1.2.1 mt_X4_init.1.2.1 ∈ av_T) ∧ (2 = 2 → Jvm.Cond.instanceMethod mt_X4_init.1.2.1 ∈ av_T ∧ mt_X4_init.1.2.1.name = "<init>" ∧ mt_X4_init.1.2.2.2.2 = none) := ⟨okm_X4_init, by decide +kernel, fun q => absurd q (by decide), fun q => absurd q (by decide), fun _ => ⟨av_in_ok (h := (1, 36)) (by decide +kernel), rfl, rfl⟩⟩
theorem okm_X4_clear : av_okM av_T mt_X4_clear := ⟨av_pt_T (k := 1) (i := 146) rfl rfl, rfl, av_in_ok (h := (1, 2)) (by decide +kernel), by decide +kernel, by decide +kernel, by decide +kernel⟩
theorem okj_X4_clear : av_okM av_T mt_X4_clear ∧ (parseMethodDescriptor mt_X4_clear.1.2.1.desc).map (fun d => d.parameters.length) = some 0 ∧ (1 = 0 → Jvm.Cond.static mt_X4_clear.1.2.1 ∈ av_T) ∧ (1 = 1 → Jvm.Cond.instanceMethod mt_X4_clear.1.2.1 ∈ av_T ∧ Jvm.Cond.selects mt_X4_clear.1.1 mt_X4_clear.1.2.1 mt_X4_clear.1.2.1 ∈ av_T) ∧ (1 = 2 → Jvm.Cond.instanceMethod mt_X4_clear.1.2.1 ∈ av_T ∧ mt_X4_clear.1.2.1.name = "<init>" ∧ mt_X4_clear.1.2.2.2.2 = none) := ⟨okm_X4_clear, by decide +kernel, fun q => absurd q (by decide), fun _ => ⟨av_in_ok (h := (1, 144)) (by decide +kernel), av_in_ok (h := (1, 145)) (by decide +kernel)⟩, fun q => absurd q (by decide)⟩
theorem okm_X4_isWork : av_okM av_T mt_X4_isWork := ⟨av_pt_T (k := 4) (i := 137) rfl rfl, rfl, av_in_ok (h := (1, 2)) (by decide +kernel), by decide +kernel, by decide +kernel, by decide +kernel⟩
theorem okj_X4_isWork : av_okM av_T mt_X4_isWork ∧ (parseMethodDescriptor mt_X4_isWork.1.2.1.desc).map (fun d => d.parameters.length) = some 1 ∧ (1 = 0 → Jvm.Cond.static mt_X4_isWork.1.2.1 ∈ av_T) ∧ (1 = 1 → Jvm.Cond.instanceMethod mt_X4_isWork.1.2.1 ∈ av_T ∧ Jvm.Cond.selects mt_X4_isWork.1.1 mt_X4_isWork.1.2.1 mt_X4_isWork.1.2.1 ∈ av_T) ∧ (1 = 2 → Jvm.Cond.instanceMethod mt_X4_isWork.1.2.1 ∈ av_T ∧ mt_X4_isWork.1.2.1.name = "<init>" ∧ mt_X4_isWork.1.2.2.2.2 = none) := ⟨okm_X4_isWork, by decide +kernel, fun q => absurd q (by decide), fun _ => ⟨av_in_ok (h := (4, 135)) (by decide +kernel), av_in_ok (h := (4, 136)) (by decide +kernel)⟩, fun q => absurd q (by decide)⟩
theorem okm_X4_firmIn : av_okM av_T mt_X4_firmIn := ⟨av_pt_T (k := 4) (i := 148) rfl rfl, rfl, av_in_ok (h := (1, 2)) (by decide +kernel), by decide +kernel, by decide +kernel, by decide +kernel⟩
theorem okj_X4_firmIn : av_okM av_T mt_X4_firmIn ∧ (parseMethodDescriptor mt_X4_firmIn.1.2.1.desc).map (fun d => d.parameters.length) = some 1 ∧ (1 = 0 → Jvm.Cond.static mt_X4_firmIn.1.2.1 ∈ av_T) ∧ (1 = 1 → Jvm.Cond.instanceMethod mt_X4_firmIn.1.2.1 ∈ av_T ∧ Jvm.Cond.selects mt_X4_firmIn.1.1 mt_X4_firmIn.1.2.1 mt_X4_firmIn.1.2.1 ∈ av_T) ∧ (1 = 2 → Jvm.Cond.instanceMethod mt_X4_firmIn.1.2.1 ∈ av_T ∧ mt_X4_firmIn.1.2.1.name = "<init>" ∧ mt_X4_firmIn.1.2.2.2.2 = none) := ⟨okm_X4_firmIn, by decide +kernel, fun q => absurd q (by decide), fun _ => ⟨av_in_ok (h := (4, 146)) (by decide +kernel), av_in_ok (h := (4, 147)) (by decide +kernel)⟩, fun q => absurd q (by decide)⟩
theorem okm_X4_moreBy : av_okM av_T mt_X4_moreBy := ⟨av_pt_T (k := 4) (i := 112) rfl rfl, rfl, av_in_ok (h := (1, 2)) (by decide +kernel), by decide +kernel, by decide +kernel, by decide +kernel⟩
theorem okj_X4_moreBy : av_okM av_T mt_X4_moreBy ∧ (parseMethodDescriptor mt_X4_moreBy.1.2.1.desc).map (fun d => d.parameters.length) = some 2 ∧ (1 = 0 → Jvm.Cond.static mt_X4_moreBy.1.2.1 ∈ av_T) ∧ (1 = 1 → Jvm.Cond.instanceMethod mt_X4_moreBy.1.2.1 ∈ av_T ∧ Jvm.Cond.selects mt_X4_moreBy.1.1 mt_X4_moreBy.1.2.1 mt_X4_moreBy.1.2.1 ∈ av_T) ∧ (1 = 2 → Jvm.Cond.instanceMethod mt_X4_moreBy.1.2.1 ∈ av_T ∧ mt_X4_moreBy.1.2.1.name = "<init>" ∧ mt_X4_moreBy.1.2.2.2.2 = none) := ⟨okm_X4_moreBy, by decide +kernel, fun q => absurd q (by decide), fun _ => ⟨av_in_ok (h := (4, 110)) (by decide +kernel), av_in_ok (h := (4, 111)) (by decide +kernel)⟩, fun q => absurd q (by decide)⟩
theorem okm_X5_init : av_okM av_T mt_X5_init := ⟨av_pt_T (k := 2) (i := 10) rfl rfl, rfl, av_in_ok (h := (1, 4)) (by decide +kernel), by decide +kernel, by decide +kernel, by decide +kernel⟩
theorem okj_X5_init : av_okM av_T mt_X5_init ∧ (parseMethodDescriptor mt_X5_init.1.2.1.desc).map (fun d => d.parameters.length) = some 2 ∧ (2 = 0 → Jvm.Cond.static mt_X5_init.1.2.1 ∈ av_T) ∧ (2 = 1 → Jvm.Cond.instanceMethod mt_X5_init.1.2.1 ∈ av_T ∧ Jvm.Cond.selects mt_X5_init.1.1 mt_X5_init.1.2.1 mt_X5_init.1.2.1 ∈ av_T) ∧ (2 = 2 → Jvm.Cond.instanceMethod mt_X5_init.1.2.1 ∈ av_T ∧ mt_X5_init.1.2.1.name = "<init>" ∧ mt_X5_init.1.2.2.2.2 = none) := ⟨okm_X5_init, by decide +kernel, fun q => absurd q (by decide), fun q => absurd q (by decide), fun _ => ⟨av_in_ok (h := (2, 9)) (by decide +kernel), rfl, rfl⟩⟩
theorem okm_X5_readText : av_okM av_T mt_X5_readText := ⟨av_pt_T (k := 3) (i := 177) rfl rfl, rfl, av_in_ok (h := (1, 4)) (by decide +kernel), by decide +kernel, by decide +kernel, by decide +kernel⟩
theorem okj_X5_readText : av_okM av_T mt_X5_readText ∧ (parseMethodDescriptor mt_X5_readText.1.2.1.desc).map (fun d => d.parameters.length) = some 2 ∧ (1 = 0 → Jvm.Cond.static mt_X5_readText.1.2.1 ∈ av_T) ∧ (1 = 1 → Jvm.Cond.instanceMethod mt_X5_readText.1.2.1 ∈ av_T ∧ Jvm.Cond.selects mt_X5_readText.1.1 mt_X5_readText.1.2.1 mt_X5_readText.1.2.1 ∈ av_T) ∧ (1 = 2 → Jvm.Cond.instanceMethod mt_X5_readText.1.2.1 ∈ av_T ∧ mt_X5_readText.1.2.1.name = "<init>" ∧ mt_X5_readText.1.2.2.2.2 = none) := ⟨okm_X5_readText, by decide +kernel, fun q => absurd q (by decide), fun _ => ⟨av_in_ok (h := (3, 175)) (by decide +kernel), av_in_ok (h := (3, 176)) (by decide +kernel)⟩, fun q => absurd q (by decide)⟩
theorem okm_X6_init : av_okM av_T mt_X6_init := ⟨av_pt_T (k := 2) (i := 16) rfl rfl, rfl, av_in_ok (h := (1, 5)) (by decide +kernel), by decide +kernel, by decide +kernel, by decide +kernel⟩
theorem okj_X6_init : av_okM av_T mt_X6_init ∧ (parseMethodDescriptor mt_X6_init.1.2.1.desc).map (fun d => d.parameters.length) = some 1 ∧ (2 = 0 → Jvm.Cond.static mt_X6_init.1.2.1 ∈ av_T) ∧ (2 = 1 → Jvm.Cond.instanceMethod mt_X6_init.1.2.1 ∈ av_T ∧ Jvm.Cond.selects mt_X6_init.1.1 mt_X6_init.1.2.1 mt_X6_init.1.2.1 ∈ av_T) ∧ (2 = 2 → Jvm.Cond.instanceMethod mt_X6_init.1.2.1 ∈ av_T ∧ mt_X6_init.1.2.1.name = "<init>" ∧ mt_X6_init.1.2.2.2.2 = none) := ⟨okm_X6_init, by decide +kernel, fun q => absurd q (by decide), fun q => absurd q (by decide), fun _ => ⟨av_in_ok (h := (2, 15)) (by decide +kernel), rfl, rfl⟩⟩
theorem okm_X6_letterBits : av_okM av_T mt_X6_letterBits := ⟨av_pt_T (k := 2) (i := 69) rfl rfl, rfl, av_in_ok (h := (1, 5)) (by decide +kernel), by decide +kernel, by decide +kernel, by decide +kernel⟩
theorem okj_X6_letterBits : av_okM av_T mt_X6_letterBits ∧ (parseMethodDescriptor mt_X6_letterBits.1.2.1.desc).map (fun d => d.parameters.length) = some 2 ∧ (0 = 0 → Jvm.Cond.static mt_X6_letterBits.1.2.1 ∈ av_T) ∧ (0 = 1 → Jvm.Cond.instanceMethod mt_X6_letterBits.1.2.1 ∈ av_T ∧ Jvm.Cond.selects mt_X6_letterBits.1.1 mt_X6_letterBits.1.2.1 mt_X6_letterBits.1.2.1 ∈ av_T) ∧ (0 = 2 → Jvm.Cond.instanceMethod mt_X6_letterBits.1.2.1 ∈ av_T ∧ mt_X6_letterBits.1.2.1.name = "<init>" ∧ mt_X6_letterBits.1.2.2.2.2 = none) := ⟨okm_X6_letterBits, by decide +kernel, fun _ => av_in_ok (h := (2, 68)) (by decide +kernel), fun q => absurd q (by decide), fun q => absurd q (by decide)⟩
theorem okm_X6_begin : av_okM av_T mt_X6_begin := ⟨av_pt_T (k := 3) (i := 182) rfl rfl, rfl, av_in_ok (h := (1, 5)) (by decide +kernel), by decide +kernel, by decide +kernel, by decide +kernel⟩
theorem okj_X6_begin : av_okM av_T mt_X6_begin ∧ (parseMethodDescriptor mt_X6_begin.1.2.1.desc).map (fun d => d.parameters.length) = some 1 ∧ (1 = 0 → Jvm.Cond.static mt_X6_begin.1.2.1 ∈ av_T) ∧ (1 = 1 → Jvm.Cond.instanceMethod mt_X6_begin.1.2.1 ∈ av_T ∧ Jvm.Cond.selects mt_X6_begin.1.1 mt_X6_begin.1.2.1 mt_X6_begin.1.2.1 ∈ av_T) ∧ (1 = 2 → Jvm.Cond.instanceMethod mt_X6_begin.1.2.1 ∈ av_T ∧ mt_X6_begin.1.2.1.name = "<init>" ∧ mt_X6_begin.1.2.2.2.2 = none) := ⟨okm_X6_begin, by decide +kernel, fun q => absurd q (by decide), fun _ => ⟨av_in_ok (h := (3, 180)) (by decide +kernel), av_in_ok (h := (3, 181)) (by decide +kernel)⟩, fun q => absurd q (by decide)⟩
theorem okm_X6_step : av_okM av_T mt_X6_step := ⟨av_pt_T (k := 3) (i := 192) rfl rfl, rfl, av_in_ok (h := (1, 5)) (by decide +kernel), by decide +kernel, by decide +kernel, by decide +kernel⟩
theorem okj_X6_step : av_okM av_T mt_X6_step ∧ (parseMethodDescriptor mt_X6_step.1.2.1.desc).map (fun d => d.parameters.length) = some 0 ∧ (1 = 0 → Jvm.Cond.static mt_X6_step.1.2.1 ∈ av_T) ∧ (1 = 1 → Jvm.Cond.instanceMethod mt_X6_step.1.2.1 ∈ av_T ∧ Jvm.Cond.selects mt_X6_step.1.1 mt_X6_step.1.2.1 mt_X6_step.1.2.1 ∈ av_T) ∧ (1 = 2 → Jvm.Cond.instanceMethod mt_X6_step.1.2.1 ∈ av_T ∧ mt_X6_step.1.2.1.name = "<init>" ∧ mt_X6_step.1.2.2.2.2 = none) := ⟨okm_X6_step, by decide +kernel, fun q => absurd q (by decide), fun _ => ⟨av_in_ok (h := (3, 190)) (by decide +kernel), av_in_ok (h := (3, 191)) (by decide +kernel)⟩, fun q => absurd q (by decide)⟩
theorem okm_X7_init : av_okM av_T mt_X7_init := ⟨av_pt_T (k := 1) (i := 44) rfl rfl, rfl, av_in_ok (h := (1, 3)) (by decide +kernel), by decide +kernel, by decide +kernel, by decide +kernel⟩
theorem okj_X7_init : av_okM av_T mt_X7_init ∧ (parseMethodDescriptor mt_X7_init.1.2.1.desc).map (fun d => d.parameters.length) = some 0 ∧ (2 = 0 → Jvm.Cond.static mt_X7_init.1.2.1 ∈ av_T) ∧ (2 = 1 → Jvm.Cond.instanceMethod mt_X7_init.1.2.1 ∈ av_T ∧ Jvm.Cond.selects mt_X7_init.1.1 mt_X7_init.1.2.1 mt_X7_init.1.2.1 ∈ av_T) ∧ (2 = 2 → Jvm.Cond.instanceMethod mt_X7_init.1.2.1 ∈ av_T ∧ mt_X7_init.1.2.1.name = "<init>" ∧ mt_X7_init.1.2.2.2.2 = none) := ⟨okm_X7_init, by decide +kernel, fun q => absurd q (by decide), fun q => absurd q (by decide), fun _ => ⟨av_in_ok (h := (1, 43)) (by decide +kernel), rfl, rfl⟩⟩
theorem okm_X7_clear : av_okM av_T mt_X7_clear := ⟨av_pt_T (k := 1) (i := 49) rfl rfl, rfl, av_in_ok (h := (1, 3)) (by decide +kernel), by decide +kernel, by decide +kernel, by decide +kernel⟩
theorem okj_X7_clear : av_okM av_T mt_X7_clear ∧ (parseMethodDescriptor mt_X7_clear.1.2.1.desc).map (fun d => d.parameters.length) = some 0 ∧ (1 = 0 → Jvm.Cond.static mt_X7_clear.1.2.1 ∈ av_T) ∧ (1 = 1 → Jvm.Cond.instanceMethod mt_X7_clear.1.2.1 ∈ av_T ∧ Jvm.Cond.selects mt_X7_clear.1.1 mt_X7_clear.1.2.1 mt_X7_clear.1.2.1 ∈ av_T) ∧ (1 = 2 → Jvm.Cond.instanceMethod mt_X7_clear.1.2.1 ∈ av_T ∧ mt_X7_clear.1.2.1.name = "<init>" ∧ mt_X7_clear.1.2.2.2.2 = none) := ⟨okm_X7_clear, by decide +kernel, fun q => absurd q (by decide), fun _ => ⟨av_in_ok (h := (1, 47)) (by decide +kernel), av_in_ok (h := (1, 48)) (by decide +kernel)⟩, fun q => absurd q (by decide)⟩
theorem okm_X7_setHeight : av_okM av_T mt_X7_setHeight := ⟨av_pt_T (k := 1) (i := 53) rfl rfl, rfl, av_in_ok (h := (1, 3)) (by decide +kernel), by decide +kernel, by decide +kernel, by decide +kernel⟩
theorem okj_X7_setHeight : av_okM av_T mt_X7_setHeight ∧ (parseMethodDescriptor mt_X7_setHeight.1.2.1.desc).map (fun d => d.parameters.length) = some 1 ∧ (1 = 0 → Jvm.Cond.static mt_X7_setHeight.1.2.1 ∈ av_T) ∧ (1 = 1 → Jvm.Cond.instanceMethod mt_X7_setHeight.1.2.1 ∈ av_T ∧ Jvm.Cond.selects mt_X7_setHeight.1.1 mt_X7_setHeight.1.2.1 mt_X7_setHeight.1.2.1 ∈ av_T) ∧ (1 = 2 → Jvm.Cond.instanceMethod mt_X7_setHeight.1.2.1 ∈ av_T ∧ mt_X7_setHeight.1.2.1.name = "<init>" ∧ mt_X7_setHeight.1.2.2.2.2 = none) := ⟨okm_X7_setHeight, by decide +kernel, fun q => absurd q (by decide), fun _ => ⟨av_in_ok (h := (1, 51)) (by decide +kernel), av_in_ok (h := (1, 52)) (by decide +kernel)⟩, fun q => absurd q (by decide)⟩
theorem okm_X8_init : av_okM av_T mt_X8_init := ⟨av_pt_T (k := 3) (i := 77) rfl rfl, rfl, av_in_ok (h := (1, 15)) (by decide +kernel), by decide +kernel, by decide +kernel, by decide +kernel⟩
theorem okj_X8_init : av_okM av_T mt_X8_init ∧ (parseMethodDescriptor mt_X8_init.1.2.1.desc).map (fun d => d.parameters.length) = some 1 ∧ (2 = 0 → Jvm.Cond.static mt_X8_init.1.2.1 ∈ av_T) ∧ (2 = 1 → Jvm.Cond.instanceMethod mt_X8_init.1.2.1 ∈ av_T ∧ Jvm.Cond.selects mt_X8_init.1.1 mt_X8_init.1.2.1 mt_X8_init.1.2.1 ∈ av_T) ∧ (2 = 2 → Jvm.Cond.instanceMethod mt_X8_init.1.2.1 ∈ av_T ∧ mt_X8_init.1.2.1.name = "<init>" ∧ mt_X8_init.1.2.2.2.2 = none) := ⟨okm_X8_init, by decide +kernel, fun q => absurd q (by decide), fun q => absurd q (by decide), fun _ => ⟨av_in_ok (h := (3, 76)) (by decide +kernel), rfl, rfl⟩⟩
theorem okm_X9_init : av_okM av_T mt_X9_init := ⟨av_pt_T (k := 3) (i := 97) rfl rfl, rfl, av_in_ok (h := (1, 16)) (by decide +kernel), by decide +kernel, by decide +kernel, by decide +kernel⟩
theorem okj_X9_init : av_okM av_T mt_X9_init ∧ (parseMethodDescriptor mt_X9_init.1.2.1.desc).map (fun d => d.parameters.length) = some 0 ∧ (2 = 0 → Jvm.Cond.static mt_X9_init.1.2.1 ∈ av_T) ∧ (2 = 1 → Jvm.Cond.instanceMethod mt_X9_init.1.2.1 ∈ av_T ∧ Jvm.Cond.selects mt_X9_init.1.1 mt_X9_init.1.2.1 mt_X9_init.1.2.1 ∈ av_T) ∧ (2 = 2 → Jvm.Cond.instanceMethod mt_X9_init.1.2.1 ∈ av_T ∧ mt_X9_init.1.2.1.name = "<init>" ∧ mt_X9_init.1.2.2.2.2 = none) := ⟨okm_X9_init, by decide +kernel, fun q => absurd q (by decide), fun q => absurd q (by decide), fun _ => ⟨av_in_ok (h := (3, 96)) (by decide +kernel), rfl, rfl⟩⟩
theorem okm_X10_init : av_okM av_T mt_X10_init := ⟨av_pt_T (k := 2) (i := 182) rfl rfl, rfl, av_in_ok (h := (1, 12)) (by decide +kernel), by decide +kernel, by decide +kernel, by decide +kernel⟩
theorem okj_X10_init : av_okM av_T mt_X10_init ∧ (parseMethodDescriptor mt_X10_init.1.2.1.desc).map (fun d => d.parameters.length) = some 1 ∧ (2 = 0 → Jvm.Cond.static mt_X10_init.1.2.1 ∈ av_T) ∧ (2 = 1 → Jvm.Cond.instanceMethod mt_X10_init.1.2.1 ∈ av_T ∧ Jvm.Cond.selects mt_X10_init.1.1 mt_X10_init.1.2.1 mt_X10_init.1.2.1 ∈ av_T) ∧ (2 = 2 → Jvm.Cond.instanceMethod mt_X10_init.1.2.1 ∈ av_T ∧ mt_X10_init.1.2.1.name = "<init>" ∧ mt_X10_init.1.2.2.2.2 = none) := ⟨okm_X10_init, by decide +kernel, fun q => absurd q (by decide), fun q => absurd q (by decide), fun _ => ⟨av_in_ok (h := (2, 181)) (by decide +kernel), rfl, rfl⟩⟩
theorem okm_X10_clear : av_okM av_T mt_X10_clear := ⟨av_pt_T (k := 4) (i := 116) rfl rfl, rfl, av_in_ok (h := (1, 12)) (by decide +kernel), by decide +kernel, by decide +kernel, by decide +kernel⟩
theorem okj_X10_clear : av_okM av_T mt_X10_clear ∧ (parseMethodDescriptor mt_X10_clear.1.2.1.desc).map (fun d => d.parameters.length) = some 0 ∧ (1 = 0 → Jvm.Cond.static mt_X10_clear.1.2.1 ∈ av_T) ∧ (1 = 1 → Jvm.Cond.instanceMethod mt_X10_clear.1.2.1 ∈ av_T ∧ Jvm.Cond.selects mt_X10_clear.1.1 mt_X10_clear.1.2.1 mt_X10_clear.1.2.1 ∈ av_T) ∧ (1 = 2 → Jvm.Cond.instanceMethod mt_X10_clear.1.2.1 ∈ av_T ∧ mt_X10_clear.1.2.1.name = "<init>" ∧ mt_X10_clear.1.2.2.2.2 = none) := ⟨okm_X10_clear, by decide +kernel, fun q => absurd q (by decide), fun _ => ⟨av_in_ok (h := (4, 114)) (by decide +kernel), av_in_ok (h := (4, 115)) (by decide +kernel)⟩, fun q => absurd q (by decide)⟩
theorem okm_X11_init : av_okM av_T mt_X11_init := ⟨av_pt_T (k := 1) (i := 29) rfl rfl, rfl, av_in_ok (h := (1, 1)) (by decide +kernel), by decide +kernel, by decide +kernel, by decide +kernel⟩
theorem okj_X11_init : av_okM av_T mt_X11_init ∧ (parseMethodDescriptor mt_X11_init.1.2.1.desc).map (fun d => d.parameters.length) = some 0 ∧ (2 = 0 → Jvm.Cond.static mt_X11_init.1.2.1 ∈ av_T) ∧ (2 = 1 → Jvm.Cond.instanceMethod mt_X11_init.1.2.1 ∈ av_T ∧ Jvm.Cond.selects mt_X11_init.1.1 mt_X11_init.1.2.1 mt_X11_init.1.2.1 ∈ av_T) ∧ (2 = 2 → Jvm.Cond.instanceMethod mt_X11_init.1.2.1 ∈ av_T ∧ mt_X11_init.1.2.1.name = "<init>" ∧ mt_X11_init.1.2.2.2.2 = none) := ⟨okm_X11_init, by decide +kernel, fun q => absurd q (by decide), fun q => absurd q (by decide), fun _ => ⟨av_in_ok (h := (1, 28)) (by decide +kernel), rfl, rfl⟩⟩
theorem okm_X11_feed : av_okM av_T mt_X11_feed := ⟨av_pt_T (k := 3) (i := 165) rfl rfl, rfl, av_in_ok (h := (1, 1)) (by decide +kernel), by decide +kernel, by decide +kernel, by decide +kernel⟩
theorem okj_X11_feed : av_okM av_T mt_X11_feed ∧ (parseMethodDescriptor mt_X11_feed.1.2.1.desc).map (fun d => d.parameters.length) = some 5 ∧ (1 = 0 → Jvm.Cond.static mt_X11_feed.1.2.1 ∈ av_T) ∧ (1 = 1 → Jvm.Cond.instanceMethod mt_X11_feed.1.2.1 ∈ av_T ∧ Jvm.Cond.selects mt_X11_feed.1.1 mt_X11_feed.1.2.1 mt_X11_feed.1.2.1 ∈ av_T) ∧ (1 = 2 → Jvm.Cond.instanceMethod mt_X11_feed.1.2.1 ∈ av_T ∧ mt_X11_feed.1.2.1.name = "<init>" ∧ mt_X11_feed.1.2.2.2.2 = none) := ⟨okm_X11_feed, by decide +kernel, fun q => absurd q (by decide), fun _ => ⟨av_in_ok (h := (3, 163)) (by decide +kernel), av_in_ok (h := (3, 164)) (by decide +kernel)⟩, fun q => absurd q (by decide)⟩
theorem okm_X11_putOnTape : av_okM av_T mt_X11_putOnTape := ⟨av_pt_T (k := 3) (i := 169) rfl rfl, rfl, av_in_ok (h := (1, 1)) (by decide +kernel), by decide +kernel, by decide +kernel, by decide +kernel⟩
theorem okj_X11_putOnTape : av_okM av_T mt_X11_putOnTape ∧ (parseMethodDescriptor mt_X11_putOnTape.1.2.1.desc).map (fun d => d.parameters.length) = some 1 ∧ (1 = 0 → Jvm.Cond.static mt_X11_putOnTape.1.2.1 ∈ av_T) ∧ (1 = 1 → Jvm.Cond.instanceMethod mt_X11_putOnTape.1.2.1 ∈ av_T ∧ Jvm.Cond.selects mt_X11_putOnTape.1.1 mt_X11_putOnTape.1.2.1 mt_X11_putOnTape.1.2.1 ∈ av_T) ∧ (1 = 2 → Jvm.Cond.instanceMethod mt_X11_putOnTape.1.2.1 ∈ av_T ∧ mt_X11_putOnTape.1.2.1.name = "<init>" ∧ mt_X11_putOnTape.1.2.2.2.2 = none) := ⟨okm_X11_putOnTape, by decide +kernel, fun q => absurd q (by decide), fun _ => ⟨av_in_ok (h := (3, 168)) (by decide +kernel), av_in_ok (h := (0, 0)) (by decide +kernel)⟩, fun q => absurd q (by decide)⟩
theorem okm_X11_text : av_okM av_T mt_X11_text := ⟨av_pt_T (k := 3) (i := 173) rfl rfl, rfl, av_in_ok (h := (1, 1)) (by decide +kernel), by decide +kernel, by decide +kernel, by decide +kernel⟩
theorem okj_X11_text : av_okM av_T mt_X11_text ∧ (parseMethodDescriptor mt_X11_text.1.2.1.desc).map (fun d => d.parameters.length) = some 1 ∧ (1 = 0 → Jvm.Cond.static mt_X11_text.1.2.1 ∈ av_T) ∧ (1 = 1 → Jvm.Cond.instanceMethod mt_X11_text.1.2.1 ∈ av_T ∧ Jvm.Cond.selects mt_X11_text.1.1 mt_X11_text.1.2.1 mt_X11_text.1.2.1 ∈ av_T) ∧ (1 = 2 → Jvm.Cond.instanceMethod mt_X11_text.1.2.1 ∈ av_T ∧ mt_X11_text.1.2.1.name = "<init>" ∧ mt_X11_text.1.2.2.2.2 = none) := ⟨okm_X11_text, by decide +kernel, fun q => absurd q (by decide), fun _ => ⟨av_in_ok (h := (3, 171)) (by decide +kernel), av_in_ok (h := (3, 172)) (by decide +kernel)⟩, fun q => absurd q (by decide)⟩
theorem okm_X11_takeSpare : av_okM av_T mt_X11_takeSpare := ⟨av_pt_T (k := 4) (i := 96) rfl rfl, rfl, av_in_ok (h := (1, 1)) (by decide +kernel), by decide +kernel, by decide +kernel, by decide +kernel⟩
theorem okj_X11_takeSpare : av_okM av_T mt_X11_takeSpare ∧ (parseMethodDescriptor mt_X11_takeSpare.1.2.1.desc).map (fun d => d.parameters.length) = some 0 ∧ (1 = 0 → Jvm.Cond.static mt_X11_takeSpare.1.2.1 ∈ av_T) ∧ (1 = 1 → Jvm.Cond.instanceMethod mt_X11_takeSpare.1.2.1 ∈ av_T ∧ Jvm.Cond.selects mt_X11_takeSpare.1.1 mt_X11_takeSpare.1.2.1 mt_X11_takeSpare.1.2.1 ∈ av_T) ∧ (1 = 2 → Jvm.Cond.instanceMethod mt_X11_takeSpare.1.2.1 ∈ av_T ∧ mt_X11_takeSpare.1.2.1.name = "<init>" ∧ mt_X11_takeSpare.1.2.2.2.2 = none) := ⟨okm_X11_takeSpare, by decide +kernel, fun q => absurd q (by decide), fun _ => ⟨av_in_ok (h := (4, 95)) (by decide +kernel), av_in_ok (h := (0, 26)) (by decide +kernel)⟩, fun q => absurd q (by decide)⟩
theorem okm_X11_fault : av_okM av_T mt_X11_fault := ⟨av_pt_T (k := 4) (i := 124) rfl rfl, rfl, av_in_ok (h := (1, 1)) (by decide +kernel), by decide +kernel, by decide +kernel, by decide +kernel⟩
theorem okj_X11_fault : av_okM av_T mt_X11_fault ∧ (parseMethodDescriptor mt_X11_fault.1.2.1.desc).map (fun d => d.parameters.length) = some 1 ∧ (1 = 0 → Jvm.Cond.static mt_X11_fault.1.2.1 ∈ av_T) ∧ (1 = 1 → Jvm.Cond.instanceMethod mt_X11_fault.1.2.1 ∈ av_T ∧ Jvm.Cond.selects mt_X11_fault.1.1 mt_X11_fault.1.2.1 mt_X11_fault.1.2.1 ∈ av_T) ∧ (1 = 2 → Jvm.Cond.instanceMethod mt_X11_fault.1.2.1 ∈ av_T ∧ mt_X11_fault.1.2.1.name = "<init>" ∧ mt_X11_fault.1.2.2.2.2 = none) := ⟨okm_X11_fault, by decide +kernel, fun q => absurd q (by decide), fun _ => ⟨av_in_ok (h := (4, 122)) (by decide +kernel), av_in_ok (h := (4, 123)) (by decide +kernel)⟩, fun q => absurd q (by decide)⟩
theorem okm_X11_named : av_okM av_T mt_X11_named := ⟨av_pt_T (k := 4) (i := 128) rfl rfl, rfl, av_in_ok (h := (1, 1)) (by decide +kernel), by decide +kernel, by decide +kernel, by decide +kernel⟩
theorem okj_X11_named : av_okM av_T mt_X11_named ∧ (parseMethodDescriptor mt_X11_named.1.2.1.desc).map (fun d => d.parameters.length) = some 2 ∧ (1 = 0 → Jvm.Cond.static mt_X11_named.1.2.1 ∈ av_T) ∧ (1 = 1 → Jvm.Cond.instanceMethod mt_X11_named.1.2.1 ∈ av_T ∧ Jvm.Cond.selects mt_X11_named.1.1 mt_X11_named.1.2.1 mt_X11_named.1.2.1 ∈ av_T) ∧ (1 = 2 → Jvm.Cond.instanceMethod mt_X11_named.1.2.1 ∈ av_T ∧ mt_X11_named.1.2.1.name = "<init>" ∧ mt_X11_named.1.2.2.2.2 = none) := ⟨okm_X11_named, by decide +kernel, fun q => absurd q (by decide), fun _ => ⟨av_in_ok (h := (4, 126)) (by decide +kernel), av_in_ok (h := (4, 127)) (by decide +kernel)⟩, fun q => absurd q (by decide)⟩
theorem okm_X11_placeOf : av_okM av_T mt_X11_placeOf := ⟨av_pt_T (k := 4) (i := 61) rfl rfl, rfl, av_in_ok (h := (1, 1)) (by decide +kernel), by decide +kernel, by decide +kernel, by decide +kernel⟩
theorem okj_X11_placeOf : av_okM av_T mt_X11_placeOf ∧ (parseMethodDescriptor mt_X11_placeOf.1.2.1.desc).map (fun d => d.parameters.length) = some 3 ∧ (0 = 0 → Jvm.Cond.static mt_X11_placeOf.1.2.1 ∈ av_T) ∧ (0 = 1 → Jvm.Cond.instanceMethod mt_X11_placeOf.1.2.1 ∈ av_T ∧ Jvm.Cond.selects mt_X11_placeOf.1.1 mt_X11_placeOf.1.2.1 mt_X11_placeOf.1.2.1 ∈ av_T) ∧ (0 = 2 → Jvm.Cond.instanceMethod mt_X11_placeOf.1.2.1 ∈ av_T ∧ mt_X11_placeOf.1.2.1.name = "<init>" ∧ mt_X11_placeOf.1.2.2.2.2 = none) := ⟨okm_X11_placeOf, by decide +kernel, fun _ => av_in_ok (h := (4, 60)) (by decide +kernel), fun q => absurd q (by decide), fun q => absurd q (by decide)⟩
theorem okm_X11_isGate : av_okM av_T mt_X11_isGate := ⟨av_pt_T (k := 5) (i := 3) rfl rfl, rfl, av_in_ok (h := (1, 1)) (by decide +kernel), by decide +kernel, by decide +kernel, by decide +kernel⟩
theorem okj_X11_isGate : av_okM av_T mt_X11_isGate ∧ (parseMethodDescriptor mt_X11_isGate.1.2.1.desc).map (fun d => d.parameters.length) = some 1 ∧ (1 = 0 → Jvm.Cond.static mt_X11_isGate.1.2.1 ∈ av_T) ∧ (1 = 1 → Jvm.Cond.instanceMethod mt_X11_isGate.1.2.1 ∈ av_T ∧ Jvm.Cond.selects mt_X11_isGate.1.1 mt_X11_isGate.1.2.1 mt_X11_isGate.1.2.1 ∈ av_T) ∧ (1 = 2 → Jvm.Cond.instanceMethod mt_X11_isGate.1.2.1 ∈ av_T ∧ mt_X11_isGate.1.2.1.name = "<init>" ∧ mt_X11_isGate.1.2.2.2.2 = none) := ⟨okm_X11_isGate, by decide +kernel, fun q => absurd q (by decide), fun _ => ⟨av_in_ok (h := (5, 2)) (by decide +kernel), av_in_ok (h := (0, 34)) (by decide +kernel)⟩, fun q => absurd q (by decide)⟩
theorem okm_X11_isAhead : av_okM av_T mt_X11_isAhead := ⟨av_pt_T (k := 4) (i := 155) rfl rfl, rfl, av_in_ok (h := (1, 1)) (by decide +kernel), by decide +kernel, by decide +kernel, by decide +kernel⟩
theorem okj_X11_isAhead : av_okM av_T mt_X11_isAhead ∧ (parseMethodDescriptor mt_X11_isAhead.1.2.1.desc).map (fun d => d.parameters.length) = some 1 ∧ (0 = 0 → Jvm.Cond.static mt_X11_isAhead.1.2.1 ∈ av_T) ∧ (0 = 1 → Jvm.Cond.instanceMethod mt_X11_isAhead.1.2.1 ∈ av_T ∧ Jvm.Cond.selects mt_X11_isAhead.1.1 mt_X11_isAhead.1.2.1 mt_X11_isAhead.1.2.1 ∈ av_T) ∧ (0 = 2 → Jvm.Cond.instanceMethod mt_X11_isAhead.1.2.1 ∈ av_T ∧ mt_X11_isAhead.1.2.1.name = "<init>" ∧ mt_X11_isAhead.1.2.2.2.2 = none) := ⟨okm_X11_isAhead, by decide +kernel, fun _ => av_in_ok (h := (4, 154)) (by decide +kernel), fun q => absurd q (by decide), fun q => absurd q (by decide)⟩
theorem okm_X11_isWeek : av_okM av_T mt_X11_isWeek := ⟨av_pt_T (k := 4) (i := 144) rfl rfl, rfl, av_in_ok (h := (1, 1)) (by decide +kernel), by decide +kernel, by decide +kernel, by decide +kernel⟩
theorem okj_X11_isWeek : av_okM av_T mt_X11_isWeek ∧ (parseMethodDescriptor mt_X11_isWeek.1.2.1.desc).map (fun d => d.parameters.length) = some 1 ∧ (0 = 0 → Jvm.Cond.static mt_X11_isWeek.1.2.1 ∈ av_T) ∧ (0 = 1 → Jvm.Cond.instanceMethod mt_X11_isWeek.1.2.1 ∈ av_T ∧ Jvm.Cond.selects mt_X11_isWeek.1.1 mt_X11_isWeek.1.2.1 mt_X11_isWeek.1.2.1 ∈ av_T) ∧ (0 = 2 → Jvm.Cond.instanceMethod mt_X11_isWeek.1.2.1 ∈ av_T ∧ mt_X11_isWeek.1.2.1.name = "<init>" ∧ mt_X11_isWeek.1.2.2.2.2 = none) := ⟨okm_X11_isWeek, by decide +kernel, fun _ => av_in_ok (h := (4, 143)) (by decide +kernel), fun q => absurd q (by decide), fun q => absurd q (by decide)⟩
theorem okm_X11_works : av_okM av_T mt_X11_works := ⟨av_pt_T (k := 4) (i := 133) rfl rfl, rfl, av_in_ok (h := (1, 1)) (by decide +kernel), by decide +kernel, by decide +kernel, by decide +kernel⟩
theorem okj_X11_works : av_okM av_T mt_X11_works ∧ (parseMethodDescriptor mt_X11_works.1.2.1.desc).map (fun d => d.parameters.length) = some 2 ∧ (1 = 0 → Jvm.Cond.static mt_X11_works.1.2.1 ∈ av_T) ∧ (1 = 1 → Jvm.Cond.instanceMethod mt_X11_works.1.2.1 ∈ av_T ∧ Jvm.Cond.selects mt_X11_works.1.1 mt_X11_works.1.2.1 mt_X11_works.1.2.1 ∈ av_T) ∧ (1 = 2 → Jvm.Cond.instanceMethod mt_X11_works.1.2.1 ∈ av_T ∧ mt_X11_works.1.2.1.name = "<init>" ∧ mt_X11_works.1.2.2.2.2 = none) := ⟨okm_X11_works, by decide +kernel, fun q => absurd q (by decide), fun _ => ⟨av_in_ok (h := (4, 131)) (by decide +kernel), av_in_ok (h := (4, 132)) (by decide +kernel)⟩, fun q => absurd q (by decide)⟩
theorem okm_X11_firm : av_okM av_T mt_X11_firm := ⟨av_pt_T (k := 4) (i := 141) rfl rfl, rfl, av_in_ok (h := (1, 1)) (by decide +kernel), by decide +kernel, by decide +kernel, by decide +kernel⟩
theorem okj_X11_firm : av_okM av_T mt_X11_firm ∧ (parseMethodDescriptor mt_X11_firm.1.2.1.desc).map (fun d => d.parameters.length) = some 1 ∧ (1 = 0 → Jvm.Cond.static mt_X11_firm.1.2.1 ∈ av_T) ∧ (1 = 1 → Jvm.Cond.instanceMethod mt_X11_firm.1.2.1 ∈ av_T ∧ Jvm.Cond.selects mt_X11_firm.1.1 mt_X11_firm.1.2.1 mt_X11_firm.1.2.1 ∈ av_T) ∧ (1 = 2 → Jvm.Cond.instanceMethod mt_X11_firm.1.2.1 ∈ av_T ∧ mt_X11_firm.1.2.1.name = "<init>" ∧ mt_X11_firm.1.2.2.2.2 = none) := ⟨okm_X11_firm, by decide +kernel, fun q => absurd q (by decide), fun _ => ⟨av_in_ok (h := (4, 139)) (by decide +kernel), av_in_ok (h := (4, 140)) (by decide +kernel)⟩, fun q => absurd q (by decide)⟩
theorem okm_X11_weeks : av_okM av_T mt_X11_weeks := ⟨av_pt_T (k := 4) (i := 152) rfl rfl, rfl, av_in_ok (h := (1, 1)) (by decide +kernel), by decide +kernel, by decide +kernel, by decide +kernel⟩
theorem okj_X11_weeks : av_okM av_T mt_X11_weeks ∧ (parseMethodDescriptor mt_X11_weeks.1.2.1.desc).map (fun d => d.parameters.length) = some 1 ∧ (1 = 0 → Jvm.Cond.static mt_X11_weeks.1.2.1 ∈ av_T) ∧ (1 = 1 → Jvm.Cond.instanceMethod mt_X11_weeks.1.2.1 ∈ av_T ∧ Jvm.Cond.selects mt_X11_weeks.1.1 mt_X11_weeks.1.2.1 mt_X11_weeks.1.2.1 ∈ av_T) ∧ (1 = 2 → Jvm.Cond.instanceMethod mt_X11_weeks.1.2.1 ∈ av_T ∧ mt_X11_weeks.1.2.1.name = "<init>" ∧ mt_X11_weeks.1.2.2.2.2 = none) := ⟨okm_X11_weeks, by decide +kernel, fun q => absurd q (by decide), fun _ => ⟨av_in_ok (h := (4, 150)) (by decide +kernel), av_in_ok (h := (4, 151)) (by decide +kernel)⟩, fun q => absurd q (by decide)⟩
theorem okm_X11_sags : av_okM av_T mt_X11_sags := ⟨av_pt_T (k := 4) (i := 239) rfl rfl, rfl, av_in_ok (h := (1, 1)) (by decide +kernel), by decide +kernel, by decide +kernel, by decide +kernel⟩
theorem okj_X11_sags : av_okM av_T mt_X11_sags ∧ (parseMethodDescriptor mt_X11_sags.1.2.1.desc).map (fun d => d.parameters.length) = some 2 ∧ (1 = 0 → Jvm.Cond.static mt_X11_sags.1.2.1 ∈ av_T) ∧ (1 = 1 → Jvm.Cond.instanceMethod mt_X11_sags.1.2.1 ∈ av_T ∧ Jvm.Cond.selects mt_X11_sags.1.1 mt_X11_sags.1.2.1 mt_X11_sags.1.2.1 ∈ av_T) ∧ (1 = 2 → Jvm.Cond.instanceMethod mt_X11_sags.1.2.1 ∈ av_T ∧ mt_X11_sags.1.2.1.name = "<init>" ∧ mt_X11_sags.1.2.2.2.2 = none) := ⟨okm_X11_sags, by decide +kernel, fun q => absurd q (by decide), fun _ => ⟨av_in_ok (h := (4, 237)) (by decide +kernel), av_in_ok (h := (4, 238)) (by decide +kernel)⟩, fun q => absurd q (by decide)⟩
theorem okm_X11_latched : av_okM av_T mt_X11_latched := ⟨av_pt_T (k := 5) (i := 11) rfl rfl, rfl, av_in_ok (h := (1, 1)) (by decide +kernel), by decide +kernel, by decide +kernel, by decide +kernel⟩
theorem okj_X11_latched : av_okM av_T mt_X11_latched ∧ (parseMethodDescriptor mt_X11_latched.1.2.1.desc).map (fun d => d.parameters.length) = some 1 ∧ (1 = 0 → Jvm.Cond.static mt_X11_latched.1.2.1 ∈ av_T) ∧ (1 = 1 → Jvm.Cond.instanceMethod mt_X11_latched.1.2.1 ∈ av_T ∧ Jvm.Cond.selects mt_X11_latched.1.1 mt_X11_latched.1.2.1 mt_X11_latched.1.2.1 ∈ av_T) ∧ (1 = 2 → Jvm.Cond.instanceMethod mt_X11_latched.1.2.1 ∈ av_T ∧ mt_X11_latched.1.2.1.name = "<init>" ∧ mt_X11_latched.1.2.2.2.2 = none) := ⟨okm_X11_latched, by decide +kernel, fun q => absurd q (by decide), fun _ => ⟨av_in_ok (h := (5, 9)) (by decide +kernel), av_in_ok (h := (5, 10)) (by decide +kernel)⟩, fun q => absurd q (by decide)⟩
theorem okm_X11_gives : av_okM av_T mt_X11_gives := ⟨av_pt_T (k := 5) (i := 20) rfl rfl, rfl, av_in_ok (h := (1, 1)) (by decide +kernel), by decide +kernel, by decide +kernel, by decide +kernel⟩
theorem okj_X11_gives : av_okM av_T mt_X11_gives ∧ (parseMethodDescriptor mt_X11_gives.1.2.1.desc).map (fun d => d.parameters.length) = some 1 ∧ (1 = 0 → Jvm.Cond.static mt_X11_gives.1.2.1 ∈ av_T) ∧ (1 = 1 → Jvm.Cond.instanceMethod mt_X11_gives.1.2.1 ∈ av_T ∧ Jvm.Cond.selects mt_X11_gives.1.1 mt_X11_gives.1.2.1 mt_X11_gives.1.2.1 ∈ av_T) ∧ (1 = 2 → Jvm.Cond.instanceMethod mt_X11_gives.1.2.1 ∈ av_T ∧ mt_X11_gives.1.2.1.name = "<init>" ∧ mt_X11_gives.1.2.2.2.2 = none) := ⟨okm_X11_gives, by decide +kernel, fun q => absurd q (by decide), fun _ => ⟨av_in_ok (h := (5, 18)) (by decide +kernel), av_in_ok (h := (5, 19)) (by decide +kernel)⟩, fun q => absurd q (by decide)⟩
theorem okm_X11_work : av_okM av_T mt_X11_work := ⟨av_pt_T (k := 5) (i := 25) rfl rfl, rfl, av_in_ok (h := (1, 1)) (by decide +kernel), by decide +kernel, by decide +kernel, by decide +kernel⟩
theorem okj_X11_work : av_okM av_T mt_X11_work ∧ (parseMethodDescriptor mt_X11_work.1.2.1.desc).map (fun d => d.parameters.length) = some 2 ∧ (1 = 0 → Jvm.Cond.static mt_X11_work.1.2.1 ∈ av_T) ∧ (1 = 1 → Jvm.Cond.instanceMethod mt_X11_work.1.2.1 ∈ av_T ∧ Jvm.Cond.selects mt_X11_work.1.1 mt_X11_work.1.2.1 mt_X11_work.1.2.1 ∈ av_T) ∧ (1 = 2 → Jvm.Cond.instanceMethod mt_X11_work.1.2.1 ∈ av_T ∧ mt_X11_work.1.2.1.name = "<init>" ∧ mt_X11_work.1.2.2.2.2 = none) := ⟨okm_X11_work, by decide +kernel, fun q => absurd q (by decide), fun _ => ⟨av_in_ok (h := (5, 23)) (by decide +kernel), av_in_ok (h := (5, 24)) (by decide +kernel)⟩, fun q => absurd q (by decide)⟩
theorem okm_X11_undo : av_okM av_T mt_X11_undo := ⟨av_pt_T (k := 5) (i := 46) rfl rfl, rfl, av_in_ok (h := (1, 1)) (by decide +kernel), by decide +kernel, by decide +kernel, by decide +kernel⟩
theorem okj_X11_undo : av_okM av_T mt_X11_undo ∧ (parseMethodDescriptor mt_X11_undo.1.2.1.desc).map (fun d => d.parameters.length) = some 0 ∧ (1 = 0 → Jvm.Cond.static mt_X11_undo.1.2.1 ∈ av_T) ∧ (1 = 1 → Jvm.Cond.instanceMethod mt_X11_undo.1.2.1 ∈ av_T ∧ Jvm.Cond.selects mt_X11_undo.1.1 mt_X11_undo.1.2.1 mt_X11_undo.1.2.1 ∈ av_T) ∧ (1 = 2 → Jvm.Cond.instanceMethod mt_X11_undo.1.2.1 ∈ av_T ∧ mt_X11_undo.1.2.1.name = "<init>" ∧ mt_X11_undo.1.2.2.2.2 = none) := ⟨okm_X11_undo, by decide +kernel, fun q => absurd q (by decide), fun _ => ⟨av_in_ok (h := (5, 44)) (by decide +kernel), av_in_ok (h := (5, 45)) (by decide +kernel)⟩, fun q => absurd q (by decide)⟩
theorem okm_X11_lasts : av_okM av_T mt_X11_lasts := ⟨av_pt_T (k := 5) (i := 58) rfl rfl, rfl, av_in_ok (h := (1, 1)) (by decide +kernel), by decide +kernel, by decide +kernel, by decide +kernel⟩
theorem okj_X11_lasts : av_okM av_T mt_X11_lasts ∧ (parseMethodDescriptor mt_X11_lasts.1.2.1.desc).map (fun d => d.parameters.length) = some 2 ∧ (1 = 0 → Jvm.Cond.static mt_X11_lasts.1.2.1 ∈ av_T) ∧ (1 = 1 → Jvm.Cond.instanceMethod mt_X11_lasts.1.2.1 ∈ av_T ∧ Jvm.Cond.selects mt_X11_lasts.1.1 mt_X11_lasts.1.2.1 mt_X11_lasts.1.2.1 ∈ av_T) ∧ (1 = 2 → Jvm.Cond.instanceMethod mt_X11_lasts.1.2.1 ∈ av_T ∧ mt_X11_lasts.1.2.1.name = "<init>" ∧ mt_X11_lasts.1.2.2.2.2 = none) := ⟨okm_X11_lasts, by decide +kernel, fun q => absurd q (by decide), fun _ => ⟨av_in_ok (h := (5, 56)) (by decide +kernel), av_in_ok (h := (5, 57)) (by decide +kernel)⟩, fun q => absurd q (by decide)⟩
theorem okm_X11_least : av_okM av_T mt_X11_least := ⟨av_pt_T (k := 5) (i := 68) rfl rfl, rfl, av_in_ok (h := (1, 1)) (by decide +kernel), by decide +kernel, by decide +kernel, by decide +kernel⟩
theorem okj_X11_least : av_okM av_T mt_X11_least ∧ (parseMethodDescriptor mt_X11_least.1.2.1.desc).map (fun d => d.parameters.length) = some 4 ∧ (1 = 0 → Jvm.Cond.static mt_X11_least.1.2.1 ∈ av_T) ∧ (1 = 1 → Jvm.Cond.instanceMethod mt_X11_least.1.2.1 ∈ av_T ∧ Jvm.Cond.selects mt_X11_least.1.1 mt_X11_least.1.2.1 mt_X11_least.1.2.1 ∈ av_T) ∧ (1 = 2 → Jvm.Cond.instanceMethod mt_X11_least.1.2.1 ∈ av_T ∧ mt_X11_least.1.2.1.name = "<init>" ∧ mt_X11_least.1.2.2.2.2 = none) := ⟨okm_X11_least, by decide +kernel, fun q => absurd q (by decide), fun _ => ⟨av_in_ok (h := (5, 66)) (by decide +kernel), av_in_ok (h := (5, 67)) (by decide +kernel)⟩, fun q => absurd q (by decide)⟩
theorem okm_X11_way : av_okM av_T mt_X11_way := ⟨av_pt_T (k := 5) (i := 80) rfl rfl, rfl, av_in_ok (h := (1, 1)) (by decide +kernel), by decide +kernel, by decide +kernel, by decide +kernel⟩
theorem okj_X11_way : av_okM av_T mt_X11_way ∧ (parseMethodDescriptor mt_X11_way.1.2.1.desc).map (fun d => d.parameters.length) = some 2 ∧ (1 = 0 → Jvm.Cond.static mt_X11_way.1.2.1 ∈ av_T) ∧ (1 = 1 → Jvm.Cond.instanceMethod mt_X11_way.1.2.1 ∈ av_T ∧ Jvm.Cond.selects mt_X11_way.1.1 mt_X11_way.1.2.1 mt_X11_way.1.2.1 ∈ av_T) ∧ (1 = 2 → Jvm.Cond.instanceMethod mt_X11_way.1.2.1 ∈ av_T ∧ mt_X11_way.1.2.1.name = "<init>" ∧ mt_X11_way.1.2.2.2.2 = none) := ⟨okm_X11_way, by decide +kernel, fun q => absurd q (by decide), fun _ => ⟨av_in_ok (h := (5, 78)) (by decide +kernel), av_in_ok (h := (5, 79)) (by decide +kernel)⟩, fun q => absurd q (by decide)⟩
theorem okm_X11_enough : av_okM av_T mt_X11_enough := ⟨av_pt_T (k := 5) (i := 88) rfl rfl, rfl, av_in_ok (h := (1, 1)) (by decide +kernel), by decide +kernel, by decide +kernel, by decide +kernel⟩
theorem okj_X11_enough : av_okM av_T mt_X11_enough ∧ (parseMethodDescriptor mt_X11_enough.1.2.1.desc).map (fun d => d.parameters.length) = some 3 ∧ (1 = 0 → Jvm.Cond.static mt_X11_enough.1.2.1 ∈ av_T) ∧ (1 = 1 → Jvm.Cond.instanceMethod mt_X11_enough.1.2.1 ∈ av_T ∧ Jvm.Cond.selects mt_X11_enough.1.1 mt_X11_enough.1.2.1 mt_X11_enough.1.2.1 ∈ av_T) ∧ (1 = 2 → Jvm.Cond.instanceMethod mt_X11_enough.1.2.1 ∈ av_T ∧ mt_X11_enough.1.2.1.name = "<init>" ∧ mt_X11_enough.1.2.2.2.2 = none) := ⟨okm_X11_enough, by decide +kernel, fun q => absurd q (by decide), fun _ => ⟨av_in_ok (h := (5, 86)) (by decide +kernel), av_in_ok (h := (5, 87)) (by decide +kernel)⟩, fun q => absurd q (by decide)⟩
theorem okm_X11_bears : av_okM av_T mt_X11_bears := ⟨av_pt_T (k := 5) (i := 96) rfl rfl, rfl, av_in_ok (h := (1, 1)) (by decide +kernel), by decide +kernel, by decide +kernel, by decide +kernel⟩
theorem okj_X11_bears : av_okM av_T mt_X11_bears ∧ (parseMethodDescriptor mt_X11_bears.1.2.1.desc).map (fun d => d.parameters.length) = some 3 ∧ (1 = 0 → Jvm.Cond.static mt_X11_bears.1.2.1 ∈ av_T) ∧ (1 = 1 → Jvm.Cond.instanceMethod mt_X11_bears.1.2.1 ∈ av_T ∧ Jvm.Cond.selects mt_X11_bears.1.1 mt_X11_bears.1.2.1 mt_X11_bears.1.2.1 ∈ av_T) ∧ (1 = 2 → Jvm.Cond.instanceMethod mt_X11_bears.1.2.1 ∈ av_T ∧ mt_X11_bears.1.2.1.name = "<init>" ∧ mt_X11_bears.1.2.2.2.2 = none) := ⟨okm_X11_bears, by decide +kernel, fun q => absurd q (by decide), fun _ => ⟨av_in_ok (h := (5, 94)) (by decide +kernel), av_in_ok (h := (5, 95)) (by decide +kernel)⟩, fun q => absurd q (by decide)⟩
theorem okm_X11_knock : av_okM av_T mt_X11_knock := ⟨av_pt_T (k := 5) (i := 101) rfl rfl, rfl, av_in_ok (h := (1, 1)) (by decide +kernel), by decide +kernel, by decide +kernel, by decide +kernel⟩
theorem okj_X11_knock : av_okM av_T mt_X11_knock ∧ (parseMethodDescriptor mt_X11_knock.1.2.1.desc).map (fun d => d.parameters.length) = some 2 ∧ (1 = 0 → Jvm.Cond.static mt_X11_knock.1.2.1 ∈ av_T) ∧ (1 = 1 → Jvm.Cond.instanceMethod mt_X11_knock.1.2.1 ∈ av_T ∧ Jvm.Cond.selects mt_X11_knock.1.1 mt_X11_knock.1.2.1 mt_X11_knock.1.2.1 ∈ av_T) ∧ (1 = 2 → Jvm.Cond.instanceMethod mt_X11_knock.1.2.1 ∈ av_T ∧ mt_X11_knock.1.2.1.name = "<init>" ∧ mt_X11_knock.1.2.2.2.2 = none) := ⟨okm_X11_knock, by decide +kernel, fun q => absurd q (by decide), fun _ => ⟨av_in_ok (h := (5, 99)) (by decide +kernel), av_in_ok (h := (5, 100)) (by decide +kernel)⟩, fun q => absurd q (by decide)⟩
theorem okm_X11_measure : av_okM av_T mt_X11_measure := ⟨av_pt_T (k := 5) (i := 109) rfl rfl, rfl, av_in_ok (h := (1, 1)) (by decide +kernel), by decide +kernel, by decide +kernel, by decide +kernel⟩
theorem okj_X11_measure : av_okM av_T mt_X11_measure ∧ (parseMethodDescriptor mt_X11_measure.1.2.1.desc).map (fun d => d.parameters.length) = some 5 ∧ (1 = 0 → Jvm.Cond.static mt_X11_measure.1.2.1 ∈ av_T) ∧ (1 = 1 → Jvm.Cond.instanceMethod mt_X11_measure.1.2.1 ∈ av_T ∧ Jvm.Cond.selects mt_X11_measure.1.1 mt_X11_measure.1.2.1 mt_X11_measure.1.2.1 ∈ av_T) ∧ (1 = 2 → Jvm.Cond.instanceMethod mt_X11_measure.1.2.1 ∈ av_T ∧ mt_X11_measure.1.2.1.name = "<init>" ∧ mt_X11_measure.1.2.2.2.2 = none) := ⟨okm_X11_measure, by decide +kernel, fun q => absurd q (by decide), fun _ => ⟨av_in_ok (h := (5, 107)) (by decide +kernel), av_in_ok (h := (5, 108)) (by decide +kernel)⟩, fun q => absurd q (by decide)⟩
theorem okm_X11_strike : av_okM av_T mt_X11_strike := ⟨av_pt_T (k := 5) (i := 119) rfl rfl, rfl, av_in_ok (h := (1, 1)) (by decide +kernel), by decide +kernel, by decide +kernel, by decide +kernel⟩
theorem okj_X11_strike : av_okM av_T mt_X11_strike ∧ (parseMethodDescriptor mt_X11_strike.1.2.1.desc).map (fun d => d.parameters.length) = some 1 ∧ (1 = 0 → Jvm.Cond.static mt_X11_strike.1.2.1 ∈ av_T) ∧ (1 = 1 → Jvm.Cond.instanceMethod mt_X11_strike.1.2.1 ∈ av_T ∧ Jvm.Cond.selects mt_X11_strike.1.1 mt_X11_strike.1.2.1 mt_X11_strike.1.2.1 ∈ av_T) ∧ (1 = 2 → Jvm.Cond.instanceMethod mt_X11_strike.1.2.1 ∈ av_T ∧ mt_X11_strike.1.2.1.name = "<init>" ∧ mt_X11_strike.1.2.2.2.2 = none) := ⟨okm_X11_strike, by decide +kernel, fun q => absurd q (by decide), fun _ => ⟨av_in_ok (h := (5, 117)) (by decide +kernel), av_in_ok (h := (5, 118)) (by decide +kernel)⟩, fun q => absurd q (by decide)⟩
theorem okm_X11_known : av_okM av_T mt_X11_known := ⟨av_pt_T (k := 5) (i := 127) rfl rfl, rfl, av_in_ok (h := (1, 1)) (by decide +kernel), by decide +kernel, by decide +kernel, by decide +kernel⟩
theorem okj_X11_known : av_okM av_T mt_X11_known ∧ (parseMethodDescriptor mt_X11_known.1.2.1.desc).map (fun d => d.parameters.length) = some 1 ∧ (1 = 0 → Jvm.Cond.static mt_X11_known.1.2.1 ∈ av_T) ∧ (1 = 1 → Jvm.Cond.instanceMethod mt_X11_known.1.2.1 ∈ av_T ∧ Jvm.Cond.selects mt_X11_known.1.1 mt_X11_known.1.2.1 mt_X11_known.1.2.1 ∈ av_T) ∧ (1 = 2 → Jvm.Cond.instanceMethod mt_X11_known.1.2.1 ∈ av_T ∧ mt_X11_known.1.2.1.name = "<init>" ∧ mt_X11_known.1.2.2.2.2 = none) := ⟨okm_X11_known, by decide +kernel, fun q => absurd q (by decide), fun _ => ⟨av_in_ok (h := (5, 125)) (by decide +kernel), av_in_ok (h := (5, 126)) (by decide +kernel)⟩, fun q => absurd q (by decide)⟩
theorem okm_X11_fits : av_okM av_T mt_X11_fits := ⟨av_pt_T (k := 5) (i := 131) rfl rfl, rfl, av_in_ok (h := (1, 1)) (by decide +kernel), by decide +kernel, by decide +kernel, by decide +kernel⟩
theorem okj_X11_fits : av_okM av_T mt_X11_fits ∧ (parseMethodDescriptor mt_X11_fits.1.2.1.desc).map (fun d => d.parameters.length) = some 1 ∧ (1 = 0 → Jvm.Cond.static mt_X11_fits.1.2.1 ∈ av_T) ∧ (1 = 1 → Jvm.Cond.instanceMethod mt_X11_fits.1.2.1 ∈ av_T ∧ Jvm.Cond.selects mt_X11_fits.1.1 mt_X11_fits.1.2.1 mt_X11_fits.1.2.1 ∈ av_T) ∧ (1 = 2 → Jvm.Cond.instanceMethod mt_X11_fits.1.2.1 ∈ av_T ∧ mt_X11_fits.1.2.1.name = "<init>" ∧ mt_X11_fits.1.2.2.2.2 = none) := ⟨okm_X11_fits, by decide +kernel, fun q => absurd q (by decide), fun _ => ⟨av_in_ok (h := (5, 129)) (by decide +kernel), av_in_ok (h := (5, 130)) (by decide +kernel)⟩, fun q => absurd q (by decide)⟩
theorem okm_X11_odds : av_okM av_T mt_X11_odds := ⟨av_pt_T (k := 5) (i := 170) rfl rfl, rfl, av_in_ok (h := (1, 1)) (by decide +kernel), by decide +kernel, by decide +kernel, by decide +kernel⟩
theorem okj_X11_odds : av_okM av_T mt_X11_odds ∧ (parseMethodDescriptor mt_X11_odds.1.2.1.desc).map (fun d => d.parameters.length) = some 3 ∧ (1 = 0 → Jvm.Cond.static mt_X11_odds.1.2.1 ∈ av_T) ∧ (1 = 1 → Jvm.Cond.instanceMethod mt_X11_odds.1.2.1 ∈ av_T ∧ Jvm.Cond.selects mt_X11_odds.1.1 mt_X11_odds.1.2.1 mt_X11_odds.1.2.1 ∈ av_T) ∧ (1 = 2 → Jvm.Cond.instanceMethod mt_X11_odds.1.2.1 ∈ av_T ∧ mt_X11_odds.1.2.1.name = "<init>" ∧ mt_X11_odds.1.2.2.2.2 = none) := ⟨okm_X11_odds, by decide +kernel, fun q => absurd q (by decide), fun _ => ⟨av_in_ok (h := (5, 168)) (by decide +kernel), av_in_ok (h := (5, 169)) (by decide +kernel)⟩, fun q => absurd q (by decide)⟩
theorem okm_X11_test : av_okM av_T mt_X11_test := ⟨av_pt_T (k := 5) (i := 187) rfl rfl, rfl, av_in_ok (h := (1, 1)) (by decide +kernel), by decide +kernel, by decide +kernel, by decide +kernel⟩
theorem okj_X11_test : av_okM av_T mt_X11_test ∧ (parseMethodDescriptor mt_X11_test.1.2.1.desc).map (fun d => d.parameters.length) = some 2 ∧ (1 = 0 → Jvm.Cond.static mt_X11_test.1.2.1 ∈ av_T) ∧ (1 = 1 → Jvm.Cond.instanceMethod mt_X11_test.1.2.1 ∈ av_T ∧ Jvm.Cond.selects mt_X11_test.1.1 mt_X11_test.1.2.1 mt_X11_test.1.2.1 ∈ av_T) ∧ (1 = 2 → Jvm.Cond.instanceMethod mt_X11_test.1.2.1 ∈ av_T ∧ mt_X11_test.1.2.1.name = "<init>" ∧ mt_X11_test.1.2.2.2.2 = none) := ⟨okm_X11_test, by decide +kernel, fun q => absurd q (by decide), fun _ => ⟨av_in_ok (h := (5, 185)) (by decide +kernel), av_in_ok (h := (5, 186)) (by decide +kernel)⟩, fun q => absurd q (by decide)⟩
theorem okm_X11_low : av_okM av_T mt_X11_low := ⟨av_pt_T (k := 5) (i := 205) rfl rfl, rfl, av_in_ok (h := (1, 1)) (by decide +kernel), by decide +kernel, by decide +kernel, by decide +kernel⟩
theorem okj_X11_low : av_okM av_T mt_X11_low ∧ (parseMethodDescriptor mt_X11_low.1.2.1.desc).map (fun d => d.parameters.length) = some 2 ∧ (1 = 0 → Jvm.Cond.static mt_X11_low.1.2.1 ∈ av_T) ∧ (1 = 1 → Jvm.Cond.instanceMethod mt_X11_low.1.2.1 ∈ av_T ∧ Jvm.Cond.selects mt_X11_low.1.1 mt_X11_low.1.2.1 mt_X11_low.1.2.1 ∈ av_T) ∧ (1 = 2 → Jvm.Cond.instanceMethod mt_X11_low.1.2.1 ∈ av_T ∧ mt_X11_low.1.2.1.name = "<init>" ∧ mt_X11_low.1.2.2.2.2 = none) := ⟨okm_X11_low, by decide +kernel, fun q => absurd q (by decide), fun _ => ⟨av_in_ok (h := (5, 203)) (by decide +kernel), av_in_ok (h := (5, 204)) (by decide +kernel)⟩, fun q => absurd q (by decide)⟩
theorem okm_X11_rest : av_okM av_T mt_X11_rest := ⟨av_pt_T (k := 5) (i := 221) rfl rfl, rfl, av_in_ok (h := (1, 1)) (by decide +kernel), by decide +kernel, by decide +kernel, by decide +kernel⟩
theorem okj_X11_rest : av_okM av_T mt_X11_rest ∧ (parseMethodDescriptor mt_X11_rest.1.2.1.desc).map (fun d => d.parameters.length) = some 1 ∧ (1 = 0 → Jvm.Cond.static mt_X11_rest.1.2.1 ∈ av_T) ∧ (1 = 1 → Jvm.Cond.instanceMethod mt_X11_rest.1.2.1 ∈ av_T ∧ Jvm.Cond.selects mt_X11_rest.1.1 mt_X11_rest.1.2.1 mt_X11_rest.1.2.1 ∈ av_T) ∧ (1 = 2 → Jvm.Cond.instanceMethod mt_X11_rest.1.2.1 ∈ av_T ∧ mt_X11_rest.1.2.1.name = "<init>" ∧ mt_X11_rest.1.2.2.2.2 = none) := ⟨okm_X11_rest, by decide +kernel, fun q => absurd q (by decide), fun _ => ⟨av_in_ok (h := (5, 219)) (by decide +kernel), av_in_ok (h := (5, 220)) (by decide +kernel)⟩, fun q => absurd q (by decide)⟩
theorem okm_X11_shuts : av_okM av_T mt_X11_shuts := ⟨av_pt_T (k := 5) (i := 225) rfl rfl, rfl, av_in_ok (h := (1, 1)) (by decide +kernel), by decide +kernel, by decide +kernel, by decide +kernel⟩
theorem okj_X11_shuts : av_okM av_T mt_X11_shuts ∧ (parseMethodDescriptor mt_X11_shuts.1.2.1.desc).map (fun d => d.parameters.length) = some 1 ∧ (1 = 0 → Jvm.Cond.static mt_X11_shuts.1.2.1 ∈ av_T) ∧ (1 = 1 → Jvm.Cond.instanceMethod mt_X11_shuts.1.2.1 ∈ av_T ∧ Jvm.Cond.selects mt_X11_shuts.1.1 mt_X11_shuts.1.2.1 mt_X11_shuts.1.2.1 ∈ av_T) ∧ (1 = 2 → Jvm.Cond.instanceMethod mt_X11_shuts.1.2.1 ∈ av_T ∧ mt_X11_shuts.1.2.1.name = "<init>" ∧ mt_X11_shuts.1.2.2.2.2 = none) := ⟨okm_X11_shuts, by decide +kernel, fun q => absurd q (by decide), fun _ => ⟨av_in_ok (h := (5, 223)) (by decide +kernel), av_in_ok (h := (5, 224)) (by decide +kernel)⟩, fun q => absurd q (by decide)⟩
theorem okm_X11_above : av_okM av_T mt_X11_above := ⟨av_pt_T (k := 5) (i := 229) rfl rfl, rfl, av_in_ok (h := (1, 1)) (by decide +kernel), by decide +kernel, by decide +kernel, by decide +kernel⟩
theorem okj_X11_above : av_okM av_T mt_X11_above ∧ (parseMethodDescriptor mt_X11_above.1.2.1.desc).map (fun d => d.parameters.length) = some 2 ∧ (1 = 0 → Jvm.Cond.static mt_X11_above.1.2.1 ∈ av_T) ∧ (1 = 1 → Jvm.Cond.instanceMethod mt_X11_above.1.2.1 ∈ av_T ∧ Jvm.Cond.selects mt_X11_above.1.1 mt_X11_above.1.2.1 mt_X11_above.1.2.1 ∈ av_T) ∧ (1 = 2 → Jvm.Cond.instanceMethod mt_X11_above.1.2.1 ∈ av_T ∧ mt_X11_above.1.2.1.name = "<init>" ∧ mt_X11_above.1.2.2.2.2 = none) := ⟨okm_X11_above, by decide +kernel, fun q => absurd q (by decide), fun _ => ⟨av_in_ok (h := (5, 227)) (by decide +kernel), av_in_ok (h := (5, 228)) (by decide +kernel)⟩, fun q => absurd q (by decide)⟩
theorem okm_X11_opens : av_okM av_T mt_X11_opens := ⟨av_pt_T (k := 5) (i := 239) rfl rfl, rfl, av_in_ok (h := (1, 1)) (by decide +kernel), by decide +kernel, by decide +kernel, by decide +kernel⟩
theorem okj_X11_opens : av_okM av_T mt_X11_opens ∧ (parseMethodDescriptor mt_X11_opens.1.2.1.desc).map (fun d => d.parameters.length) = some 1 ∧ (1 = 0 → Jvm.Cond.static mt_X11_opens.1.2.1 ∈ av_T) ∧ (1 = 1 → Jvm.Cond.instanceMethod mt_X11_opens.1.2.1 ∈ av_T ∧ Jvm.Cond.selects mt_X11_opens.1.1 mt_X11_opens.1.2.1 mt_X11_opens.1.2.1 ∈ av_T) ∧ (1 = 2 → Jvm.Cond.instanceMethod mt_X11_opens.1.2.1 ∈ av_T ∧ mt_X11_opens.1.2.1.name = "<init>" ∧ mt_X11_opens.1.2.2.2.2 = none) := ⟨okm_X11_opens, by decide +kernel, fun q => absurd q (by decide), fun _ => ⟨av_in_ok (h := (5, 237)) (by decide +kernel), av_in_ok (h := (5, 238)) (by decide +kernel)⟩, fun q => absurd q (by decide)⟩
theorem okm_X11_stand : av_okM av_T mt_X11_stand := ⟨av_pt_T (k := 6) (i := 3) rfl rfl, rfl, av_in_ok (h := (1, 1)) (by decide +kernel), by decide +kernel, by decide +kernel, by decide +kernel⟩
theorem okj_X11_stand : av_okM av_T mt_X11_stand ∧ (parseMethodDescriptor mt_X11_stand.1.2.1.desc).map (fun d => d.parameters.length) = some 3 ∧ (1 = 0 → Jvm.Cond.static mt_X11_stand.1.2.1 ∈ av_T) ∧ (1 = 1 → Jvm.Cond.instanceMethod mt_X11_stand.1.2.1 ∈ av_T ∧ Jvm.Cond.selects mt_X11_stand.1.1 mt_X11_stand.1.2.1 mt_X11_stand.1.2.1 ∈ av_T) ∧ (1 = 2 → Jvm.Cond.instanceMethod mt_X11_stand.1.2.1 ∈ av_T ∧ mt_X11_stand.1.2.1.name = "<init>" ∧ mt_X11_stand.1.2.2.2.2 = none) := ⟨okm_X11_stand, by decide +kernel, fun q => absurd q (by decide), fun _ => ⟨av_in_ok (h := (6, 1)) (by decide +kernel), av_in_ok (h := (6, 2)) (by decide +kernel)⟩, fun q => absurd q (by decide)⟩
theorem okm_X11_first : av_okM av_T mt_X11_first := ⟨av_pt_T (k := 6) (i := 15) rfl rfl, rfl, av_in_ok (h := (1, 1)) (by decide +kernel), by decide +kernel, by decide +kernel, by decide +kernel⟩
theorem okj_X11_first : av_okM av_T mt_X11_first ∧ (parseMethodDescriptor mt_X11_first.1.2.1.desc).map (fun d => d.parameters.length) = some 2 ∧ (1 = 0 → Jvm.Cond.static mt_X11_first.1.2.1 ∈ av_T) ∧ (1 = 1 → Jvm.Cond.instanceMethod mt_X11_first.1.2.1 ∈ av_T ∧ Jvm.Cond.selects mt_X11_first.1.1 mt_X11_first.1.2.1 mt_X11_first.1.2.1 ∈ av_T) ∧ (1 = 2 → Jvm.Cond.instanceMethod mt_X11_first.1.2.1 ∈ av_T ∧ mt_X11_first.1.2.1.name = "<init>" ∧ mt_X11_first.1.2.2.2.2 = none) := ⟨okm_X11_first, by decide +kernel, fun q => absurd q (by decide), fun _ => ⟨av_in_ok (h := (6, 13)) (by decide +kernel), av_in_ok (h := (6, 14)) (by decide +kernel)⟩, fun q => absurd q (by decide)⟩
theorem okm_X11_wind : av_okM av_T mt_X11_wind := ⟨av_pt_T (k := 6) (i := 40) rfl rfl, rfl, av_in_ok (h := (1, 1)) (by decide +kernel), by decide +kernel, by decide +kernel, by decide +kernel⟩
theorem okj_X11_wind : av_okM av_T mt_X11_wind ∧ (parseMethodDescriptor mt_X11_wind.1.2.1.desc).map (fun d => d.parameters.length) = some 5 ∧ (1 = 0 → Jvm.Cond.static mt_X11_wind.1.2.1 ∈ av_T) ∧ (1 = 1 → Jvm.Cond.instanceMethod mt_X11_wind.1.2.1 ∈ av_T ∧ Jvm.Cond.selects mt_X11_wind.1.1 mt_X11_wind.1.2.1 mt_X11_wind.1.2.1 ∈ av_T) ∧ (1 = 2 → Jvm.Cond.instanceMethod mt_X11_wind.1.2.1 ∈ av_T ∧ mt_X11_wind.1.2.1.name = "<init>" ∧ mt_X11_wind.1.2.2.2.2 = none) := ⟨okm_X11_wind, by decide +kernel, fun q => absurd q (by decide), fun _ => ⟨av_in_ok (h := (6, 38)) (by decide +kernel), av_in_ok (h := (6, 39)) (by decide +kernel)⟩, fun q => absurd q (by decide)⟩
theorem okm_X11_keep : av_okM av_T mt_X11_keep := ⟨av_pt_T (k := 6) (i := 47) rfl rfl, rfl, av_in_ok (h := (1, 1)) (by decide +kernel), by decide +kernel, by decide +kernel, by decide +kernel⟩
theorem okj_X11_keep : av_okM av_T mt_X11_keep ∧ (parseMethodDescriptor mt_X11_keep.1.2.1.desc).map (fun d => d.parameters.length) = some 0 ∧ (1 = 0 → Jvm.Cond.static mt_X11_keep.1.2.1 ∈ av_T) ∧ (1 = 1 → Jvm.Cond.instanceMethod mt_X11_keep.1.2.1 ∈ av_T ∧ Jvm.Cond.selects mt_X11_keep.1.1 mt_X11_keep.1.2.1 mt_X11_keep.1.2.1 ∈ av_T) ∧ (1 = 2 → Jvm.Cond.instanceMethod mt_X11_keep.1.2.1 ∈ av_T ∧ mt_X11_keep.1.2.1.name = "<init>" ∧ mt_X11_keep.1.2.2.2.2 = none) := ⟨okm_X11_keep, by decide +kernel, fun q => absurd q (by decide), fun _ => ⟨av_in_ok (h := (6, 45)) (by decide +kernel), av_in_ok (h := (6, 46)) (by decide +kernel)⟩, fun q => absurd q (by decide)⟩
theorem okm_X11_back : av_okM av_T mt_X11_back := ⟨av_pt_T (k := 6) (i := 51) rfl rfl, rfl, av_in_ok (h := (1, 1)) (by decide +kernel), by decide +kernel, by decide +kernel, by decide +kernel⟩
theorem okj_X11_back : av_okM av_T mt_X11_back ∧ (parseMethodDescriptor mt_X11_back.1.2.1.desc).map (fun d => d.parameters.length) = some 0 ∧ (1 = 0 → Jvm.Cond.static mt_X11_back.1.2.1 ∈ av_T) ∧ (1 = 1 → Jvm.Cond.instanceMethod mt_X11_back.1.2.1 ∈ av_T ∧ Jvm.Cond.selects mt_X11_back.1.1 mt_X11_back.1.2.1 mt_X11_back.1.2.1 ∈ av_T) ∧ (1 = 2 → Jvm.Cond.instanceMethod mt_X11_back.1.2.1 ∈ av_T ∧ mt_X11_back.1.2.1.name = "<init>" ∧ mt_X11_back.1.2.2.2.2 = none) := ⟨okm_X11_back, by decide +kernel, fun q => absurd q (by decide), fun _ => ⟨av_in_ok (h := (6, 49)) (by decide +kernel), av_in_ok (h := (6, 50)) (by decide +kernel)⟩, fun q => absurd q (by decide)⟩
theorem okm_X11_count : av_okM av_T mt_X11_count := ⟨av_pt_T (k := 6) (i := 55) rfl rfl, rfl, av_in_ok (h := (1, 1)) (by decide +kernel), by decide +kernel, by decide +kernel, by decide +kernel⟩
theorem okj_X11_count : av_okM av_T mt_X11_count ∧ (parseMethodDescriptor mt_X11_count.1.2.1.desc).map (fun d => d.parameters.length) = some 1 ∧ (1 = 0 → Jvm.Cond.static mt_X11_count.1.2.1 ∈ av_T) ∧ (1 = 1 → Jvm.Cond.instanceMethod mt_X11_count.1.2.1 ∈ av_T ∧ Jvm.Cond.selects mt_X11_count.1.1 mt_X11_count.1.2.1 mt_X11_count.1.2.1 ∈ av_T) ∧ (1 = 2 → Jvm.Cond.instanceMethod mt_X11_count.1.2.1 ∈ av_T ∧ mt_X11_count.1.2.1.name = "<init>" ∧ mt_X11_count.1.2.2.2.2 = none) := ⟨okm_X11_count, by decide +kernel, fun q => absurd q (by decide), fun _ => ⟨av_in_ok (h := (6, 53)) (by decide +kernel), av_in_ok (h := (6, 54)) (by decide +kernel)⟩, fun q => absurd q (by decide)⟩
theorem okm_X11_costOfAllDone : av_okM av_T mt_X11_costOfAllDone := ⟨av_pt_T (k := 6) (i := 60) rfl rfl, rfl, av_in_ok (h := (1, 1)) (by decide +kernel), by decide +kernel, by decide +kernel, by decide +kernel⟩
theorem okj_X11_costOfAllDone : av_okM av_T mt_X11_costOfAllDone ∧ (parseMethodDescriptor mt_X11_costOfAllDone.1.2.1.desc).map (fun d => d.parameters.length) = some 0 ∧ (1 = 0 → Jvm.Cond.static mt_X11_costOfAllDone.1.2.1 ∈ av_T) ∧ (1 = 1 → Jvm.Cond.instanceMethod mt_X11_costOfAllDone.1.2.1 ∈ av_T ∧ Jvm.Cond.selects mt_X11_costOfAllDone.1.1 mt_X11_costOfAllDone.1.2.1 mt_X11_costOfAllDone.1.2.1 ∈ av_T) ∧ (1 = 2 → Jvm.Cond.instanceMethod mt_X11_costOfAllDone.1.2.1 ∈ av_T ∧ mt_X11_costOfAllDone.1.2.1.name = "<init>" ∧ mt_X11_costOfAllDone.1.2.2.2.2 = none) := ⟨okm_X11_costOfAllDone, by decide +kernel, fun q => absurd q (by decide), fun _ => ⟨av_in_ok (h := (6, 59)) (by decide +kernel), av_in_ok (h := (0, 43)) (by decide +kernel)⟩, fun q => absurd q (by decide)⟩
theorem okm_X12_init : av_okM av_T mt_X12_init := ⟨av_pt_T (k := 6) (i := 157) rfl rfl, rfl, av_in_ok (h := (1, 17)) (by decide +kernel), by decide +kernel, by decide +kernel, by decide +kernel⟩
theorem okj_X12_init : av_okM av_T mt_X12_init ∧ (parseMethodDescriptor mt_X12_init.1.2.1.desc).map (fun d => d.parameters.length) = some 0 ∧ (2 = 0 → Jvm.Cond.static mt_X12_init.1.2.1 ∈ av_T) ∧ (2 = 1 → Jvm.Cond.instanceMethod mt_X12_init.1.2.1 ∈ av_T ∧ Jvm.Cond.selects mt_X12_init.1.1 mt_X12_init.1.2.1 mt_X12_init.1.2.1 ∈ av_T) ∧ (2 = 2 → Jvm.Cond.instanceMethod mt_X12_init.1.2.1 ∈ av_T ∧ mt_X12_init.1.2.1.name = "<init>" ∧ mt_X12_init.1.2.2.2.2 = none) := ⟨okm_X12_init, by decide +kernel, fun q => absurd q (by decide), fun q => absurd q (by decide), fun _ => ⟨av_in_ok (h := (6, 156)) (by decide +kernel), rfl, rfl⟩⟩
theorem okm_X12_thrown : av_okM av_T mt_X12_thrown := ⟨av_pt_T (k := 7) (i := 148) rfl rfl, rfl, av_in_ok (h := (1, 17)) (by decide +kernel), by decide +kernel, by decide +kernel, by decide +kernel⟩
theorem okj_X12_thrown : av_okM av_T mt_X12_thrown ∧ (parseMethodDescriptor mt_X12_thrown.1.2.1.desc).map (fun d => d.parameters.length) = some 0 ∧ (1 = 0 → Jvm.Cond.static mt_X12_thrown.1.2.1 ∈ av_T) ∧ (1 = 1 → Jvm.Cond.instanceMethod mt_X12_thrown.1.2.1 ∈ av_T ∧ Jvm.Cond.selects mt_X12_thrown.1.1 mt_X12_thrown.1.2.1 mt_X12_thrown.1.2.1 ∈ av_T) ∧ (1 = 2 → Jvm.Cond.instanceMethod mt_X12_thrown.1.2.1 ∈ av_T ∧ mt_X12_thrown.1.2.1.name = "<init>" ∧ mt_X12_thrown.1.2.2.2.2 = none) := ⟨okm_X12_thrown, by decide +kernel, fun q => absurd q (by decide), fun _ => ⟨av_in_ok (h := (7, 146)) (by decide +kernel), av_in_ok (h := (7, 147)) (by decide +kernel)⟩, fun q => absurd q (by decide)⟩
theorem okm_X12_feed : av_okM av_T mt_X12_feed := ⟨av_pt_T (k := 7) (i := 152) rfl rfl, rfl, av_in_ok (h := (1, 17)) (by decide +kernel), by decide +kernel, by decide +kernel, by decide +kernel⟩
theorem okj_X12_feed : av_okM av_T mt_X12_feed ∧ (parseMethodDescriptor mt_X12_feed.1.2.1.desc).map (fun d => d.parameters.length) = some 5 ∧ (1 = 0 → Jvm.Cond.static mt_X12_feed.1.2.1 ∈ av_T) ∧ (1 = 1 → Jvm.Cond.instanceMethod mt_X12_feed.1.2.1 ∈ av_T ∧ Jvm.Cond.selects mt_X12_feed.1.1 mt_X12_feed.1.2.1 mt_X12_feed.1.2.1 ∈ av_T) ∧ (1 = 2 → Jvm.Cond.instanceMethod mt_X12_feed.1.2.1 ∈ av_T ∧ mt_X12_feed.1.2.1.name = "<init>" ∧ mt_X12_feed.1.2.2.2.2 = none) := ⟨okm_X12_feed, by decide +kernel, fun q => absurd q (by decide), fun _ => ⟨av_in_ok (h := (7, 150)) (by decide +kernel), av_in_ok (h := (7, 151)) (by decide +kernel)⟩, fun q => absurd q (by decide)⟩
theorem okm_X12_isIn : av_okM av_T mt_X12_isIn := ⟨av_pt_T (k := 7) (i := 203) rfl rfl, rfl, av_in_ok (h := (1, 17)) (by decide +kernel), by decide +kernel, by decide +kernel, by decide +kernel⟩
theorem okj_X12_isIn : av_okM av_T mt_X12_isIn ∧ (parseMethodDescriptor mt_X12_isIn.1.2.1.desc).map (fun d => d.parameters.length) = some 3 ∧ (0 = 0 → Jvm.Cond.static mt_X12_isIn.1.2.1 ∈ av_T) ∧ (0 = 1 → Jvm.Cond.instanceMethod mt_X12_isIn.1.2.1 ∈ av_T ∧ Jvm.Cond.selects mt_X12_isIn.1.1 mt_X12_isIn.1.2.1 mt_X12_isIn.1.2.1 ∈ av_T) ∧ (0 = 2 → Jvm.Cond.instanceMethod mt_X12_isIn.1.2.1 ∈ av_T ∧ mt_X12_isIn.1.2.1.name = "<init>" ∧ mt_X12_isIn.1.2.2.2.2 = none) := ⟨okm_X12_isIn, by decide +kernel, fun _ => av_in_ok (h := (7, 202)) (by decide +kernel), fun q => absurd q (by decide), fun q => absurd q (by decide)⟩
theorem okm_X12_token : av_okM av_T mt_X12_token := ⟨av_pt_T (k := 7) (i := 160) rfl rfl, rfl, av_in_ok (h := (1, 17)) (by decide +kernel), by decide +kernel, by decide +kernel, by decide +kernel⟩
theorem okj_X12_token : av_okM av_T mt_X12_token ∧ (parseMethodDescriptor mt_X12_token.1.2.1.desc).map (fun d => d.parameters.length) = some 0 ∧ (1 = 0 → Jvm.Cond.static mt_X12_token.1.2.1 ∈ av_T) ∧ (1 = 1 → Jvm.Cond.instanceMethod mt_X12_token.1.2.1 ∈ av_T ∧ Jvm.Cond.selects mt_X12_token.1.1 mt_X12_token.1.2.1 mt_X12_token.1.2.1 ∈ av_T) ∧ (1 = 2 → Jvm.Cond.instanceMethod mt_X12_token.1.2.1 ∈ av_T ∧ mt_X12_token.1.2.1.name = "<init>" ∧ mt_X12_token.1.2.2.2.2 = none) := ⟨okm_X12_token, by decide +kernel, fun q => absurd q (by decide), fun _ => ⟨av_in_ok (h := (7, 159)) (by decide +kernel), av_in_ok (h := (0, 48)) (by decide +kernel)⟩, fun q => absurd q (by decide)⟩
theorem okm_X12_plain : av_okM av_T mt_X12_plain := ⟨av_pt_T (k := 6) (i := 162) rfl rfl, rfl, av_in_ok (h := (1, 17)) (by decide +kernel), by decide +kernel, by decide +kernel, by decide +kernel⟩
theorem okj_X12_plain : av_okM av_T mt_X12_plain ∧ (parseMethodDescriptor mt_X12_plain.1.2.1.desc).map (fun d => d.parameters.length) = some 0 ∧ (1 = 0 → Jvm.Cond.static mt_X12_plain.1.2.1 ∈ av_T) ∧ (1 = 1 → Jvm.Cond.instanceMethod mt_X12_plain.1.2.1 ∈ av_T ∧ Jvm.Cond.selects mt_X12_plain.1.1 mt_X12_plain.1.2.1 mt_X12_plain.1.2.1 ∈ av_T) ∧ (1 = 2 → Jvm.Cond.instanceMethod mt_X12_plain.1.2.1 ∈ av_T ∧ mt_X12_plain.1.2.1.name = "<init>" ∧ mt_X12_plain.1.2.2.2.2 = none) := ⟨okm_X12_plain, by decide +kernel, fun q => absurd q (by decide), fun _ => ⟨av_in_ok (h := (6, 161)) (by decide +kernel), av_in_ok (h := (0, 45)) (by decide +kernel)⟩, fun q => absurd q (by decide)⟩
theorem okm_X12_copies : av_okM av_T mt_X12_copies := ⟨av_pt_T (k := 6) (i := 169) rfl rfl, rfl, av_in_ok (h := (1, 17)) (by decide +kernel), by decide +kernel, by decide +kernel, by decide +kernel⟩
theorem okj_X12_copies : av_okM av_T mt_X12_copies ∧ (parseMethodDescriptor mt_X12_copies.1.2.1.desc).map (fun d => d.parameters.length) = some 2 ∧ (0 = 0 → Jvm.Cond.static mt_X12_copies.1.2.1 ∈ av_T) ∧ (0 = 1 → Jvm.Cond.instanceMethod mt_X12_copies.1.2.1 ∈ av_T ∧ Jvm.Cond.selects mt_X12_copies.1.1 mt_X12_copies.1.2.1 mt_X12_copies.1.2.1 ∈ av_T) ∧ (0 = 2 → Jvm.Cond.instanceMethod mt_X12_copies.1.2.1 ∈ av_T ∧ mt_X12_copies.1.2.1.name = "<init>" ∧ mt_X12_copies.1.2.2.2.2 = none) := ⟨okm_X12_copies, by decide +kernel, fun _ => av_in_ok (h := (6, 168)) (by decide +kernel), fun q => absurd q (by decide), fun q => absurd q (by decide)⟩
theorem okm_X12_keepText : av_okM av_T mt_X12_keepText := ⟨av_pt_T (k := 6) (i := 166) rfl rfl, rfl, av_in_ok (h := (1, 17)) (by decide +kernel), by decide +kernel, by decide +kernel, by decide +kernel⟩
theorem okj_X12_keepText : av_okM av_T mt_X12_keepText ∧ (parseMethodDescriptor mt_X12_keepText.1.2.1.desc).map (fun d => d.parameters.length) = some 0 ∧ (1 = 0 → Jvm.Cond.static mt_X12_keepText.1.2.1 ∈ av_T) ∧ (1 = 1 → Jvm.Cond.instanceMethod mt_X12_keepText.1.2.1 ∈ av_T ∧ Jvm.Cond.selects mt_X12_keepText.1.1 mt_X12_keepText.1.2.1 mt_X12_keepText.1.2.1 ∈ av_T) ∧ (1 = 2 → Jvm.Cond.instanceMethod mt_X12_keepText.1.2.1 ∈ av_T ∧ mt_X12_keepText.1.2.1.name = "<init>" ∧ mt_X12_keepText.1.2.2.2.2 = none) := ⟨okm_X12_keepText, by decide +kernel, fun q => absurd q (by decide), fun _ => ⟨av_in_ok (h := (6, 165)) (by decide +kernel), av_in_ok (h := (0, 46)) (by decide +kernel)⟩, fun q => absurd q (by decide)⟩
theorem okm_X12_find : av_okM av_T mt_X12_find := ⟨av_pt_T (k := 8) (i := 21) rfl rfl, rfl, av_in_ok (h := (1, 17)) (by decide +kernel), by decide +kernel, by decide +kernel, by decide +kernel⟩
theorem okj_X12_find : av_okM av_T mt_X12_find ∧ (parseMethodDescriptor mt_X12_find.1.2.1.desc).map (fun d => d.parameters.length) = some 4 ∧ (0 = 0 → Jvm.Cond.static mt_X12_find.1.2.1 ∈ av_T) ∧ (0 = 1 → Jvm.Cond.instanceMethod mt_X12_find.1.2.1 ∈ av_T ∧ Jvm.Cond.selects mt_X12_find.1.1 mt_X12_find.1.2.1 mt_X12_find.1.2.1 ∈ av_T) ∧ (0 = 2 → Jvm.Cond.instanceMethod mt_X12_find.1.2.1 ∈ av_T ∧ mt_X12_find.1.2.1.name = "<init>" ∧ mt_X12_find.1.2.2.2.2 = none) := ⟨okm_X12_find, by decide +kernel, fun _ => av_in_ok (h := (8, 20)) (by decide +kernel), fun q => absurd q (by decide), fun q => absurd q (by decide)⟩
theorem okm_X12_text : av_okM av_T mt_X12_text := ⟨av_pt_T (k := 7) (i := 156) rfl rfl, rfl, av_in_ok (h := (1, 17)) (by decide +kernel), by decide +kernel, by decide +kernel, by decide +kernel⟩
theorem okj_X12_text : av_okM av_T mt_X12_text ∧ (parseMethodDescriptor mt_X12_text.1.2.1.desc).map (fun d => d.parameters.length) = some 1 ∧ (1 = 0 → Jvm.Cond.static mt_X12_text.1.2.1 ∈ av_T) ∧ (1 = 1 → Jvm.Cond.instanceMethod mt_X12_text.1.2.1 ∈ av_T ∧ Jvm.Cond.selects mt_X12_text.1.1 mt_X12_text.1.2.1 mt_X12_text.1.2.1 ∈ av_T) ∧ (1 = 2 → Jvm.Cond.instanceMethod mt_X12_text.1.2.1 ∈ av_T ∧ mt_X12_text.1.2.1.name = "<init>" ∧ mt_X12_text.1.2.2.2.2 = none) := ⟨okm_X12_text, by decide +kernel, fun q => absurd q (by decide), fun _ => ⟨av_in_ok (h := (7, 154)) (by decide +kernel), av_in_ok (h := (7, 155)) (by decide +kernel)⟩, fun q => absurd q (by decide)⟩
theorem okm_X12_fault : av_okM av_T mt_X12_fault := ⟨av_pt_T (k := 8) (i := 63) rfl rfl, rfl, av_in_ok (h := (1, 17)) (by decide +kernel), by decide +kernel, by decide +kernel, by decide +kernel⟩
theorem okj_X12_fault : av_okM av_T mt_X12_fault ∧ (parseMethodDescriptor mt_X12_fault.1.2.1.desc).map (fun d => d.parameters.length) = some 1 ∧ (1 = 0 → Jvm.Cond.static mt_X12_fault.1.2.1 ∈ av_T) ∧ (1 = 1 → Jvm.Cond.instanceMethod mt_X12_fault.1.2.1 ∈ av_T ∧ Jvm.Cond.selects mt_X12_fault.1.1 mt_X12_fault.1.2.1 mt_X12_fault.1.2.1 ∈ av_T) ∧ (1 = 2 → Jvm.Cond.instanceMethod mt_X12_fault.1.2.1 ∈ av_T ∧ mt_X12_fault.1.2.1.name = "<init>" ∧ mt_X12_fault.1.2.2.2.2 = none) := ⟨okm_X12_fault, by decide +kernel, fun q => absurd q (by decide), fun _ => ⟨av_in_ok (h := (8, 61)) (by decide +kernel), av_in_ok (h := (8, 62)) (by decide +kernel)⟩, fun q => absurd q (by decide)⟩
theorem okm_X12_named : av_okM av_T mt_X12_named := ⟨av_pt_T (k := 8) (i := 67) rfl rfl, rfl, av_in_ok (h := (1, 17)) (by decide +kernel), by decide +kernel, by decide +kernel, by decide +kernel⟩
theorem okj_X12_named : av_okM av_T mt_X12_named ∧ (parseMethodDescriptor mt_X12_named.1.2.1.desc).map (fun d => d.parameters.length) = some 2 ∧ (1 = 0 → Jvm.Cond.static mt_X12_named.1.2.1 ∈ av_T) ∧ (1 = 1 → Jvm.Cond.instanceMethod mt_X12_named.1.2.1 ∈ av_T ∧ Jvm.Cond.selects mt_X12_named.1.1 mt_X12_named.1.2.1 mt_X12_named.1.2.1 ∈ av_T) ∧ (1 = 2 → Jvm.Cond.instanceMethod mt_X12_named.1.2.1 ∈ av_T ∧ mt_X12_named.1.2.1.name = "<init>" ∧ mt_X12_named.1.2.2.2.2 = none) := ⟨okm_X12_named, by decide +kernel, fun q => absurd q (by decide), fun _ => ⟨av_in_ok (h := (8, 65)) (by decide +kernel), av_in_ok (h := (8, 66)) (by decide +kernel)⟩, fun q => absurd q (by decide)⟩
theorem okm_X12_lays : av_okM av_T mt_X12_lays := ⟨av_pt_T (k := 6) (i := 176) rfl rfl, rfl, av_in_ok (h := (1, 17)) (by decide +kernel), by decide +kernel, by decide +kernel, by decide +kernel⟩
theorem okj_X12_lays : av_okM av_T mt_X12_lays ∧ (parseMethodDescriptor mt_X12_lays.1.2.1.desc).map (fun d => d.parameters.length) = some 4 ∧ (0 = 0 → Jvm.Cond.static mt_X12_lays.1.2.1 ∈ av_T) ∧ (0 = 1 → Jvm.Cond.instanceMethod mt_X12_lays.1.2.1 ∈ av_T ∧ Jvm.Cond.selects mt_X12_lays.1.1 mt_X12_lays.1.2.1 mt_X12_lays.1.2.1 ∈ av_T) ∧ (0 = 2 → Jvm.Cond.instanceMethod mt_X12_lays.1.2.1 ∈ av_T ∧ mt_X12_lays.1.2.1.name = "<init>" ∧ mt_X12_lays.1.2.2.2.2 = none) := ⟨okm_X12_lays, by decide +kernel, fun _ => av_in_ok (h := (6, 175)) (by decide +kernel), fun q => absurd q (by decide), fun q => absurd q (by decide)⟩
theorem okm_X12_begins : av_okM av_T mt_X12_begins := ⟨av_pt_T (k := 6) (i := 173) rfl rfl, rfl, av_in_ok (h := (1, 17)) (by decide +kernel), by decide +kernel, by decide +kernel, by decide +kernel⟩
theorem okj_X12_begins : av_okM av_T mt_X12_begins ∧ (parseMethodDescriptor mt_X12_begins.1.2.1.desc).map (fun d => d.parameters.length) = some 1 ∧ (1 = 0 → Jvm.Cond.static mt_X12_begins.1.2.1 ∈ av_T) ∧ (1 = 1 → Jvm.Cond.instanceMethod mt_X12_begins.1.2.1 ∈ av_T ∧ Jvm.Cond.selects mt_X12_begins.1.1 mt_X12_begins.1.2.1 mt_X12_begins.1.2.1 ∈ av_T) ∧ (1 = 2 → Jvm.Cond.instanceMethod mt_X12_begins.1.2.1 ∈ av_T ∧ mt_X12_begins.1.2.1.name = "<init>" ∧ mt_X12_begins.1.2.2.2.2 = none) := ⟨okm_X12_begins, by decide +kernel, fun q => absurd q (by decide), fun _ => ⟨av_in_ok (h := (6, 172)) (by decide +kernel), av_in_ok (h := (0, 47)) (by decide +kernel)⟩, fun q => absurd q (by decide)⟩
theorem okm_X12_firmOf : av_okM av_T mt_X12_firmOf := ⟨av_pt_T (k := 8) (i := 103) rfl rfl, rfl, av_in_ok (h := (1, 17)) (by decide +kernel), by decide +kernel, by decide +kernel, by decide +kernel⟩
theorem okj_X12_firmOf : av_okM av_T mt_X12_firmOf ∧ (parseMethodDescriptor mt_X12_firmOf.1.2.1.desc).map (fun d => d.parameters.length) = some 1 ∧ (1 = 0 → Jvm.Cond.static mt_X12_firmOf.1.2.1 ∈ av_T) ∧ (1 = 1 → Jvm.Cond.instanceMethod mt_X12_firmOf.1.2.1 ∈ av_T ∧ Jvm.Cond.selects mt_X12_firmOf.1.1 mt_X12_firmOf.1.2.1 mt_X12_firmOf.1.2.1 ∈ av_T) ∧ (1 = 2 → Jvm.Cond.instanceMethod mt_X12_firmOf.1.2.1 ∈ av_T ∧ mt_X12_firmOf.1.2.1.name = "<init>" ∧ mt_X12_firmOf.1.2.2.2.2 = none) := ⟨okm_X12_firmOf, by decide +kernel, fun q => absurd q (by decide), fun _ => ⟨av_in_ok (h := (8, 102)) (by decide +kernel), av_in_ok (h := (0, 85)) (by decide +kernel)⟩, fun q => absurd q (by decide)⟩
theorem okm_X12_isGate : av_okM av_T mt_X12_isGate := ⟨av_pt_T (k := 8) (i := 75) rfl rfl, rfl, av_in_ok (h := (1, 17)) (by decide +kernel), by decide +kernel, by decide +kernel, by decide +kernel⟩
theorem okj_X12_isGate : av_okM av_T mt_X12_isGate ∧ (parseMethodDescriptor mt_X12_isGate.1.2.1.desc).map (fun d => d.parameters.length) = some 1 ∧ (1 = 0 → Jvm.Cond.static mt_X12_isGate.1.2.1 ∈ av_T) ∧ (1 = 1 → Jvm.Cond.instanceMethod mt_X12_isGate.1.2.1 ∈ av_T ∧ Jvm.Cond.selects mt_X12_isGate.1.1 mt_X12_isGate.1.2.1 mt_X12_isGate.1.2.1 ∈ av_T) ∧ (1 = 2 → Jvm.Cond.instanceMethod mt_X12_isGate.1.2.1 ∈ av_T ∧ mt_X12_isGate.1.2.1.name = "<init>" ∧ mt_X12_isGate.1.2.2.2.2 = none) := ⟨okm_X12_isGate, by decide +kernel, fun q => absurd q (by decide), fun _ => ⟨av_in_ok (h := (8, 74)) (by decide +kernel), av_in_ok (h := (0, 80)) (by decide +kernel)⟩, fun q => absurd q (by decide)⟩
theorem okm_X12_fails : av_okM av_T mt_X12_fails := ⟨av_pt_T (k := 8) (i := 79) rfl rfl, rfl, av_in_ok (h := (1, 17)) (by decide +kernel), by decide +kernel, by decide +kernel, by decide +kernel⟩
theorem okj_X12_fails : av_okM av_T mt_X12_fails ∧ (parseMethodDescriptor mt_X12_fails.1.2.1.desc).map (fun d => d.parameters.length) = some 1 ∧ (1 = 0 → Jvm.Cond.static mt_X12_fails.1.2.1 ∈ av_T) ∧ (1 = 1 → Jvm.Cond.instanceMethod mt_X12_fails.1.2.1 ∈ av_T ∧ Jvm.Cond.selects mt_X12_fails.1.1 mt_X12_fails.1.2.1 mt_X12_fails.1.2.1 ∈ av_T) ∧ (1 = 2 → Jvm.Cond.instanceMethod mt_X12_fails.1.2.1 ∈ av_T ∧ mt_X12_fails.1.2.1.name = "<init>" ∧ mt_X12_fails.1.2.2.2.2 = none) := ⟨okm_X12_fails, by decide +kernel, fun q => absurd q (by decide), fun _ => ⟨av_in_ok (h := (8, 78)) (by decide +kernel), av_in_ok (h := (0, 81)) (by decide +kernel)⟩, fun q => absurd q (by decide)⟩
theorem okm_X12_look : av_okM av_T mt_X12_look := ⟨av_pt_T (k := 8) (i := 71) rfl rfl, rfl, av_in_ok (h := (1, 17)) (by decide +kernel), by decide +kernel, by decide +kernel, by decide +kernel⟩
theorem okj_X12_look : av_okM av_T mt_X12_look ∧ (parseMethodDescriptor mt_X12_look.1.2.1.desc).map (fun d => d.parameters.length) = some 2 ∧ (1 = 0 → Jvm.Cond.static mt_X12_look.1.2.1 ∈ av_T) ∧ (1 = 1 → Jvm.Cond.instanceMethod mt_X12_look.1.2.1 ∈ av_T ∧ Jvm.Cond.selects mt_X12_look.1.1 mt_X12_look.1.2.1 mt_X12_look.1.2.1 ∈ av_T) ∧ (1 = 2 → Jvm.Cond.instanceMethod mt_X12_look.1.2.1 ∈ av_T ∧ mt_X12_look.1.2.1.name = "<init>" ∧ mt_X12_look.1.2.2.2.2 = none) := ⟨okm_X12_look, by decide +kernel, fun q => absurd q (by decide), fun _ => ⟨av_in_ok (h := (8, 69)) (by decide +kernel), av_in_ok (h := (8, 70)) (by decide +kernel)⟩, fun q => absurd q (by decide)⟩
theorem okm_X12_works : av_okM av_T mt_X12_works := ⟨av_pt_T (k := 8) (i := 95) rfl rfl, rfl, av_in_ok (h := (1, 17)) (by decide +kernel), by decide +kernel, by decide +kernel, by decide +kernel⟩
theorem okj_X12_works : av_okM av_T mt_X12_works ∧ (parseMethodDescriptor mt_X12_works.1.2.1.desc).map (fun d => d.parameters.length) = some 2 ∧ (1 = 0 → Jvm.Cond.static mt_X12_works.1.2.1 ∈ av_T) ∧ (1 = 1 → Jvm.Cond.instanceMethod mt_X12_works.1.2.1 ∈ av_T ∧ Jvm.Cond.selects mt_X12_works.1.1 mt_X12_works.1.2.1 mt_X12_works.1.2.1 ∈ av_T) ∧ (1 = 2 → Jvm.Cond.instanceMethod mt_X12_works.1.2.1 ∈ av_T ∧ mt_X12_works.1.2.1.name = "<init>" ∧ mt_X12_works.1.2.2.2.2 = none) := ⟨okm_X12_works, by decide +kernel, fun q => absurd q (by decide), fun _ => ⟨av_in_ok (h := (8, 93)) (by decide +kernel), av_in_ok (h := (8, 94)) (by decide +kernel)⟩, fun q => absurd q (by decide)⟩
theorem okm_X12_firm : av_okM av_T mt_X12_firm := ⟨av_pt_T (k := 8) (i := 99) rfl rfl, rfl, av_in_ok (h := (1, 17)) (by decide +kernel), by decide +kernel, by decide +kernel, by decide +kernel⟩
theorem okj_X12_firm : av_okM av_T mt_X12_firm ∧ (parseMethodDescriptor mt_X12_firm.1.2.1.desc).map (fun d => d.parameters.length) = some 1 ∧ (1 = 0 → Jvm.Cond.static mt_X12_firm.1.2.1 ∈ av_T) ∧ (1 = 1 → Jvm.Cond.instanceMethod mt_X12_firm.1.2.1 ∈ av_T ∧ Jvm.Cond.selects mt_X12_firm.1.1 mt_X12_firm.1.2.1 mt_X12_firm.1.2.1 ∈ av_T) ∧ (1 = 2 → Jvm.Cond.instanceMethod mt_X12_firm.1.2.1 ∈ av_T ∧ mt_X12_firm.1.2.1.name = "<init>" ∧ mt_X12_firm.1.2.2.2.2 = none) := ⟨okm_X12_firm, by decide +kernel, fun q => absurd q (by decide), fun _ => ⟨av_in_ok (h := (8, 97)) (by decide +kernel), av_in_ok (h := (8, 98)) (by decide +kernel)⟩, fun q => absurd q (by decide)⟩
theorem okm_X12_weeks : av_okM av_T mt_X12_weeks := ⟨av_pt_T (k := 8) (i := 107) rfl rfl, rfl, av_in_ok (h := (1, 17)) (by decide +kernel), by decide +kernel, by decide +kernel, by decide +kernel⟩
theorem okj_X12_weeks : av_okM av_T mt_X12_weeks ∧ (parseMethodDescriptor mt_X12_weeks.1.2.1.desc).map (fun d => d.parameters.length) = some 1 ∧ (1 = 0 → Jvm.Cond.static mt_X12_weeks.1.2.1 ∈ av_T) ∧ (1 = 1 → Jvm.Cond.instanceMethod mt_X12_weeks.1.2.1 ∈ av_T ∧ Jvm.Cond.selects mt_X12_weeks.1.1 mt_X12_weeks.1.2.1 mt_X12_weeks.1.2.1 ∈ av_T) ∧ (1 = 2 → Jvm.Cond.instanceMethod mt_X12_weeks.1.2.1 ∈ av_T ∧ mt_X12_weeks.1.2.1.name = "<init>" ∧ mt_X12_weeks.1.2.2.2.2 = none) := ⟨okm_X12_weeks, by decide +kernel, fun q => absurd q (by decide), fun _ => ⟨av_in_ok (h := (8, 105)) (by decide +kernel), av_in_ok (h := (8, 106)) (by decide +kernel)⟩, fun q => absurd q (by decide)⟩
theorem okm_X12_sags : av_okM av_T mt_X12_sags := ⟨av_pt_T (k := 8) (i := 154) rfl rfl, rfl, av_in_ok (h := (1, 17)) (by decide +kernel), by decide +kernel, by decide +kernel, by decide +kernel⟩
theorem okj_X12_sags : av_okM av_T mt_X12_sags ∧ (parseMethodDescriptor mt_X12_sags.1.2.1.desc).map (fun d => d.parameters.length) = some 2 ∧ (1 = 0 → Jvm.Cond.static mt_X12_sags.1.2.1 ∈ av_T) ∧ (1 = 1 → Jvm.Cond.instanceMethod mt_X12_sags.1.2.1 ∈ av_T ∧ Jvm.Cond.selects mt_X12_sags.1.1 mt_X12_sags.1.2.1 mt_X12_sags.1.2.1 ∈ av_T) ∧ (1 = 2 → Jvm.Cond.instanceMethod mt_X12_sags.1.2.1 ∈ av_T ∧ mt_X12_sags.1.2.1.name = "<init>" ∧ mt_X12_sags.1.2.2.2.2 = none) := ⟨okm_X12_sags, by decide +kernel, fun q => absurd q (by decide), fun _ => ⟨av_in_ok (h := (8, 152)) (by decide +kernel), av_in_ok (h := (8, 153)) (by decide +kernel)⟩, fun q => absurd q (by decide)⟩
theorem okm_X12_latched : av_okM av_T mt_X12_latched := ⟨av_pt_T (k := 8) (i := 159) rfl rfl, rfl, av_in_ok (h := (1, 17)) (by decide +kernel), by decide +kernel, by decide +kernel, by decide +kernel⟩
theorem okj_X12_latched : av_okM av_T mt_X12_latched ∧ (parseMethodDescriptor mt_X12_latched.1.2.1.desc).map (fun d => d.parameters.length) = some 1 ∧ (1 = 0 → Jvm.Cond.static mt_X12_latched.1.2.1 ∈ av_T) ∧ (1 = 1 → Jvm.Cond.instanceMethod mt_X12_latched.1.2.1 ∈ av_T ∧ Jvm.Cond.selects mt_X12_latched.1.1 mt_X12_latched.1.2.1 mt_X12_latched.1.2.1 ∈ av_T) ∧ (1 = 2 → Jvm.Cond.instanceMethod mt_X12_latched.1.2.1 ∈ av_T ∧ mt_X12_latched.1.2.1.name = "<init>" ∧ mt_X12_latched.1.2.2.2.2 = none) := ⟨okm_X12_latched, by decide +kernel, fun q => absurd q (by decide), fun _ => ⟨av_in_ok (h := (8, 157)) (by decide +kernel), av_in_ok (h := (8, 158)) (by decide +kernel)⟩, fun q => absurd q (by decide)⟩
theorem okm_X12_gives : av_okM av_T mt_X12_gives := ⟨av_pt_T (k := 8) (i := 167) rfl rfl, rfl, av_in_ok (h := (1, 17)) (by decide +kernel), by decide +kernel, by decide +kernel, by decide +kernel⟩
theorem okj_X12_gives : av_okM av_T mt_X12_gives ∧ (parseMethodDescriptor mt_X12_gives.1.2.1.desc).map (fun d => d.parameters.length) = some 1 ∧ (1 = 0 → Jvm.Cond.static mt_X12_gives.1.2.1 ∈ av_T) ∧ (1 = 1 → Jvm.Cond.instanceMethod mt_X12_gives.1.2.1 ∈ av_T ∧ Jvm.Cond.selects mt_X12_gives.1.1 mt_X12_gives.1.2.1 mt_X12_gives.1.2.1 ∈ av_T) ∧ (1 = 2 → Jvm.Cond.instanceMethod mt_X12_gives.1.2.1 ∈ av_T ∧ mt_X12_gives.1.2.1.name = "<init>" ∧ mt_X12_gives.1.2.2.2.2 = none) := ⟨okm_X12_gives, by decide +kernel, fun q => absurd q (by decide), fun _ => ⟨av_in_ok (h := (8, 165)) (by decide +kernel), av_in_ok (h := (8, 166)) (by decide +kernel)⟩, fun q => absurd q (by decide)⟩
theorem okm_X12_work : av_okM av_T mt_X12_work := ⟨av_pt_T (k := 8) (i := 171) rfl rfl, rfl, av_in_ok (h := (1, 17)) (by decide +kernel), by decide +kernel, by decide +kernel, by decide +kernel⟩
theorem okj_X12_work : av_okM av_T mt_X12_work ∧ (parseMethodDescriptor mt_X12_work.1.2.1.desc).map (fun d => d.parameters.length) = some 2 ∧ (1 = 0 → Jvm.Cond.static mt_X12_work.1.2.1 ∈ av_T) ∧ (1 = 1 → Jvm.Cond.instanceMethod mt_X12_work.1.2.1 ∈ av_T ∧ Jvm.Cond.selects mt_X12_work.1.1 mt_X12_work.1.2.1 mt_X12_work.1.2.1 ∈ av_T) ∧ (1 = 2 → Jvm.Cond.instanceMethod mt_X12_work.1.2.1 ∈ av_T ∧ mt_X12_work.1.2.1.name = "<init>" ∧ mt_X12_work.1.2.2.2.2 = none) := ⟨okm_X12_work, by decide +kernel, fun q => absurd q (by decide), fun _ => ⟨av_in_ok (h := (8, 169)) (by decide +kernel), av_in_ok (h := (8, 170)) (by decide +kernel)⟩, fun q => absurd q (by decide)⟩
theorem okm_X12_undo : av_okM av_T mt_X12_undo := ⟨av_pt_T (k := 8) (i := 179) rfl rfl, rfl, av_in_ok (h := (1, 17)) (by decide +kernel), by decide +kernel, by decide +kernel, by decide +kernel⟩
theorem okj_X12_undo : av_okM av_T mt_X12_undo ∧ (parseMethodDescriptor mt_X12_undo.1.2.1.desc).map (fun d => d.parameters.length) = some 0 ∧ (1 = 0 → Jvm.Cond.static mt_X12_undo.1.2.1 ∈ av_T) ∧ (1 = 1 → Jvm.Cond.instanceMethod mt_X12_undo.1.2.1 ∈ av_T ∧ Jvm.Cond.selects mt_X12_undo.1.1 mt_X12_undo.1.2.1 mt_X12_undo.1.2.1 ∈ av_T) ∧ (1 = 2 → Jvm.Cond.instanceMethod mt_X12_undo.1.2.1 ∈ av_T ∧ mt_X12_undo.1.2.1.name = "<init>" ∧ mt_X12_undo.1.2.2.2.2 = none) := ⟨okm_X12_undo, by decide +kernel, fun q => absurd q (by decide), fun _ => ⟨av_in_ok (h := (8, 177)) (by decide +kernel), av_in_ok (h := (8, 178)) (by decide +kernel)⟩, fun q => absurd q (by decide)⟩
theorem okm_X12_lasts : av_okM av_T mt_X12_lasts := ⟨av_pt_T (k := 8) (i := 183) rfl rfl, rfl, av_in_ok (h := (1, 17)) (by decide +kernel), by decide +kernel, by decide +kernel, by decide +kernel⟩
theorem okj_X12_lasts : av_okM av_T mt_X12_lasts ∧ (parseMethodDescriptor mt_X12_lasts.1.2.1.desc).map (fun d => d.parameters.length) = some 2 ∧ (1 = 0 → Jvm.Cond.static mt_X12_lasts.1.2.1 ∈ av_T) ∧ (1 = 1 → Jvm.Cond.instanceMethod mt_X12_lasts.1.2.1 ∈ av_T ∧ Jvm.Cond.selects mt_X12_lasts.1.1 mt_X12_lasts.1.2.1 mt_X12_lasts.1.2.1 ∈ av_T) ∧ (1 = 2 → Jvm.Cond.instanceMethod mt_X12_lasts.1.2.1 ∈ av_T ∧ mt_X12_lasts.1.2.1.name = "<init>" ∧ mt_X12_lasts.1.2.2.2.2 = none) := ⟨okm_X12_lasts, by decide +kernel, fun q => absurd q (by decide), fun _ => ⟨av_in_ok (h := (8, 181)) (by decide +kernel), av_in_ok (h := (8, 182)) (by decide +kernel)⟩, fun q => absurd q (by decide)⟩
theorem okm_X12_least : av_okM av_T mt_X12_least := ⟨av_pt_T (k := 8) (i := 192) rfl rfl, rfl, av_in_ok (h := (1, 17)) (by decide +kernel), by decide +kernel, by decide +kernel, by decide +kernel⟩
theorem okj_X12_least : av_okM av_T mt_X12_least ∧ (parseMethodDescriptor mt_X12_least.1.2.1.desc).map (fun d => d.parameters.length) = some 4 ∧ (1 = 0 → Jvm.Cond.static mt_X12_least.1.2.1 ∈ av_T) ∧ (1 = 1 → Jvm.Cond.instanceMethod mt_X12_least.1.2.1 ∈ av_T ∧ Jvm.Cond.selects mt_X12_least.1.1 mt_X12_least.1.2.1 mt_X12_least.1.2.1 ∈ av_T) ∧ (1 = 2 → Jvm.Cond.instanceMethod mt_X12_least.1.2.1 ∈ av_T ∧ mt_X12_least.1.2.1.name = "<init>" ∧ mt_X12_least.1.2.2.2.2 = none) := ⟨okm_X12_least, by decide +kernel, fun q => absurd q (by decide), fun _ => ⟨av_in_ok (h := (8, 190)) (by decide +kernel), av_in_ok (h := (8, 191)) (by decide +kernel)⟩, fun q => absurd q (by decide)⟩
theorem okm_X12_way : av_okM av_T mt_X12_way := ⟨av_pt_T (k := 8) (i := 200) rfl rfl, rfl, av_in_ok (h := (1, 17)) (by decide +kernel), by decide +kernel, by decide +kernel, by decide +kernel⟩
theorem okj_X12_way : av_okM av_T mt_X12_way ∧ (parseMethodDescriptor mt_X12_way.1.2.1.desc).map (fun d => d.parameters.length) = some 2 ∧ (1 = 0 → Jvm.Cond.static mt_X12_way.1.2.1 ∈ av_T) ∧ (1 = 1 → Jvm.Cond.instanceMethod mt_X12_way.1.2.1 ∈ av_T ∧ Jvm.Cond.selects mt_X12_way.1.1 mt_X12_way.1.2.1 mt_X12_way.1.2.1 ∈ av_T) ∧ (1 = 2 → Jvm.Cond.instanceMethod mt_X12_way.1.2.1 ∈ av_T ∧ mt_X12_way.1.2.1.name = "<init>" ∧ mt_X12_way.1.2.2.2.2 = none) := ⟨okm_X12_way, by decide +kernel, fun q => absurd q (by decide), fun _ => ⟨av_in_ok (h := (8, 198)) (by decide +kernel), av_in_ok (h := (8, 199)) (by decide +kernel)⟩, fun q => absurd q (by decide)⟩
theorem okm_X12_enough : av_okM av_T mt_X12_enough := ⟨av_pt_T (k := 8) (i := 208) rfl rfl, rfl, av_in_ok (h := (1, 17)) (by decide +kernel), by decide +kernel, by decide +kernel, by decide +kernel⟩
theorem okj_X12_enough : av_okM av_T mt_X12_enough ∧ (parseMethodDescriptor mt_X12_enough.1.2.1.desc).map (fun d => d.parameters.length) = some 3 ∧ (1 = 0 → Jvm.Cond.static mt_X12_enough.1.2.1 ∈ av_T) ∧ (1 = 1 → Jvm.Cond.instanceMethod mt_X12_enough.1.2.1 ∈ av_T ∧ Jvm.Cond.selects mt_X12_enough.1.1 mt_X12_enough.1.2.1 mt_X12_enough.1.2.1 ∈ av_T) ∧ (1 = 2 → Jvm.Cond.instanceMethod mt_X12_enough.1.2.1 ∈ av_T ∧ mt_X12_enough.1.2.1.name = "<init>" ∧ mt_X12_enough.1.2.2.2.2 = none) := ⟨okm_X12_enough, by decide +kernel, fun q => absurd q (by decide), fun _ => ⟨av_in_ok (h := (8, 206)) (by decide +kernel), av_in_ok (h := (8, 207)) (by decide +kernel)⟩, fun q => absurd q (by decide)⟩
theorem okm_X12_bears : av_okM av_T mt_X12_bears := ⟨av_pt_T (k := 8) (i := 212) rfl rfl, rfl, av_in_ok (h := (1, 17)) (by decide +kernel), by decide +kernel, by decide +kernel, by decide +kernel⟩
theorem okj_X12_bears : av_okM av_T mt_X12_bears ∧ (parseMethodDescriptor mt_X12_bears.1.2.1.desc).map (fun d => d.parameters.length) = some 3 ∧ (1 = 0 → Jvm.Cond.static mt_X12_bears.1.2.1 ∈ av_T) ∧ (1 = 1 → Jvm.Cond.instanceMethod mt_X12_bears.1.2.1 ∈ av_T ∧ Jvm.Cond.selects mt_X12_bears.1.1 mt_X12_bears.1.2.1 mt_X12_bears.1.2.1 ∈ av_T) ∧ (1 = 2 → Jvm.Cond.instanceMethod mt_X12_bears.1.2.1 ∈ av_T ∧ mt_X12_bears.1.2.1.name = "<init>" ∧ mt_X12_bears.1.2.2.2.2 = none) := ⟨okm_X12_bears, by decide +kernel, fun q => absurd q (by decide), fun _ => ⟨av_in_ok (h := (8, 210)) (by decide +kernel), av_in_ok (h := (8, 211)) (by decide +kernel)⟩, fun q => absurd q (by decide)⟩
theorem okm_X12_knock : av_okM av_T mt_X12_knock := ⟨av_pt_T (k := 8) (i := 216) rfl rfl, rfl, av_in_ok (h := (1, 17)) (by decide +kernel), by decide +kernel, by decide +kernel, by decide +kernel⟩
theorem okj_X12_knock : av_okM av_T mt_X12_knock ∧ (parseMethodDescriptor mt_X12_knock.1.2.1.desc).map (fun d => d.parameters.length) = some 2 ∧ (1 = 0 → Jvm.Cond.static mt_X12_knock.1.2.1 ∈ av_T) ∧ (1 = 1 → Jvm.Cond.instanceMethod mt_X12_knock.1.2.1 ∈ av_T ∧ Jvm.Cond.selects mt_X12_knock.1.1 mt_X12_knock.1.2.1 mt_X12_knock.1.2.1 ∈ av_T) ∧ (1 = 2 → Jvm.Cond.instanceMethod mt_X12_knock.1.2.1 ∈ av_T ∧ mt_X12_knock.1.2.1.name = "<init>" ∧ mt_X12_knock.1.2.2.2.2 = none) := ⟨okm_X12_knock, by decide +kernel, fun q => absurd q (by decide), fun _ => ⟨av_in_ok (h := (8, 214)) (by decide +kernel), av_in_ok (h := (8, 215)) (by decide +kernel)⟩, fun q => absurd q (by decide)⟩
theorem okm_X12_measure : av_okM av_T mt_X12_measure := ⟨av_pt_T (k := 8) (i := 221) rfl rfl, rfl, av_in_ok (h := (1, 17)) (by decide +kernel), by decide +kernel, by decide +kernel, by decide +kernel⟩
theorem okj_X12_measure : av_okM av_T mt_X12_measure ∧ (parseMethodDescriptor mt_X12_measure.1.2.1.desc).map (fun d => d.parameters.length) = some 5 ∧ (1 = 0 → Jvm.Cond.static mt_X12_measure.1.2.1 ∈ av_T) ∧ (1 = 1 → Jvm.Cond.instanceMethod mt_X12_measure.1.2.1 ∈ av_T ∧ Jvm.Cond.selects mt_X12_measure.1.1 mt_X12_measure.1.2.1 mt_X12_measure.1.2.1 ∈ av_T) ∧ (1 = 2 → Jvm.Cond.instanceMethod mt_X12_measure.1.2.1 ∈ av_T ∧ mt_X12_measure.1.2.1.name = "<init>" ∧ mt_X12_measure.1.2.2.2.2 = none) := ⟨okm_X12_measure, by decide +kernel, fun q => absurd q (by decide), fun _ => ⟨av_in_ok (h := (8, 219)) (by decide +kernel), av_in_ok (h := (8, 220)) (by decide +kernel)⟩, fun q => absurd q (by decide)⟩
theorem okm_X12_strike : av_okM av_T mt_X12_strike := ⟨av_pt_T (k := 8) (i := 227) rfl rfl, rfl, av_in_ok (h := (1, 17)) (by decide +kernel), by decide +kernel, by decide +kernel, by decide +kernel⟩
theorem okj_X12_strike : av_okM av_T mt_X12_strike ∧ (parseMethodDescriptor mt_X12_strike.1.2.1.desc).map (fun d => d.parameters.length) = some 1 ∧ (1 = 0 → Jvm.Cond.static mt_X12_strike.1.2.1 ∈ av_T) ∧ (1 = 1 → Jvm.Cond.instanceMethod mt_X12_strike.1.2.1 ∈ av_T ∧ Jvm.Cond.selects mt_X12_strike.1.1 mt_X12_strike.1.2.1 mt_X12_strike.1.2.1 ∈ av_T) ∧ (1 = 2 → Jvm.Cond.instanceMethod mt_X12_strike.1.2.1 ∈ av_T ∧ mt_X12_strike.1.2.1.name = "<init>" ∧ mt_X12_strike.1.2.2.2.2 = none) := ⟨okm_X12_strike, by decide +kernel, fun q => absurd q (by decide), fun _ => ⟨av_in_ok (h := (8, 225)) (by decide +kernel), av_in_ok (h := (8, 226)) (by decide +kernel)⟩, fun q => absurd q (by decide)⟩
theorem okm_X12_known : av_okM av_T mt_X12_known := ⟨av_pt_T (k := 8) (i := 231) rfl rfl, rfl, av_in_ok (h := (1, 17)) (by decide +kernel), by decide +kernel, by decide +kernel, by decide +kernel⟩
theorem okj_X12_known : av_okM av_T mt_X12_known ∧ (parseMethodDescriptor mt_X12_known.1.2.1.desc).map (fun d => d.parameters.length) = some 1 ∧ (1 = 0 → Jvm.Cond.static mt_X12_known.1.2.1 ∈ av_T) ∧ (1 = 1 → Jvm.Cond.instanceMethod mt_X12_known.1.2.1 ∈ av_T ∧ Jvm.Cond.selects mt_X12_known.1.1 mt_X12_known.1.2.1 mt_X12_known.1.2.1 ∈ av_T) ∧ (1 = 2 → Jvm.Cond.instanceMethod mt_X12_known.1.2.1 ∈ av_T ∧ mt_X12_known.1.2.1.name = "<init>" ∧ mt_X12_known.1.2.2.2.2 = none) := ⟨okm_X12_known, by decide +kernel, fun q => absurd q (by decide), fun _ => ⟨av_in_ok (h := (8, 229)) (by decide +kernel), av_in_ok (h := (8, 230)) (by decide +kernel)⟩, fun q => absurd q (by decide)⟩
theorem okm_X12_knownMany : av_okM av_T mt_X12_knownMany := ⟨av_pt_T (k := 9) (i := 7) rfl rfl, rfl, av_in_ok (h := (1, 17)) (by decide +kernel), by decide +kernel, by decide +kernel, by decide +kernel⟩
theorem okj_X12_knownMany : av_okM av_T mt_X12_knownMany ∧ (parseMethodDescriptor mt_X12_knownMany.1.2.1.desc).map (fun d => d.parameters.length) = some 0 ∧ (1 = 0 → Jvm.Cond.static mt_X12_knownMany.1.2.1 ∈ av_T) ∧ (1 = 1 → Jvm.Cond.instanceMethod mt_X12_knownMany.1.2.1 ∈ av_T ∧ Jvm.Cond.selects mt_X12_knownMany.1.1 mt_X12_knownMany.1.2.1 mt_X12_knownMany.1.2.1 ∈ av_T) ∧ (1 = 2 → Jvm.Cond.instanceMethod mt_X12_knownMany.1.2.1 ∈ av_T ∧ mt_X12_knownMany.1.2.1.name = "<init>" ∧ mt_X12_knownMany.1.2.2.2.2 = none) := ⟨okm_X12_knownMany, by decide +kernel, fun q => absurd q (by decide), fun _ => ⟨av_in_ok (h := (9, 6)) (by decide +kernel), av_in_ok (h := (0, 101)) (by decide +kernel)⟩, fun q => absurd q (by decide)⟩
theorem okm_X12_fits : av_okM av_T mt_X12_fits := ⟨av_pt_T (k := 8) (i := 235) rfl rfl, rfl, av_in_ok (h := (1, 17)) (by decide +kernel), by decide +kernel, by decide +kernel, by decide +kernel⟩
theorem okj_X12_fits : av_okM av_T mt_X12_fits ∧ (parseMethodDescriptor mt_X12_fits.1.2.1.desc).map (fun d => d.parameters.length) = some 1 ∧ (1 = 0 → Jvm.Cond.static mt_X12_fits.1.2.1 ∈ av_T) ∧ (1 = 1 → Jvm.Cond.instanceMethod mt_X12_fits.1.2.1 ∈ av_T ∧ Jvm.Cond.selects mt_X12_fits.1.1 mt_X12_fits.1.2.1 mt_X12_fits.1.2.1 ∈ av_T) ∧ (1 = 2 → Jvm.Cond.instanceMethod mt_X12_fits.1.2.1 ∈ av_T ∧ mt_X12_fits.1.2.1.name = "<init>" ∧ mt_X12_fits.1.2.2.2.2 = none) := ⟨okm_X12_fits, by decide +kernel, fun q => absurd q (by decide), fun _ => ⟨av_in_ok (h := (8, 233)) (by decide +kernel), av_in_ok (h := (8, 234)) (by decide +kernel)⟩, fun q => absurd q (by decide)⟩
theorem okm_X12_odds : av_okM av_T mt_X12_odds := ⟨av_pt_T (k := 9) (i := 27) rfl rfl, rfl, av_in_ok (h := (1, 17)) (by decide +kernel), by decide +kernel, by decide +kernel, by decide +kernel⟩
theorem okj_X12_odds : av_okM av_T mt_X12_odds ∧ (parseMethodDescriptor mt_X12_odds.1.2.1.desc).map (fun d => d.parameters.length) = some 3 ∧ (1 = 0 → Jvm.Cond.static mt_X12_odds.1.2.1 ∈ av_T) ∧ (1 = 1 → Jvm.Cond.instanceMethod mt_X12_odds.1.2.1 ∈ av_T ∧ Jvm.Cond.selects mt_X12_odds.1.1 mt_X12_odds.1.2.1 mt_X12_odds.1.2.1 ∈ av_T) ∧ (1 = 2 → Jvm.Cond.instanceMethod mt_X12_odds.1.2.1 ∈ av_T ∧ mt_X12_odds.1.2.1.name = "<init>" ∧ mt_X12_odds.1.2.2.2.2 = none) := ⟨okm_X12_odds, by decide +kernel, fun q => absurd q (by decide), fun _ => ⟨av_in_ok (h := (9, 25)) (by decide +kernel), av_in_ok (h := (9, 26)) (by decide +kernel)⟩, fun q => absurd q (by decide)⟩
theorem okm_X12_test : av_okM av_T mt_X12_test := ⟨av_pt_T (k := 9) (i := 38) rfl rfl, rfl, av_in_ok (h := (1, 17)) (by decide +kernel), by decide +kernel, by decide +kernel, by decide +kernel⟩
theorem okj_X12_test : av_okM av_T mt_X12_test ∧ (parseMethodDescriptor mt_X12_test.1.2.1.desc).map (fun d => d.parameters.length) = some 2 ∧ (1 = 0 → Jvm.Cond.static mt_X12_test.1.2.1 ∈ av_T) ∧ (1 = 1 → Jvm.Cond.instanceMethod mt_X12_test.1.2.1 ∈ av_T ∧ Jvm.Cond.selects mt_X12_test.1.1 mt_X12_test.1.2.1 mt_X12_test.1.2.1 ∈ av_T) ∧ (1 = 2 → Jvm.Cond.instanceMethod mt_X12_test.1.2.1 ∈ av_T ∧ mt_X12_test.1.2.1.name = "<init>" ∧ mt_X12_test.1.2.2.2.2 = none) := ⟨okm_X12_test, by decide +kernel, fun q => absurd q (by decide), fun _ => ⟨av_in_ok (h := (9, 36)) (by decide +kernel), av_in_ok (h := (9, 37)) (by decide +kernel)⟩, fun q => absurd q (by decide)⟩
theorem okm_X12_low : av_okM av_T mt_X12_low := ⟨av_pt_T (k := 9) (i := 46) rfl rfl, rfl, av_in_ok (h := (1, 17)) (by decide +kernel), by decide +kernel, by decide +kernel, by decide +kernel⟩
theorem okj_X12_low : av_okM av_T mt_X12_low ∧ (parseMethodDescriptor mt_X12_low.1.2.1.desc).map (fun d => d.parameters.length) = some 2 ∧ (1 = 0 → Jvm.Cond.static mt_X12_low.1.2.1 ∈ av_T) ∧ (1 = 1 → Jvm.Cond.instanceMethod mt_X12_low.1.2.1 ∈ av_T ∧ Jvm.Cond.selects mt_X12_low.1.1 mt_X12_low.1.2.1 mt_X12_low.1.2.1 ∈ av_T) ∧ (1 = 2 → Jvm.Cond.instanceMethod mt_X12_low.1.2.1 ∈ av_T ∧ mt_X12_low.1.2.1.name = "<init>" ∧ mt_X12_low.1.2.2.2.2 = none) := ⟨okm_X12_low, by decide +kernel, fun q => absurd q (by decide), fun _ => ⟨av_in_ok (h := (9, 44)) (by decide +kernel), av_in_ok (h := (9, 45)) (by decide +kernel)⟩, fun q => absurd q (by decide)⟩
theorem okm_X12_rest : av_okM av_T mt_X12_rest := ⟨av_pt_T (k := 9) (i := 58) rfl rfl, rfl, av_in_ok (h := (1, 17)) (by decide +kernel), by decide +kernel, by decide +kernel, by decide +kernel⟩
theorem okj_X12_rest : av_okM av_T mt_X12_rest ∧ (parseMethodDescriptor mt_X12_rest.1.2.1.desc).map (fun d => d.parameters.length) = some 1 ∧ (1 = 0 → Jvm.Cond.static mt_X12_rest.1.2.1 ∈ av_T) ∧ (1 = 1 → Jvm.Cond.instanceMethod mt_X12_rest.1.2.1 ∈ av_T ∧ Jvm.Cond.selects mt_X12_rest.1.1 mt_X12_rest.1.2.1 mt_X12_rest.1.2.1 ∈ av_T) ∧ (1 = 2 → Jvm.Cond.instanceMethod mt_X12_rest.1.2.1 ∈ av_T ∧ mt_X12_rest.1.2.1.name = "<init>" ∧ mt_X12_rest.1.2.2.2.2 = none) := ⟨okm_X12_rest, by decide +kernel, fun q => absurd q (by decide), fun _ => ⟨av_in_ok (h := (9, 56)) (by decide +kernel), av_in_ok (h := (9, 57)) (by decide +kernel)⟩, fun q => absurd q (by decide)⟩
theorem okm_X12_shuts : av_okM av_T mt_X12_shuts := ⟨av_pt_T (k := 9) (i := 62) rfl rfl, rfl, av_in_ok (h := (1, 17)) (by decide +kernel), by decide +kernel, by decide +kernel, by decide +kernel⟩
theorem okj_X12_shuts : av_okM av_T mt_X12_shuts ∧ (parseMethodDescriptor mt_X12_shuts.1.2.1.desc).map (fun d => d.parameters.length) = some 1 ∧ (1 = 0 → Jvm.Cond.static mt_X12_shuts.1.2.1 ∈ av_T) ∧ (1 = 1 → Jvm.Cond.instanceMethod mt_X12_shuts.1.2.1 ∈ av_T ∧ Jvm.Cond.selects mt_X12_shuts.1.1 mt_X12_shuts.1.2.1 mt_X12_shuts.1.2.1 ∈ av_T) ∧ (1 = 2 → Jvm.Cond.instanceMethod mt_X12_shuts.1.2.1 ∈ av_T ∧ mt_X12_shuts.1.2.1.name = "<init>" ∧ mt_X12_shuts.1.2.2.2.2 = none) := ⟨okm_X12_shuts, by decide +kernel, fun q => absurd q (by decide), fun _ => ⟨av_in_ok (h := (9, 60)) (by decide +kernel), av_in_ok (h := (9, 61)) (by decide +kernel)⟩, fun q => absurd q (by decide)⟩
theorem okm_X12_above : av_okM av_T mt_X12_above := ⟨av_pt_T (k := 9) (i := 70) rfl rfl, rfl, av_in_ok (h := (1, 17)) (by decide +kernel), by decide +kernel, by decide +kernel, by decide +kernel⟩
theorem okj_X12_above : av_okM av_T mt_X12_above ∧ (parseMethodDescriptor mt_X12_above.1.2.1.desc).map (fun d => d.parameters.length) = some 2 ∧ (1 = 0 → Jvm.Cond.static mt_X12_above.1.2.1 ∈ av_T) ∧ (1 = 1 → Jvm.Cond.instanceMethod mt_X12_above.1.2.1 ∈ av_T ∧ Jvm.Cond.selects mt_X12_above.1.1 mt_X12_above.1.2.1 mt_X12_above.1.2.1 ∈ av_T) ∧ (1 = 2 → Jvm.Cond.instanceMethod mt_X12_above.1.2.1 ∈ av_T ∧ mt_X12_above.1.2.1.name = "<init>" ∧ mt_X12_above.1.2.2.2.2 = none) := ⟨okm_X12_above, by decide +kernel, fun q => absurd q (by decide), fun _ => ⟨av_in_ok (h := (9, 68)) (by decide +kernel), av_in_ok (h := (9, 69)) (by decide +kernel)⟩, fun q => absurd q (by decide)⟩
theorem okm_X12_opens : av_okM av_T mt_X12_opens := ⟨av_pt_T (k := 9) (i := 80) rfl rfl, rfl, av_in_ok (h := (1, 17)) (by decide +kernel), by decide +kernel, by decide +kernel, by decide +kernel⟩
theorem okj_X12_opens : av_okM av_T mt_X12_opens ∧ (parseMethodDescriptor mt_X12_opens.1.2.1.desc).map (fun d => d.parameters.length) = some 1 ∧ (1 = 0 → Jvm.Cond.static mt_X12_opens.1.2.1 ∈ av_T) ∧ (1 = 1 → Jvm.Cond.instanceMethod mt_X12_opens.1.2.1 ∈ av_T ∧ Jvm.Cond.selects mt_X12_opens.1.1 mt_X12_opens.1.2.1 mt_X12_opens.1.2.1 ∈ av_T) ∧ (1 = 2 → Jvm.Cond.instanceMethod mt_X12_opens.1.2.1 ∈ av_T ∧ mt_X12_opens.1.2.1.name = "<init>" ∧ mt_X12_opens.1.2.2.2.2 = none) := ⟨okm_X12_opens, by decide +kernel, fun q => absurd q (by decide), fun _ => ⟨av_in_ok (h := (9, 78)) (by decide +kernel), av_in_ok (h := (9, 79)) (by decide +kernel)⟩, fun q => absurd q (by decide)⟩
theorem okm_X12_stand : av_okM av_T mt_X12_stand := ⟨av_pt_T (k := 9) (i := 88) rfl rfl, rfl, av_in_ok (h := (1, 17)) (by decide +kernel), by decide +kernel, by decide +kernel, by decide +kernel⟩
theorem okj_X12_stand : av_okM av_T mt_X12_stand ∧ (parseMethodDescriptor mt_X12_stand.1.2.1.desc).map (fun d => d.parameters.length) = some 3 ∧ (1 = 0 → Jvm.Cond.static mt_X12_stand.1.2.1 ∈ av_T) ∧ (1 = 1 → Jvm.Cond.instanceMethod mt_X12_stand.1.2.1 ∈ av_T ∧ Jvm.Cond.selects mt_X12_stand.1.1 mt_X12_stand.1.2.1 mt_X12_stand.1.2.1 ∈ av_T) ∧ (1 = 2 → Jvm.Cond.instanceMethod mt_X12_stand.1.2.1 ∈ av_T ∧ mt_X12_stand.1.2.1.name = "<init>" ∧ mt_X12_stand.1.2.2.2.2 = none) := ⟨okm_X12_stand, by decide +kernel, fun q => absurd q (by decide), fun _ => ⟨av_in_ok (h := (9, 86)) (by decide +kernel), av_in_ok (h := (9, 87)) (by decide +kernel)⟩, fun q => absurd q (by decide)⟩
theorem okm_X12_first : av_okM av_T mt_X12_first := ⟨av_pt_T (k := 9) (i := 95) rfl rfl, rfl, av_in_ok (h := (1, 17)) (by decide +kernel), by decide +kernel, by decide +kernel, by decide +kernel⟩
theorem okj_X12_first : av_okM av_T mt_X12_first ∧ (parseMethodDescriptor mt_X12_first.1.2.1.desc).map (fun d => d.parameters.length) = some 2 ∧ (1 = 0 → Jvm.Cond.static mt_X12_first.1.2.1 ∈ av_T) ∧ (1 = 1 → Jvm.Cond.instanceMethod mt_X12_first.1.2.1 ∈ av_T ∧ Jvm.Cond.selects mt_X12_first.1.1 mt_X12_first.1.2.1 mt_X12_first.1.2.1 ∈ av_T) ∧ (1 = 2 → Jvm.Cond.instanceMethod mt_X12_first.1.2.1 ∈ av_T ∧ mt_X12_first.1.2.1.name = "<init>" ∧ mt_X12_first.1.2.2.2.2 = none) := ⟨okm_X12_first, by decide +kernel, fun q => absurd q (by decide), fun _ => ⟨av_in_ok (h := (9, 93)) (by decide +kernel), av_in_ok (h := (9, 94)) (by decide +kernel)⟩, fun q => absurd q (by decide)⟩
theorem okm_X12_wind : av_okM av_T mt_X12_wind := ⟨av_pt_T (k := 9) (i := 110) rfl rfl, rfl, av_in_ok (h := (1, 17)) (by decide +kernel), by decide +kernel, by decide +kernel, by decide +kernel⟩
theorem okj_X12_wind : av_okM av_T mt_X12_wind ∧ (parseMethodDescriptor mt_X12_wind.1.2.1.desc).map (fun d => d.parameters.length) = some 5 ∧ (1 = 0 → Jvm.Cond.static mt_X12_wind.1.2.1 ∈ av_T) ∧ (1 = 1 → Jvm.Cond.instanceMethod mt_X12_wind.1.2.1 ∈ av_T ∧ Jvm.Cond.selects mt_X12_wind.1.1 mt_X12_wind.1.2.1 mt_X12_wind.1.2.1 ∈ av_T) ∧ (1 = 2 → Jvm.Cond.instanceMethod mt_X12_wind.1.2.1 ∈ av_T ∧ mt_X12_wind.1.2.1.name = "<init>" ∧ mt_X12_wind.1.2.2.2.2 = none) := ⟨okm_X12_wind, by decide +kernel, fun q => absurd q (by decide), fun _ => ⟨av_in_ok (h := (9, 108)) (by decide +kernel), av_in_ok (h := (9, 109)) (by decide +kernel)⟩, fun q => absurd q (by decide)⟩
theorem okm_X12_keep : av_okM av_T mt_X12_keep := ⟨av_pt_T (k := 9) (i := 118) rfl rfl, rfl, av_in_ok (h := (1, 17)) (by decide +kernel), by decide +kernel, by decide +kernel, by decide +kernel⟩
theorem okj_X12_keep : av_okM av_T mt_X12_keep ∧ (parseMethodDescriptor mt_X12_keep.1.2.1.desc).map (fun d => d.parameters.length) = some 0 ∧ (1 = 0 → Jvm.Cond.static mt_X12_keep.1.2.1 ∈ av_T) ∧ (1 = 1 → Jvm.Cond.instanceMethod mt_X12_keep.1.2.1 ∈ av_T ∧ Jvm.Cond.selects mt_X12_keep.1.1 mt_X12_keep.1.2.1 mt_X12_keep.1.2.1 ∈ av_T) ∧ (1 = 2 → Jvm.Cond.instanceMethod mt_X12_keep.1.2.1 ∈ av_T ∧ mt_X12_keep.1.2.1.name = "<init>" ∧ mt_X12_keep.1.2.2.2.2 = none) := ⟨okm_X12_keep, by decide +kernel, fun q => absurd q (by decide), fun _ => ⟨av_in_ok (h := (9, 116)) (by decide +kernel), av_in_ok (h := (9, 117)) (by decide +kernel)⟩, fun q => absurd q (by decide)⟩
theorem okm_X12_back : av_okM av_T mt_X12_back := ⟨av_pt_T (k := 9) (i := 122) rfl rfl, rfl, av_in_ok (h := (1, 17)) (by decide +kernel), by decide +kernel, by decide +kernel, by decide +kernel⟩
theorem okj_X12_back : av_okM av_T mt_X12_back ∧ (parseMethodDescriptor mt_X12_back.1.2.1.desc).map (fun d => d.parameters.length) = some 0 ∧ (1 = 0 → Jvm.Cond.static mt_X12_back.1.2.1 ∈ av_T) ∧ (1 = 1 → Jvm.Cond.instanceMethod mt_X12_back.1.2.1 ∈ av_T ∧ Jvm.Cond.selects mt_X12_back.1.1 mt_X12_back.1.2.1 mt_X12_back.1.2.1 ∈ av_T) ∧ (1 = 2 → Jvm.Cond.instanceMethod mt_X12_back.1.2.1 ∈ av_T ∧ mt_X12_back.1.2.1.name = "<init>" ∧ mt_X12_back.1.2.2.2.2 = none) := ⟨okm_X12_back, by decide +kernel, fun q => absurd q (by decide), fun _ => ⟨av_in_ok (h := (9, 120)) (by decide +kernel), av_in_ok (h := (9, 121)) (by decide +kernel)⟩, fun q => absurd q (by decide)⟩
theorem okm_X12_count : av_okM av_T mt_X12_count := ⟨av_pt_T (k := 9) (i := 126) rfl rfl, rfl, av_in_ok (h := (1, 17)) (by decide +kernel), by decide +kernel, by decide +kernel, by decide +kernel⟩
theorem okj_X12_count : av_okM av_T mt_X12_count ∧ (parseMethodDescriptor mt_X12_count.1.2.1.desc).map (fun d => d.parameters.length) = some 1 ∧ (1 = 0 → Jvm.Cond.static mt_X12_count.1.2.1 ∈ av_T) ∧ (1 = 1 → Jvm.Cond.instanceMethod mt_X12_count.1.2.1 ∈ av_T ∧ Jvm.Cond.selects mt_X12_count.1.1 mt_X12_count.1.2.1 mt_X12_count.1.2.1 ∈ av_T) ∧ (1 = 2 → Jvm.Cond.instanceMethod mt_X12_count.1.2.1 ∈ av_T ∧ mt_X12_count.1.2.1.name = "<init>" ∧ mt_X12_count.1.2.2.2.2 = none) := ⟨okm_X12_count, by decide +kernel, fun q => absurd q (by decide), fun _ => ⟨av_in_ok (h := (9, 124)) (by decide +kernel), av_in_ok (h := (9, 125)) (by decide +kernel)⟩, fun q => absurd q (by decide)⟩
theorem okm_J0_length_8abf5 : av_okM av_T mt_J0_length_8abf5 := ⟨av_pt_T (k := 2) (i := 22) rfl rfl, rfl, av_in_ok (h := (1, 6)) (by decide +kernel), by decide +kernel, by decide +kernel, by decide +kernel⟩
theorem okj_J0_length_8abf5 : av_okM av_T mt_J0_length_8abf5 ∧ (parseMethodDescriptor mt_J0_length_8abf5.1.2.1.desc).map (fun d => d.parameters.length) = some 0 ∧ (1 = 0 → Jvm.Cond.static mt_J0_length_8abf5.1.2.1 ∈ av_T) ∧ (1 = 1 → Jvm.Cond.instanceMethod mt_J0_length_8abf5.1.2.1 ∈ av_T ∧ Jvm.Cond.selects mt_J0_length_8abf5.1.1 mt_J0_length_8abf5.1.2.1 mt_J0_length_8abf5.1.2.1 ∈ av_T) ∧ (1 = 2 → Jvm.Cond.instanceMethod mt_J0_length_8abf5.1.2.1 ∈ av_T ∧ mt_J0_length_8abf5.1.2.1.name = "<init>" ∧ mt_J0_length_8abf5.1.2.2.2.2 = none) := ⟨okm_J0_length_8abf5, by decide +kernel, fun q => absurd q (by decide), fun _ => ⟨av_in_ok (h := (2, 20)) (by decide +kernel), av_in_ok (h := (2, 21)) (by decide +kernel)⟩, fun q => absurd q (by decide)⟩
theorem okm_J0_charAt_5068e : av_okM av_T mt_J0_charAt_5068e := ⟨av_pt_T (k := 2) (i := 32) rfl rfl, rfl, av_in_ok (h := (1, 6)) (by decide +kernel), by decide +kernel, by decide +kernel, by decide +kernel⟩
theorem okj_J0_charAt_5068e : av_okM av_T mt_J0_charAt_5068e ∧ (parseMethodDescriptor mt_J0_charAt_5068e.1.2.1.desc).map (fun d => d.parameters.length) = some 1 ∧ (1 = 0 → Jvm.Cond.static mt_J0_charAt_5068e.1.2.1 ∈ av_T) ∧ (1 = 1 → Jvm.Cond.instanceMethod mt_J0_charAt_5068e.1.2.1 ∈ av_T ∧ Jvm.Cond.selects mt_J0_charAt_5068e.1.1 mt_J0_charAt_5068e.1.2.1 mt_J0_charAt_5068e.1.2.1 ∈ av_T) ∧ (1 = 2 → Jvm.Cond.instanceMethod mt_J0_charAt_5068e.1.2.1 ∈ av_T ∧ mt_J0_charAt_5068e.1.2.1.name = "<init>" ∧ mt_J0_charAt_5068e.1.2.2.2.2 = none) := ⟨okm_J0_charAt_5068e, by decide +kernel, fun q => absurd q (by decide), fun _ => ⟨av_in_ok (h := (2, 30)) (by decide +kernel), av_in_ok (h := (2, 31)) (by decide +kernel)⟩, fun q => absurd q (by decide)⟩
theorem okm_J0_coder_7d493 : av_okM av_T mt_J0_coder_7d493 := ⟨av_pt_T (k := 2) (i := 26) rfl rfl, rfl, av_in_ok (h := (1, 6)) (by decide +kernel), by decide +kernel, by decide +kernel, by decide +kernel⟩
theorem okj_J0_coder_7d493 : av_okM av_T mt_J0_coder_7d493 ∧ (parseMethodDescriptor mt_J0_coder_7d493.1.2.1.desc).map (fun d => d.parameters.length) = some 0 ∧ (1 = 0 → Jvm.Cond.static mt_J0_coder_7d493.1.2.1 ∈ av_T) ∧ (1 = 1 → Jvm.Cond.instanceMethod mt_J0_coder_7d493.1.2.1 ∈ av_T ∧ Jvm.Cond.selects mt_J0_coder_7d493.1.1 mt_J0_coder_7d493.1.2.1 mt_J0_coder_7d493.1.2.1 ∈ av_T) ∧ (1 = 2 → Jvm.Cond.instanceMethod mt_J0_coder_7d493.1.2.1 ∈ av_T ∧ mt_J0_coder_7d493.1.2.1.name = "<init>" ∧ mt_J0_coder_7d493.1.2.2.2.2 = none) := ⟨okm_J0_coder_7d493, by decide +kernel, fun q => absurd q (by decide), fun _ => ⟨av_in_ok (h := (2, 24)) (by decide +kernel), av_in_ok (h := (2, 25)) (by decide +kernel)⟩, fun q => absurd q (by decide)⟩
theorem okm_J0_isLatin1_aae02 : av_okM av_T mt_J0_isLatin1_aae02 := ⟨av_pt_T (k := 2) (i := 36) rfl rfl, rfl, av_in_ok (h := (1, 6)) (by decide +kernel), by decide +kernel, by decide +kernel, by decide +kernel⟩
theorem okj_J0_isLatin1_aae02 : av_okM av_T mt_J0_isLatin1_aae02 ∧ (parseMethodDescriptor mt_J0_isLatin1_aae02.1.2.1.desc).map (fun d => d.parameters.length) = some 0 ∧ (1 = 0 → Jvm.Cond.static mt_J0_isLatin1_aae02.1.2.1 ∈ av_T) ∧ (1 = 1 → Jvm.Cond.instanceMethod mt_J0_isLatin1_aae02.1.2.1 ∈ av_T ∧ Jvm.Cond.selects mt_J0_isLatin1_aae02.1.1 mt_J0_isLatin1_aae02.1.2.1 mt_J0_isLatin1_aae02.1.2.1 ∈ av_T) ∧ (1 = 2 → Jvm.Cond.instanceMethod mt_J0_isLatin1_aae02.1.2.1 ∈ av_T ∧ mt_J0_isLatin1_aae02.1.2.1.name = "<init>" ∧ mt_J0_isLatin1_aae02.1.2.2.2.2 = none) := ⟨okm_J0_isLatin1_aae02, by decide +kernel, fun q => absurd q (by decide), fun _ => ⟨av_in_ok (h := (2, 34)) (by decide +kernel), av_in_ok (h := (2, 35)) (by decide +kernel)⟩, fun q => absurd q (by decide)⟩
theorem okm_J0_checkIndex_df160 : av_okM av_T mt_J0_checkIndex_df160 := ⟨av_pt_T (k := 2) (i := 42) rfl rfl, rfl, av_in_ok (h := (1, 6)) (by decide +kernel), by decide +kernel, by decide +kernel, by decide +kernel⟩
theorem okj_J0_checkIndex_df160 : av_okM av_T mt_J0_checkIndex_df160 ∧ (parseMethodDescriptor mt_J0_checkIndex_df160.1.2.1.desc).map (fun d => d.parameters.length) = some 2 ∧ (0 = 0 → Jvm.Cond.static mt_J0_checkIndex_df160.1.2.1 ∈ av_T) ∧ (0 = 1 → Jvm.Cond.instanceMethod mt_J0_checkIndex_df160.1.2.1 ∈ av_T ∧ Jvm.Cond.selects mt_J0_checkIndex_df160.1.1 mt_J0_checkIndex_df160.1.2.1 mt_J0_checkIndex_df160.1.2.1 ∈ av_T) ∧ (0 = 2 → Jvm.Cond.instanceMethod mt_J0_checkIndex_df160.1.2.1 ∈ av_T ∧ mt_J0_checkIndex_df160.1.2.1.name = "<init>" ∧ mt_J0_checkIndex_df160.1.2.2.2.2 = none) := ⟨okm_J0_checkIndex_df160, by decide +kernel, fun _ => av_in_ok (h := (2, 41)) (by decide +kernel), fun q => absurd q (by decide), fun q => absurd q (by decide)⟩
theorem okm_J1_charAt_3b067 : av_okM av_T mt_J1_charAt_3b067 := ⟨av_pt_T (k := 2) (i := 39) rfl rfl, rfl, av_in_ok (h := (1, 7)) (by decide +kernel), by decide +kernel, by decide +kernel, by decide +kernel⟩
theorem okj_J1_charAt_3b067 : av_okM av_T mt_J1_charAt_3b067 ∧ (parseMethodDescriptor mt_J1_charAt_3b067.1.2.1.desc).map (fun d => d.parameters.length) = some 2 ∧ (0 = 0 → Jvm.Cond.static mt_J1_charAt_3b067.1.2.1 ∈ av_T) ∧ (0 = 1 → Jvm.Cond.instanceMethod mt_J1_charAt_3b067.1.2.1 ∈ av_T ∧ Jvm.Cond.selects mt_J1_charAt_3b067.1.1 mt_J1_charAt_3b067.1.2.1 mt_J1_charAt_3b067.1.2.1 ∈ av_T) ∧ (0 = 2 → Jvm.Cond.instanceMethod mt_J1_charAt_3b067.1.2.1 ∈ av_T ∧ mt_J1_charAt_3b067.1.2.1.name = "<init>" ∧ mt_J1_charAt_3b067.1.2.2.2.2 = none) := ⟨okm_J1_charAt_3b067, by decide +kernel, fun _ => av_in_ok (h := (2, 38)) (by decide +kernel), fun q => absurd q (by decide), fun q => absurd q (by decide)⟩
theorem okm_J3_checkIndex_8e157 : av_okM av_T mt_J3_checkIndex_8e157 := ⟨av_pt_T (k := 2) (i := 47) rfl rfl, rfl, av_in_ok (h := (1, 8)) (by decide +kernel), by decide +kernel, by decide +kernel, by decide +kernel⟩
theorem okj_J3_checkIndex_8e157 : av_okM av_T mt_J3_checkIndex_8e157 ∧ (parseMethodDescriptor mt_J3_checkIndex_8e157.1.2.1.desc).map (fun d => d.parameters.length) = some 3 ∧ (0 = 0 → Jvm.Cond.static mt_J3_checkIndex_8e157.1.2.1 ∈ av_T) ∧ (0 = 1 → Jvm.Cond.instanceMethod mt_J3_checkIndex_8e157.1.2.1 ∈ av_T ∧ Jvm.Cond.selects mt_J3_checkIndex_8e157.1.1 mt_J3_checkIndex_8e157.1.2.1 mt_J3_checkIndex_8e157.1.2.1 ∈ av_T) ∧ (0 = 2 → Jvm.Cond.instanceMethod mt_J3_checkIndex_8e157.1.2.1 ∈ av_T ∧ mt_J3_checkIndex_8e157.1.2.1.name = "<init>" ∧ mt_J3_checkIndex_8e157.1.2.2.2.2 = none) := ⟨okm_J3_checkIndex_8e157, by decide +kernel, fun _ => av_in_ok (h := (2, 46)) (by decide +kernel), fun q => absurd q (by decide), fun q => absurd q (by decide)⟩
def jt_all : av_J := [(2, 2), (1, 2), (2, 1), (2, 1), (1, 1), (0, 2), (0, 1), (0, 2), (0, 1), (0, 1), (0, 2), (0, 1), (1, 1), (1, 1), (2, 1), (2, 2), (2, 1), (1, 2), (2, 0), (1, 1), (0, 1), (0, 2), (0, 1), (1, 1), (1, 2), (0, 2), (1, 2), (0, 1), (0, 2), (5, 1), (1, 1), (1, 1), (0, 1), (1, 1), (2, 1), (3, 0), (1, 1), (1, 0), (1, 0), (2, 1), (1, 1), (1, 1), (2, 1), (1, 1), (1, 1), (2, 1), (0, 1), (2, 1), (4, 1), (2, 1), (3, 1), (3, 1), (2, 1), (5, 1), (1, 1), (1, 1), (1, 1), (3, 1), (2, 1), (2, 1), (1, 1), (1, 1), (2, 1), (1, 1), (3, 1), (2, 1), (5, 1), (0, 1), (0, 1), (1, 1), (0, 1), (0, 2), (0, 1), (5, 1), (3, 0), (0, 1), (0, 1), (2, 0), (0, 1), (4, 0), (1, 1), (1, 1), (2, 1), (4, 0), (1, 1), (1, 1), (1, 1), (1, 1), (2, 1), (2, 1), (1, 1), (1, 1), (2, 1), (1, 1), (1, 1), (2, 1), (0, 1), (2, 1), (4, 1), (2, 1), (3, 1), (3, 1), (2, 1), (5, 1), (1, 1), (1, 1), (0, 1), (1, 1), (3, 1), (2, 1), (2, 1), (1, 1), (1, 1), (2, 1), (1, 1), (3, 1), (2, 1), (5, 1), (0, 1), (0, 1), (1, 1), (0, 1), (1, 1), (0, 1), (0, 1), (2, 0), (2, 0), (3, 0)]
theorem okj_all : ∀ j, av_okJ jt_all mt_all j := by
  intro j np kd h
  match j, h with
  | 0, h => cases h; exact okj_X0_init
  | 1, h => cases h; exact okj_X1_init
  | 2, h => cases h; exact okj_X1_begin
  | 3, h => cases h; exact okj_X1_setCauses
  | 4, h => cases h; exact okj_X1_copy
  | 5, h => cases h; exact okj_X2_init
  | 6, h => cases h; exact okj_X2_forget
  | 7, h => cases h; exact okj_X3_init
  | 8, h => cases h; exact okj_X3_clear
  | 9, h => cases h; exact okj_X3_knownCount
  | 10, h => cases h; exact okj_X4_init
  | 11, h => cases h; exact okj_X4_clear
  | 12, h => cases h; exact okj_X4_isWork
  | 13, h => cases h; exact okj_X4_firmIn
  | 14, h => cases h; exact okj_X4_moreBy
  | 15, h => cases h; exact okj_X5_init
  | 16, h => cases h; exact okj_X5_readText
  | 17, h => cases h; exact okj_X6_init
  | 18, h => cases h; exact okj_X6_letterBits
  | 19, h => cases h; exact okj_X6_begin
  | 20, h => cases h; exact okj_X6_step
  | 21, h => cases h; exact okj_X7_init
  | 22, h => cases h; exact okj_X7_clear
  | 23, h => cases h; exact okj_X7_setHeight
  | 24, h => cases h; exact okj_X8_init
  | 25, h => cases h; exact okj_X9_init
  | 26, h => cases h; exact okj_X10_init
  | 27, h => cases h; exact okj_X10_clear
  | 28, h => cases h; exact okj_X11_init
  | 29, h => cases h; exact okj_X11_feed
  | 30, h => cases h; exact okj_X11_putOnTape
  | 31, h => cases h; exact okj_X11_text
  | 32, h => cases h; exact okj_X11_takeSpare
  | 33, h => cases h; exact okj_X11_fault
  | 34, h => cases h; exact okj_X11_named
  | 35, h => cases h; exact okj_X11_placeOf
  | 36, h => cases h; exact okj_X11_isGate
  | 37, h => cases h; exact okj_X11_isAhead
  | 38, h => cases h; exact okj_X11_isWeek
  | 39, h => cases h; exact okj_X11_works
  | 40, h => cases h; exact okj_X11_firm
  | 41, h => cases h; exact okj_X11_weeks
  | 42, h => cases h; exact okj_X11_sags
  | 43, h => cases h; exact okj_X11_latched
  | 44, h => cases h; exact okj_X11_gives
  | 45, h => cases h; exact okj_X11_work
  | 46, h => cases h; exact okj_X11_undo
  | 47, h => cases h; exact okj_X11_lasts
  | 48, h => cases h; exact okj_X11_least
  | 49, h => cases h; exact okj_X11_way
  | 50, h => cases h; exact okj_X11_enough
  | 51, h => cases h; exact okj_X11_bears
  | 52, h => cases h; exact okj_X11_knock
  | 53, h => cases h; exact okj_X11_measure
  | 54, h => cases h; exact okj_X11_strike
  | 55, h => cases h; exact okj_X11_known
  | 56, h => cases h; exact okj_X11_fits
  | 57, h => cases h; exact okj_X11_odds
  | 58, h => cases h; exact okj_X11_test
  | 59, h => cases h; exact okj_X11_low
  | 60, h => cases h; exact okj_X11_rest
  | 61, h => cases h; exact okj_X11_shuts
  | 62, h => cases h; exact okj_X11_above
  | 63, h => cases h; exact okj_X11_opens
  | 64, h => cases h; exact okj_X11_stand
  | 65, h => cases h; exact okj_X11_first
  | 66, h => cases h; exact okj_X11_wind
  | 67, h => cases h; exact okj_X11_keep
  | 68, h => cases h; exact okj_X11_back
  | 69, h => cases h; exact okj_X11_count
  | 70, h => cases h; exact okj_X11_costOfAllDone
  | 71, h => cases h; exact okj_X12_init
  | 72, h => cases h; exact okj_X12_thrown
  | 73, h => cases h; exact okj_X12_feed
  | 74, h => cases h; exact okj_X12_isIn
  | 75, h => cases h; exact okj_X12_token
  | 76, h => cases h; exact okj_X12_plain
  | 77, h => cases h; exact okj_X12_copies
  | 78, h => cases h; exact okj_X12_keepText
  | 79, h => cases h; exact okj_X12_find
  | 80, h => cases h; exact okj_X12_text
  | 81, h => cases h; exact okj_X12_fault
  | 82, h => cases h; exact okj_X12_named
  | 83, h => cases h; exact okj_X12_lays
  | 84, h => cases h; exact okj_X12_begins
  | 85, h => cases h; exact okj_X12_firmOf
  | 86, h => cases h; exact okj_X12_isGate
  | 87, h => cases h; exact okj_X12_fails
  | 88, h => cases h; exact okj_X12_look
  | 89, h => cases h; exact okj_X12_works
  | 90, h => cases h; exact okj_X12_firm
  | 91, h => cases h; exact okj_X12_weeks
  | 92, h => cases h; exact okj_X12_sags
  | 93, h => cases h; exact okj_X12_latched
  | 94, h => cases h; exact okj_X12_gives
  | 95, h => cases h; exact okj_X12_work
  | 96, h => cases h; exact okj_X12_undo
  | 97, h => cases h; exact okj_X12_lasts
  | 98, h => cases h; exact okj_X12_least
  | 99, h => cases h; exact okj_X12_way
  | 100, h => cases h; exact okj_X12_enough
  | 101, h => cases h; exact okj_X12_bears
  | 102, h => cases h; exact okj_X12_knock
  | 103, h => cases h; exact okj_X12_measure
  | 104, h => cases h; exact okj_X12_strike
  | 105, h => cases h; exact okj_X12_known
  | 106, h => cases h; exact okj_X12_knownMany
  | 107, h => cases h; exact okj_X12_fits
  | 108, h => cases h; exact okj_X12_odds
  | 109, h => cases h; exact okj_X12_test
  | 110, h => cases h; exact okj_X12_low
  | 111, h => cases h; exact okj_X12_rest
  | 112, h => cases h; exact okj_X12_shuts
  | 113, h => cases h; exact okj_X12_above
  | 114, h => cases h; exact okj_X12_opens
  | 115, h => cases h; exact okj_X12_stand
  | 116, h => cases h; exact okj_X12_first
  | 117, h => cases h; exact okj_X12_wind
  | 118, h => cases h; exact okj_X12_keep
  | 119, h => cases h; exact okj_X12_back
  | 120, h => cases h; exact okj_X12_count
  | 121, h => cases h; exact okj_J0_length_8abf5
  | 122, h => cases h; exact okj_J0_charAt_5068e
  | 123, h => cases h; exact okj_J0_coder_7d493
  | 124, h => cases h; exact okj_J0_isLatin1_aae02
  | 125, h => cases h; exact okj_J0_checkIndex_df160
  | 126, h => cases h; exact okj_J1_charAt_3b067
  | 127, h => cases h; exact okj_J3_checkIndex_8e157
  | j + 128, h => exact absurd h (by show ¬ ([] : av_J)[j]? = some (np, kd); simp)
theorem ok_o1 : Jvm.Cond.instanceMethod Lib.objectInit ∈ av_T := av_in_ok (h := (1, 31)) (by decide +kernel)
theorem ok_o2 : Jvm.Cond.code Lib.objectInit ⟨#[0xb1]⟩ 1 none ∈ av_T := av_in_ok (h := (1, 32)) (by decide +kernel)
theorem ok_mm : Jvm.Cond.initialized "java/lang/Math" ∈ av_T ∧ (Jvm.Cond.static Lib.Math.max.name ∈ av_T ∧ Jvm.Cond.code Lib.Math.max.name Lib.Math.max.code 2 (some .int) ∈ av_T) ∧ Jvm.Cond.static Lib.Math.min.name ∈ av_T ∧ Jvm.Cond.code Lib.Math.min.name Lib.Math.min.code 2 (some .int) ∈ av_T := ⟨av_in_ok (h := (1, 18)) (by decide +kernel), ⟨av_in_ok (h := (3, 187)) (by decide +kernel), av_in_ok (h := (3, 188)) (by decide +kernel)⟩, av_in_ok (h := (3, 184)) (by decide +kernel), av_in_ok (h := (3, 185)) (by decide +kernel)⟩
end
section
/-! ===== the rows of the methods ===== -/
def hn_X0_init : List (List (Nat × Nat)) := [
  [], [(2, 102)], [], [], [(1, 142)], [(2, 104)], [], [], [(2, 103)], [], [], [(2, 111)],
  []]
set_option maxRecDepth 100000 in
theorem ok_X0_init : ∀ q ∈ op_X0_init, av_ok av_T vwCl mt_all mt_X0_init q := av_zip_ok ok_mm (by decide) okj_all ok_o1 ok_o2 (hs := hn_X0_init) (by decide +kernel) (by decide +kernel)
def hn_X1_init : List (List (Nat × Nat)) := [
  [], [(2, 189)], [], [], [(2, 190)], []]
set_option maxRecDepth 100000 in
theorem ok_X1_init : ∀ q ∈ op_X1_init, av_ok av_T vwCl mt_all mt_X1_init q := av_zip_ok ok_mm (by decide) okj_all ok_o1 ok_o2 (hs := hn_X1_init) (by decide +kernel) (by decide +kernel)
def hn_X1_begin : List (List (Nat × Nat)) := [
  [], [], [], [], [(1, 167)], [], [], [], [], [(1, 167)], [], [],
  [(2, 190)], [], [], [(2, 193)], [], [], [(2, 195)], [], [], [(2, 197)], [], [],
  [(2, 199)], [], [], [(2, 190)], [(1, 77)], [(2, 201)], [], [], [(2, 190)], [(1, 84)], [(2, 204)], [],
  [], [(2, 207)], [], [], [(2, 208)], [], [], [(2, 190)], [(1, 93)], [(2, 210)], [], [],
  [(2, 213)], [], [], [(2, 190)], [(1, 71)], [(2, 220)], [], [], [(2, 190)], [(1, 74)], [(2, 222)], [],
  [], [], [(2, 190)], [(1, 99)], [(4, 105)], []]
set_option maxRecDepth 100000 in
theorem ok_X1_begin : ∀ q ∈ op_X1_begin, av_ok av_T vwCl mt_all mt_X1_begin q := av_zip_ok ok_mm (by decide) okj_all ok_o1 ok_o2 (hs := hn_X1_begin) (by decide +kernel) (by decide +kernel)
def hn_X1_setCauses : List (List (Nat × Nat)) := [
  [], [], [(2, 215)], [], [], [], [], [(4, 109)], [(2, 217)], [], [], [],
  [], [(4, 109)], [(2, 218)], [], [], [], [], [(4, 109)], [(2, 219)], []]
set_option maxRecDepth 100000 in
theorem ok_X1_setCauses : ∀ q ∈ op_X1_setCauses, av_ok av_T vwCl mt_all mt_X1_setCauses q := av_zip_ok ok_mm (by decide) okj_all ok_o1 ok_o2 (hs := hn_X1_setCauses) (by decide +kernel) (by decide +kernel)
def hn_X1_copy : List (List (Nat × Nat)) := [
  [], [], [(2, 190)], [(2, 190)], [], [], [(2, 193)], [(2, 193)], [], [], [(2, 195)], [(2, 195)],
  [], [], [(2, 197)], [(2, 197)], [], [], [(2, 199)], [(2, 199)], [], [], [(2, 201)], [(2, 201)],
  [], [], [(2, 204)], [(2, 204)], [], [], [(2, 207)], [(2, 207)], [], [], [(2, 208)], [(2, 208)],
  [], [], [(2, 210)], [(2, 210)], [], [], [(2, 213)], [(2, 213)], [], [], [(2, 215)], [(2, 215)],
  [], [], [(2, 217)], [(2, 217)], [], [], [(2, 218)], [(2, 218)], [], [], [(2, 219)], [(2, 219)],
  [], [], [(2, 220)], [(2, 220)], [], [], [(2, 222)], [(2, 222)], []]
set_option maxRecDepth 100000 in
theorem ok_X1_copy : ∀ q ∈ op_X1_copy, av_ok av_T vwCl mt_all mt_X1_copy q := av_zip_ok ok_mm (by decide) okj_all ok_o1 ok_o2 (hs := hn_X1_copy) (by decide +kernel) (by decide +kernel)
def hn_X2_init : List (List (Nat × Nat)) := [
  [], [(2, 155)], [], [], [(2, 173)], [(2, 156)], [], [], [(2, 173)], [(2, 157)], [], [],
  [(1, 142)], [(2, 158)], [], [], [(2, 159)], []]
set_option maxRecDepth 100000 in
theorem ok_X2_init : ∀ q ∈ op_X2_init, av_ok av_T vwCl mt_all mt_X2_init q := av_zip_ok ok_mm (by decide) okj_all ok_o1 ok_o2 (hs := hn_X2_init) (by decide +kernel) (by decide +kernel)
def hn_X2_forget : List (List (Nat × Nat)) := [
  [], [], [(2, 159)], [], [], [], [], [], [], [(2, 158)], [], [],
  [], [], [], []]
set_option maxRecDepth 100000 in
theorem ok_X2_forget : ∀ q ∈ op_X2_forget, av_ok av_T vwCl mt_all mt_X2_forget q := av_zip_ok ok_mm (by decide) okj_all ok_o1 ok_o2 (hs := hn_X2_forget) (by decide +kernel) (by decide +kernel)
def hn_X3_init : List (List (Nat × Nat)) := [
  [], [(3, 35)], [], [], [(1, 142)], [(3, 36)], [], [], [(1, 142)], [(3, 37)], [], [],
  [(1, 142)], [(3, 38)], [], [], [(1, 142)], [(3, 39)], [], [], [(1, 142)], [(3, 40)], [], [],
  [(1, 142)], [(3, 41)], [], [], [(3, 72)], [(3, 42)], [], [], [(1, 142)], [(3, 43)], [], [],
  [(3, 47)], []]
set_option maxRecDepth 100000 in
theorem ok_X3_init : ∀ q ∈ op_X3_init, av_ok av_T vwCl mt_all mt_X3_init q := av_zip_ok ok_mm (by decide) okj_all ok_o1 ok_o2 (hs := hn_X3_init) (by decide +kernel) (by decide +kernel)
def hn_X3_clear : List (List (Nat × Nat)) := [
  [], [], [(3, 45)], [], [], [(3, 47)], []]
set_option maxRecDepth 100000 in
theorem ok_X3_clear : ∀ q ∈ op_X3_clear, av_ok av_T vwCl mt_all mt_X3_clear q := av_zip_ok ok_mm (by decide) okj_all ok_o1 ok_o2 (hs := hn_X3_clear) (by decide +kernel) (by decide +kernel)
def hn_X3_knownCount : List (List (Nat × Nat)) := [
  [], [(3, 47)], [], [], [], [(3, 45)], [], []]
set_option maxRecDepth 100000 in
theorem ok_X3_knownCount : ∀ q ∈ op_X3_knownCount, av_ok av_T vwCl mt_all mt_X3_knownCount q := av_zip_ok ok_mm (by decide) okj_all ok_o1 ok_o2 (hs := hn_X3_knownCount) (by decide +kernel) (by decide +kernel)
def hn_X4_init : List (List (Nat × Nat)) := [
  [], [(1, 38)], [], [], [(1, 142)], [(1, 148)], [], [], [(1, 142)], [(1, 150)], [], [],
  [(1, 142)], [(1, 157)], [], [], [(1, 142)], [(1, 160)], [], [], [(1, 142)], [(1, 163)], [], [],
  [(1, 39), (1, 40)], [(1, 166)], [], [], [(1, 142)], [(1, 169)], [], [], [(1, 142)], [(1, 175)], [], [],
  [(1, 142)], [(1, 178)], [], [], [(1, 142)], [(1, 181)], [], [], [(1, 142)], [(1, 185)], [], [],
  [(1, 142)], [(1, 192)], [], [], [(1, 142)], [(1, 195)], [], [], [(1, 142)], [(1, 197)], [], [],
  [(1, 142)], [(1, 199)], [], [], [], [], [], [], [(1, 166)], [], [(1, 39), (1, 41), (1, 3)], [],
  [(1, 42)], [], [], [], [], [(1, 143)], []]
set_option maxRecDepth 100000 in
theorem ok_X4_init : ∀ q ∈ op_X4_init, av_ok av_T vwCl mt_all mt_X4_init q := av_zip_ok ok_mm (by decide) okj_all ok_o1 ok_o2 (hs := hn_X4_init) (by decide +kernel) (by decide +kernel)
def hn_X4_clear : List (List (Nat × Nat)) := [
  [], [], [], [], [], [], [(1, 148)], [], [], [], [], [],
  [], [], [], [], [], [], [(1, 157)], [], [], [], [], [(1, 160)],
  [], [], [], [], [(1, 163)], [], [], [], [], [], [], [],
  [], [], [], [], [(1, 166)], [], [], [(1, 147)], [], [], [], [],
  [(1, 152)], [], [], [(1, 154)], [], [], [(1, 172)], [], [], [(1, 189)], [], [],
  [(1, 202)], []]
set_option maxRecDepth 100000 in
theorem ok_X4_clear : ∀ q ∈ op_X4_clear, av_ok av_T vwCl mt_all mt_X4_clear q := av_zip_ok ok_mm (by decide) okj_all ok_o1 ok_o2 (hs := hn_X4_clear) (by decide +kernel) (by decide +kernel)
def hn_X4_isWork : List (List (Nat × Nat)) := [
  [], [], [], [], [(1, 189)], [], [], []]
set_option maxRecDepth 100000 in
theorem ok_X4_isWork : ∀ q ∈ op_X4_isWork, av_ok av_T vwCl mt_all mt_X4_isWork q := av_zip_ok ok_mm (by decide) okj_all ok_o1 ok_o2 (hs := hn_X4_isWork) (by decide +kernel) (by decide +kernel)
def hn_X4_firmIn : List (List (Nat × Nat)) := [
  [], [], [], [(1, 148)], [], [], [], [], [], [], [], [],
  []]
set_option maxRecDepth 100000 in
theorem ok_X4_firmIn : ∀ q ∈ op_X4_firmIn, av_ok av_T vwCl mt_all mt_X4_firmIn q := av_zip_ok ok_mm (by decide) okj_all ok_o1 ok_o2 (hs := hn_X4_firmIn) (by decide +kernel) (by decide +kernel)
def hn_X4_moreBy : List (List (Nat × Nat)) := [
  [], [], [], [], [], [], [(1, 202)], [], [], []]
set_option maxRecDepth 100000 in
theorem ok_X4_moreBy : ∀ q ∈ op_X4_moreBy, av_ok av_T vwCl mt_all mt_X4_moreBy q := av_zip_ok ok_mm (by decide) okj_all ok_o1 ok_o2 (hs := hn_X4_moreBy) (by decide +kernel) (by decide +kernel)
def hn_X5_init : List (List (Nat × Nat)) := [
  [], [(2, 11)], [], [], [(2, 135)], [], [(2, 12), (2, 13), (1, 5)], [], [], [(2, 14)], [(2, 129)], [],
  [(2, 97), (2, 98), (1, 10)], [], [], [(2, 129)], [], [(2, 99)], [(2, 130)], [], [], [(2, 131)], []]
set_option maxRecDepth 100000 in
theorem ok_X5_init : ∀ q ∈ op_X5_init, av_ok av_T vwCl mt_all mt_X5_init q := av_zip_ok ok_mm (by decide) okj_all ok_o1 ok_o2 (hs := hn_X5_init) (by decide +kernel) (by decide +kernel)
def hn_X5_readText : List (List (Nat × Nat)) := [
  [], [], [(2, 131)], [], [(2, 131)], [(3, 178)], [], [], [(2, 132)], [], [], [(2, 133)],
  [], [], [(2, 135)], [], [(2, 129)], [], [(3, 179)], [], [], [], [], [],
  [], [(2, 129)], [(2, 74)], [], [], []]
set_option maxRecDepth 100000 in
theorem ok_X5_readText : ∀ q ∈ op_X5_readText, av_ok av_T vwCl mt_all mt_X5_readText q := av_zip_ok ok_mm (by decide) okj_all ok_o1 ok_o2 (hs := hn_X5_readText) (by decide +kernel) (by decide +kernel)
def hn_X6_init : List (List (Nat × Nat)) := [
  [], [(2, 17)], [], [], [(1, 142)], [(2, 71)], [], [], [(2, 70)], [], [], [],
  [], [], [], [], [], [(2, 19)], [], [], [], [], [], [],
  [(2, 29)], [], [], [], [], [], [], [], [], [], [(2, 71)], [],
  [], [], [], [], [(2, 67)], [], [], [], [], [], []]
set_option maxRecDepth 100000 in
theorem ok_X6_init : ∀ q ∈ op_X6_init, av_ok av_T vwCl mt_all mt_X6_init q := av_zip_ok ok_mm (by decide) okj_all ok_o1 ok_o2 (hs := hn_X6_init) (by decide +kernel) (by decide +kernel)
def hn_X6_letterBits : List (List (Nat × Nat)) := [
  [], [], [], [], [], [], [], [], [], [], [], [],
  [], [], [], []]
set_option maxRecDepth 100000 in
theorem ok_X6_letterBits : ∀ q ∈ op_X6_letterBits, av_ok av_T vwCl mt_all mt_X6_letterBits q := av_zip_ok ok_mm (by decide) okj_all ok_o1 ok_o2 (hs := hn_X6_letterBits) (by decide +kernel) (by decide +kernel)
def hn_X6_begin : List (List (Nat × Nat)) := [
  [], [], [], [], [(2, 70)], [], [(3, 183)], [(3, 186)], [(2, 72)], [], [], [(2, 73)],
  [], [(3, 189)], []]
set_option maxRecDepth 100000 in
theorem ok_X6_begin : ∀ q ∈ op_X6_begin, av_ok av_T vwCl mt_all mt_X6_begin q := av_zip_ok ok_mm (by decide) okj_all ok_o1 ok_o2 (hs := hn_X6_begin) (by decide +kernel) (by decide +kernel)
def hn_X6_step : List (List (Nat × Nat)) := [
  [], [(2, 73)], [], [(2, 72)], [], [], [], [(2, 73)], [(2, 78)], [], [], [(2, 80)],
  [], [(2, 73)], [], [(2, 72)], [], [], [], [(2, 76)], [], []]
set_option maxRecDepth 100000 in
theorem ok_X6_step : ∀ q ∈ op_X6_step, av_ok av_T vwCl mt_all mt_X6_step q := av_zip_ok ok_mm (by decide) okj_all ok_o1 ok_o2 (hs := hn_X6_step) (by decide +kernel) (by decide +kernel)
def hn_X7_init : List (List (Nat × Nat)) := [
  [], [(1, 45)], [], [], [(1, 142)], [(1, 103)], [], [(1, 46)], []]
set_option maxRecDepth 100000 in
theorem ok_X7_init : ∀ q ∈ op_X7_init, av_ok av_T vwCl mt_all mt_X7_init q := av_zip_ok ok_mm (by decide) okj_all ok_o1 ok_o2 (hs := hn_X7_init) (by decide +kernel) (by decide +kernel)
def hn_X7_clear : List (List (Nat × Nat)) := [
  [], [], [(1, 54)], [], [], [(1, 62)], [], [], [(1, 50)], [], [], [(1, 70)],
  [], [], [(1, 73)], [], [], [(1, 76)], [], [], [(1, 79)], [], [], [(1, 83)],
  [], [], [(1, 86)], [], [], [(1, 89)], [], [], [(1, 92)], [], [], [(1, 95)],
  [], [], [(1, 98)], [], [], [(1, 101)], [], [], [], [], [(1, 103)], [],
  [], [], [(1, 103)], [], [], [], [], [], []]
set_option maxRecDepth 100000 in
theorem ok_X7_clear : ∀ q ∈ op_X7_clear, av_ok av_T vwCl mt_all mt_X7_clear q := av_zip_ok ok_mm (by decide) okj_all ok_o1 ok_o2 (hs := hn_X7_clear) (by decide +kernel) (by decide +kernel)
def hn_X7_setHeight : List (List (Nat × Nat)) := [
  [], [], [(1, 58)], [], [], [(1, 66)], [], [], [], [], [(1, 68)], []]
set_option maxRecDepth 100000 in
theorem ok_X7_setHeight : ∀ q ∈ op_X7_setHeight, av_ok av_T vwCl mt_all mt_X7_setHeight q := av_zip_ok ok_mm (by decide) okj_all ok_o1 ok_o2 (hs := hn_X7_setHeight) (by decide +kernel) (by decide +kernel)
def hn_X8_init : List (List (Nat × Nat)) := [
  [], [(3, 78)], [], [], [(1, 142)], [(3, 81)], [], [(3, 79), (2, 185), (1, 13)], [], [], [(3, 80)], [(3, 82)],
  []]
set_option maxRecDepth 100000 in
theorem ok_X8_init : ∀ q ∈ op_X8_init, av_ok av_T vwCl mt_all mt_X8_init q := av_zip_ok ok_mm (by decide) okj_all ok_o1 ok_o2 (hs := hn_X8_init) (by decide +kernel) (by decide +kernel)
def hn_X9_init : List (List (Nat × Nat)) := [
  [], [(3, 98)], [], [], [(1, 142)], [(3, 99)], [], [], [(1, 142)], [(3, 100)], [], [],
  [(1, 142)], [(3, 101)], []]
set_option maxRecDepth 100000 in
theorem ok_X9_init : ∀ q ∈ op_X9_init, av_ok av_T vwCl mt_all mt_X9_init q := av_zip_ok ok_mm (by decide) okj_all ok_o1 ok_o2 (hs := hn_X9_init) (by decide +kernel) (by decide +kernel)
def hn_X10_init : List (List (Nat × Nat)) := [
  [], [(2, 183)], [], [], [(2, 184), (2, 177)], [(3, 19)], [], [], [(1, 142)], [(3, 20)], [], [],
  [], [], [], [], [(3, 19)], [], [(2, 184), (2, 185), (1, 13)], [], [], [(2, 186)], [], [],
  [], []]
set_option maxRecDepth 100000 in
theorem ok_X10_init : ∀ q ∈ op_X10_init, av_ok av_T vwCl mt_all mt_X10_init q := av_zip_ok ok_mm (by decide) okj_all ok_o1 ok_o2 (hs := hn_X10_init) (by decide +kernel) (by decide +kernel)
def hn_X10_clear : List (List (Nat × Nat)) := [
  [], [], [(3, 21)], []]
set_option maxRecDepth 100000 in
theorem ok_X10_clear : ∀ q ∈ op_X10_clear, av_ok av_T vwCl mt_all mt_X10_clear q := av_zip_ok ok_mm (by decide) okj_all ok_o1 ok_o2 (hs := hn_X10_clear) (by decide +kernel) (by decide +kernel)
def hn_X11_init : List (List (Nat × Nat)) := [
  [], [(1, 30)], [], [], [(1, 141)], [(3, 113)], [], [(1, 33), (1, 34), (1, 2)], [], [(1, 35)], [(3, 115)], [],
  [(1, 33), (1, 34), (1, 2)], [], [(1, 35)], [(3, 116)], [], [(2, 6), (2, 7), (1, 4)], [], [], [(3, 113)], [], [(3, 116)], [(2, 8)],
  [(3, 117)], [], [(2, 150), (2, 151), (1, 11)], [], [(2, 152)], [(3, 118)], [], [(2, 174), (1, 41), (1, 3)], [], [(2, 175)], [(3, 119)], [],
  [], [(2, 176), (2, 177)], [(3, 120)], [], [], [(2, 176), (2, 177)], [(3, 122)], [], [], [(3, 123)], [], [(2, 178), (2, 179), (1, 12)],
  [], [], [(3, 119)], [(2, 180)], [(3, 124)], [], [(3, 30), (3, 31), (1, 14)], [], [(3, 32)], [(3, 125)], [], [(3, 73), (3, 74), (1, 15)],
  [], [], [(3, 119)], [(3, 75)], [(3, 126)], [], [(2, 176), (2, 185), (1, 13)], [], [], [(3, 119)], [(3, 92)], [(3, 127)],
  [], [(3, 93), (3, 94), (1, 16)], [], [(3, 95)], [(3, 128)], [], [], [], [], [], [], [(3, 120)],
  [], [(2, 176), (2, 185), (1, 13)], [], [], [(3, 119)], [(3, 92)], [], [], [(3, 122)], [], [(2, 176), (2, 185), (1, 13)], [],
  [], [(3, 119)], [(3, 92)], [], [], [], []]
set_option maxRecDepth 100000 in
theorem ok_X11_init : ∀ q ∈ op_X11_init, av_ok av_T vwCl mt_all mt_X11_init q := av_zip_ok ok_mm (by decide) okj_all ok_o1 ok_o2 (hs := hn_X11_init) (by decide +kernel) (by decide +kernel)
def hn_X11_feed : List (List (Nat × Nat)) := [
  [], [(3, 114)], [], [], [], [], [(3, 166)], [], [], [(3, 166)], [], [],
  [(3, 166)], [], [], [(3, 166)], [], [], [(3, 166)], [], [(3, 114)], []]
set_option maxRecDepth 100000 in
theorem ok_X11_feed : ∀ q ∈ op_X11_feed, av_ok av_T vwCl mt_all mt_X11_feed q := av_zip_ok ok_mm (by decide) okj_all ok_o1 ok_o2 (hs := hn_X11_feed) (by decide +kernel) (by decide +kernel)
def hn_X11_putOnTape : List (List (Nat × Nat)) := [
  [], [], [], [], [], [(3, 114)], [], [], [(3, 114)], [], [(3, 113)], [],
  [], [], [(3, 113)], [], [(3, 114)], [], [], [], [], [], [], [],
  [(3, 114)], [], [], [(3, 114)], [], [], []]
set_option maxRecDepth 100000 in
theorem ok_X11_putOnTape : ∀ q ∈ op_X11_putOnTape, av_ok av_T vwCl mt_all mt_X11_putOnTape q := av_zip_ok ok_mm (by decide) okj_all ok_o1 ok_o2 (hs := hn_X11_putOnTape) (by decide +kernel) (by decide +kernel)
def hn_X11_text : List (List (Nat × Nat)) := [
  [], [], [], [], [(3, 114)], [], [], [], [], [], [(3, 114)], [],
  [(3, 117)], [], [(3, 116)], [], [(3, 174)], [], [], [], [], [], [(4, 93)], [],
  []]
set_option maxRecDepth 100000 in
theorem ok_X11_text : ∀ q ∈ op_X11_text, av_ok av_T vwCl mt_all mt_X11_text q := av_zip_ok ok_mm (by decide) okj_all ok_o1 ok_o2 (hs := hn_X11_text) (by decide +kernel) (by decide +kernel)
def hn_X11_takeSpare : List (List (Nat × Nat)) := [
  [], [(3, 115)], [], [], [], [(3, 116)], [(3, 115)], [], [], [(3, 116)], [], [(3, 118)],
  [(4, 97)], [], [], [], [], [], [], [(3, 120)], [], [], [], [(3, 115)],
  [], [(4, 101)], [], [], [], [], [(3, 121)], [], [], [(3, 123)], [], [(3, 124)],
  [(4, 113)], [], [(3, 125)], [(4, 117)], []]
set_option maxRecDepth 100000 in
theorem ok_X11_takeSpare : ∀ q ∈ op_X11_takeSpare, av_ok av_T vwCl mt_all mt_X11_takeSpare q := av_zip_ok ok_mm (by decide) okj_all ok_o1 ok_o2 (hs := hn_X11_takeSpare) (by decide +kernel) (by decide +kernel)
def hn_X11_fault : List (List (Nat × Nat)) := [
  [], [], [], [(3, 117)], [(2, 134)], [], [], [], [], [], [(3, 117)], [(2, 136)],
  [], [], []]
set_option maxRecDepth 100000 in
theorem ok_X11_fault : ∀ q ∈ op_X11_fault, av_ok av_T vwCl mt_all mt_X11_fault q := av_zip_ok ok_mm (by decide) okj_all ok_o1 ok_o2 (hs := hn_X11_fault) (by decide +kernel) (by decide +kernel)
def hn_X11_named : List (List (Nat × Nat)) := [
  [], [], [], [], [(3, 115)], [(1, 170)], [], [(3, 115)], [(1, 173)], [(4, 129)], [], [],
  [], [], [], [], [(3, 115)], [(1, 176)], [], [(3, 115)], [(1, 190)], [(4, 129)], [], [],
  [], [], [], [], [(3, 115)], [(1, 193)], [], [(3, 115)], [(1, 203)], [(4, 129)], [], [],
  []]
set_option maxRecDepth 100000 in
theorem ok_X11_named : ∀ q ∈ op_X11_named, av_ok av_T vwCl mt_all mt_X11_named q := av_zip_ok ok_mm (by decide) okj_all ok_o1 ok_o2 (hs := hn_X11_named) (by decide +kernel) (by decide +kernel)
def hn_X11_placeOf : List (List (Nat × Nat)) := [
  [], [], [], [], [], [], []]
set_option maxRecDepth 100000 in
theorem ok_X11_placeOf : ∀ q ∈ op_X11_placeOf, av_ok av_T vwCl mt_all mt_X11_placeOf q := av_zip_ok ok_mm (by decide) okj_all ok_o1 ok_o2 (hs := hn_X11_placeOf) (by decide +kernel) (by decide +kernel)
def hn_X11_isGate : List (List (Nat × Nat)) := [
  [], [], [], [], [(3, 115)], [(1, 173)], [], [], []]
set_option maxRecDepth 100000 in
theorem ok_X11_isGate : ∀ q ∈ op_X11_isGate, av_ok av_T vwCl mt_all mt_X11_isGate q := av_zip_ok ok_mm (by decide) okj_all ok_o1 ok_o2 (hs := hn_X11_isGate) (by decide +kernel) (by decide +kernel)
def hn_X11_isAhead : List (List (Nat × Nat)) := [
  [], [], [], [], [], [], [], [], []]
set_option maxRecDepth 100000 in
theorem ok_X11_isAhead : ∀ q ∈ op_X11_isAhead, av_ok av_T vwCl mt_all mt_X11_isAhead q := av_zip_ok ok_mm (by decide) okj_all ok_o1 ok_o2 (hs := hn_X11_isAhead) (by decide +kernel) (by decide +kernel)
def hn_X11_isWeek : List (List (Nat × Nat)) := [
  [], [], [], [], [], [], [], [], []]
set_option maxRecDepth 100000 in
theorem ok_X11_isWeek : ∀ q ∈ op_X11_isWeek, av_ok av_T vwCl mt_all mt_X11_isWeek q := av_zip_ok ok_mm (by decide) okj_all ok_o1 ok_o2 (hs := hn_X11_isWeek) (by decide +kernel) (by decide +kernel)
def hn_X11_works : List (List (Nat × Nat)) := [
  [], [(3, 115)], [], [(4, 134)], [], [], []]
set_option maxRecDepth 100000 in
theorem ok_X11_works : ∀ q ∈ op_X11_works, av_ok av_T vwCl mt_all mt_X11_works q := av_zip_ok ok_mm (by decide) okj_all ok_o1 ok_o2 (hs := hn_X11_works) (by decide +kernel) (by decide +kernel)
def hn_X11_firm : List (List (Nat × Nat)) := [
  [], [(4, 142)], [], [], [(3, 115)], [], [(4, 145)], [], [], []]
set_option maxRecDepth 100000 in
theorem ok_X11_firm : ∀ q ∈ op_X11_firm, av_ok av_T vwCl mt_all mt_X11_firm q := av_zip_ok ok_mm (by decide) okj_all ok_o1 ok_o2 (hs := hn_X11_firm) (by decide +kernel) (by decide +kernel)
def hn_X11_weeks : List (List (Nat × Nat)) := [
  [], [(4, 153)], [], [], [(3, 121)], [], [], [], [], [], [], [],
  [], [], [], [(3, 115)], [(1, 173)], [], [], [], [(3, 121)], [], [], [(3, 121)],
  [], [(3, 121)], []]
set_option maxRecDepth 100000 in
theorem ok_X11_weeks : ∀ q ∈ op_X11_weeks, av_ok av_T vwCl mt_all mt_X11_weeks q := av_zip_ok ok_mm (by decide) okj_all ok_o1 ok_o2 (hs := hn_X11_weeks) (by decide +kernel) (by decide +kernel)
def hn_X11_sags : List (List (Nat × Nat)) := [
  [], [], [(5, 0)], [], [(5, 4)], []]
set_option maxRecDepth 100000 in
theorem ok_X11_sags : ∀ q ∈ op_X11_sags, av_ok av_T vwCl mt_all mt_X11_sags q := av_zip_ok ok_mm (by decide) okj_all ok_o1 ok_o2 (hs := hn_X11_sags) (by decide +kernel) (by decide +kernel)
def hn_X11_latched : List (List (Nat × Nat)) := [
  [], [], [(5, 0)], [], [], []]
set_option maxRecDepth 100000 in
theorem ok_X11_latched : ∀ q ∈ op_X11_latched, av_ok av_T vwCl mt_all mt_X11_latched q := av_zip_ok ok_mm (by decide) okj_all ok_o1 ok_o2 (hs := hn_X11_latched) (by decide +kernel) (by decide +kernel)
def hn_X11_gives : List (List (Nat × Nat)) := [
  [], [], [(5, 0)], [], [], []]
set_option maxRecDepth 100000 in
theorem ok_X11_gives : ∀ q ∈ op_X11_gives, av_ok av_T vwCl mt_all mt_X11_gives q := av_zip_ok ok_mm (by decide) okj_all ok_o1 ok_o2 (hs := hn_X11_gives) (by decide +kernel) (by decide +kernel)
def hn_X11_work : List (List (Nat × Nat)) := [
  [], [], [(5, 0)], [], [], []]
set_option maxRecDepth 100000 in
theorem ok_X11_work : ∀ q ∈ op_X11_work, av_ok av_T vwCl mt_all mt_X11_work q := av_zip_ok ok_mm (by decide) okj_all ok_o1 ok_o2 (hs := hn_X11_work) (by decide +kernel) (by decide +kernel)
def hn_X11_undo : List (List (Nat × Nat)) := [
  [], [(3, 124)], [(3, 22)], [], [], []]
set_option maxRecDepth 100000 in
theorem ok_X11_undo : ∀ q ∈ op_X11_undo, av_ok av_T vwCl mt_all mt_X11_undo q := av_zip_ok ok_mm (by decide) okj_all ok_o1 ok_o2 (hs := hn_X11_undo) (by decide +kernel) (by decide +kernel)
def hn_X11_lasts : List (List (Nat × Nat)) := [
  [], [], [(5, 0)], [], [], []]
set_option maxRecDepth 100000 in
theorem ok_X11_lasts : ∀ q ∈ op_X11_lasts, av_ok av_T vwCl mt_all mt_X11_lasts q := av_zip_ok ok_mm (by decide) okj_all ok_o1 ok_o2 (hs := hn_X11_lasts) (by decide +kernel) (by decide +kernel)
def hn_X11_least : List (List (Nat × Nat)) := [
  [], [], [(5, 0)], [], [], []]
set_option maxRecDepth 100000 in
theorem ok_X11_least : ∀ q ∈ op_X11_least, av_ok av_T vwCl mt_all mt_X11_least q := av_zip_ok ok_mm (by decide) okj_all ok_o1 ok_o2 (hs := hn_X11_least) (by decide +kernel) (by decide +kernel)
def hn_X11_way : List (List (Nat × Nat)) := [
  [], [], [(5, 0)], [], [(5, 4)], []]
set_option maxRecDepth 100000 in
theorem ok_X11_way : ∀ q ∈ op_X11_way, av_ok av_T vwCl mt_all mt_X11_way q := av_zip_ok ok_mm (by decide) okj_all ok_o1 ok_o2 (hs := hn_X11_way) (by decide +kernel) (by decide +kernel)
def hn_X11_enough : List (List (Nat × Nat)) := [
  [], [], [(5, 0)], [], [], []]
set_option maxRecDepth 100000 in
theorem ok_X11_enough : ∀ q ∈ op_X11_enough, av_ok av_T vwCl mt_all mt_X11_enough q := av_zip_ok ok_mm (by decide) okj_all ok_o1 ok_o2 (hs := hn_X11_enough) (by decide +kernel) (by decide +kernel)
def hn_X11_bears : List (List (Nat × Nat)) := [
  [], [], [(5, 0)], [], [], []]
set_option maxRecDepth 100000 in
theorem ok_X11_bears : ∀ q ∈ op_X11_bears, av_ok av_T vwCl mt_all mt_X11_bears q := av_zip_ok ok_mm (by decide) okj_all ok_o1 ok_o2 (hs := hn_X11_bears) (by decide +kernel) (by decide +kernel)
def hn_X11_knock : List (List (Nat × Nat)) := [
  [], [], [(5, 0)], [], [(5, 103)], []]
set_option maxRecDepth 100000 in
theorem ok_X11_knock : ∀ q ∈ op_X11_knock, av_ok av_T vwCl mt_all mt_X11_knock q := av_zip_ok ok_mm (by decide) okj_all ok_o1 ok_o2 (hs := hn_X11_knock) (by decide +kernel) (by decide +kernel)
def hn_X11_measure : List (List (Nat × Nat)) := [
  [], [(5, 110)], [], [], [], [], [], [(5, 111)], [], [], [], [],
  [], [], [], [(5, 0)], [], [], []]
set_option maxRecDepth 100000 in
theorem ok_X11_measure : ∀ q ∈ op_X11_measure, av_ok av_T vwCl mt_all mt_X11_measure q := av_zip_ok ok_mm (by decide) okj_all ok_o1 ok_o2 (hs := hn_X11_measure) (by decide +kernel) (by decide +kernel)
def hn_X11_strike : List (List (Nat × Nat)) := [
  [], [], [], [], [(3, 125)], [(3, 46)], [], [], []]
set_option maxRecDepth 100000 in
theorem ok_X11_strike : ∀ q ∈ op_X11_strike, av_ok av_T vwCl mt_all mt_X11_strike q := av_zip_ok ok_mm (by decide) okj_all ok_o1 ok_o2 (hs := hn_X11_strike) (by decide +kernel) (by decide +kernel)
def hn_X11_known : List (List (Nat × Nat)) := [
  [], [], [], [], [], [(3, 125)], [(3, 46)], [], [], [], [], [(3, 125)],
  [], [(3, 48)], [], []]
set_option maxRecDepth 100000 in
theorem ok_X11_known : ∀ q ∈ op_X11_known, av_ok av_T vwCl mt_all mt_X11_known q := av_zip_ok ok_mm (by decide) okj_all ok_o1 ok_o2 (hs := hn_X11_known) (by decide +kernel) (by decide +kernel)
def hn_X11_fits : List (List (Nat × Nat)) := [
  [], [], [(5, 0)], [], [], []]
set_option maxRecDepth 100000 in
theorem ok_X11_fits : ∀ q ∈ op_X11_fits, av_ok av_T vwCl mt_all mt_X11_fits q := av_zip_ok ok_mm (by decide) okj_all ok_o1 ok_o2 (hs := hn_X11_fits) (by decide +kernel) (by decide +kernel)
def hn_X11_odds : List (List (Nat × Nat)) := [
  [], [], [(5, 0)], [], [], []]
set_option maxRecDepth 100000 in
theorem ok_X11_odds : ∀ q ∈ op_X11_odds, av_ok av_T vwCl mt_all mt_X11_odds q := av_zip_ok ok_mm (by decide) okj_all ok_o1 ok_o2 (hs := hn_X11_odds) (by decide +kernel) (by decide +kernel)
def hn_X11_test : List (List (Nat × Nat)) := [
  [], [], [(5, 0)], [], [], []]
set_option maxRecDepth 100000 in
theorem ok_X11_test : ∀ q ∈ op_X11_test, av_ok av_T vwCl mt_all mt_X11_test q := av_zip_ok ok_mm (by decide) okj_all ok_o1 ok_o2 (hs := hn_X11_test) (by decide +kernel) (by decide +kernel)
def hn_X11_low : List (List (Nat × Nat)) := [
  [], [], [(5, 0)], [], [(5, 4)], []]
set_option maxRecDepth 100000 in
theorem ok_X11_low : ∀ q ∈ op_X11_low, av_ok av_T vwCl mt_all mt_X11_low q := av_zip_ok ok_mm (by decide) okj_all ok_o1 ok_o2 (hs := hn_X11_low) (by decide +kernel) (by decide +kernel)
def hn_X11_rest : List (List (Nat × Nat)) := [
  [], [], [(5, 0)], [], [], []]
set_option maxRecDepth 100000 in
theorem ok_X11_rest : ∀ q ∈ op_X11_rest, av_ok av_T vwCl mt_all mt_X11_rest q := av_zip_ok ok_mm (by decide) okj_all ok_o1 ok_o2 (hs := hn_X11_rest) (by decide +kernel) (by decide +kernel)
def hn_X11_shuts : List (List (Nat × Nat)) := [
  [], [], [(5, 0)], [], [], []]
set_option maxRecDepth 100000 in
theorem ok_X11_shuts : ∀ q ∈ op_X11_shuts, av_ok av_T vwCl mt_all mt_X11_shuts q := av_zip_ok ok_mm (by decide) okj_all ok_o1 ok_o2 (hs := hn_X11_shuts) (by decide +kernel) (by decide +kernel)
def hn_X11_above : List (List (Nat × Nat)) := [
  [], [], [(5, 0)], [], [(5, 4)], []]
set_option maxRecDepth 100000 in
theorem ok_X11_above : ∀ q ∈ op_X11_above, av_ok av_T vwCl mt_all mt_X11_above q := av_zip_ok ok_mm (by decide) okj_all ok_o1 ok_o2 (hs := hn_X11_above) (by decide +kernel) (by decide +kernel)
end
section
/-! ===== the rows of the methods ===== -/
def hn_X11_opens : List (List (Nat × Nat)) := [
  [], [], [(5, 0)], [], [], []]
set_option maxRecDepth 100000 in
theorem ok_X11_opens : ∀ q ∈ op_X11_opens, av_ok av_T vwCl mt_all mt_X11_opens q := av_zip_ok ok_mm (by decide) okj_all ok_o1 ok_o2 (hs := hn_X11_opens) (by decide +kernel) (by decide +kernel)
def hn_X11_stand : List (List (Nat × Nat)) := [
  [], [], [(5, 0)], [], [(5, 4)], []]
set_option maxRecDepth 100000 in
theorem ok_X11_stand : ∀ q ∈ op_X11_stand, av_ok av_T vwCl mt_all mt_X11_stand q := av_zip_ok ok_mm (by decide) okj_all ok_o1 ok_o2 (hs := hn_X11_stand) (by decide +kernel) (by decide +kernel)
def hn_X11_first : List (List (Nat × Nat)) := [
  [], [(3, 115)], [(1, 173)], [], [], []]
set_option maxRecDepth 100000 in
theorem ok_X11_first : ∀ q ∈ op_X11_first, av_ok av_T vwCl mt_all mt_X11_first q := av_zip_ok ok_mm (by decide) okj_all ok_o1 ok_o2 (hs := hn_X11_first) (by decide +kernel) (by decide +kernel)
def hn_X11_wind : List (List (Nat × Nat)) := [
  [], [], [], [], [], [], [], [], [], [], [], [],
  [], [], [], [], [], [], [], [], [], [], [(5, 0)], [],
  [], []]
set_option maxRecDepth 100000 in
theorem ok_X11_wind : ∀ q ∈ op_X11_wind, av_ok av_T vwCl mt_all mt_X11_wind q := av_zip_ok ok_mm (by decide) okj_all ok_o1 ok_o2 (hs := hn_X11_wind) (by decide +kernel) (by decide +kernel)
def hn_X11_keep : List (List (Nat × Nat)) := [
  [], [], [], [], [], [], [(3, 122)], [], [], [], [(3, 120)], [],
  [], [(5, 64)], [], [], [], [], [(3, 121)], [(3, 123)], [], [(3, 121)], []]
set_option maxRecDepth 100000 in
theorem ok_X11_keep : ∀ q ∈ op_X11_keep, av_ok av_T vwCl mt_all mt_X11_keep q := av_zip_ok ok_mm (by decide) okj_all ok_o1 ok_o2 (hs := hn_X11_keep) (by decide +kernel) (by decide +kernel)
def hn_X11_back : List (List (Nat × Nat)) := [
  [], [(3, 123)], [], [], [], []]
set_option maxRecDepth 100000 in
theorem ok_X11_back : ∀ q ∈ op_X11_back, av_ok av_T vwCl mt_all mt_X11_back q := av_zip_ok ok_mm (by decide) okj_all ok_o1 ok_o2 (hs := hn_X11_back) (by decide +kernel) (by decide +kernel)
def hn_X11_count : List (List (Nat × Nat)) := [
  [], [], [], [(3, 115)], [(1, 173)], [], [], [(3, 115)], [(1, 190)], [], [], [(3, 115)],
  [(1, 203)], [], [], [(3, 115)], [(1, 156)], [], [], [(3, 121)], [], [], [(3, 125)], [(3, 46)],
  [], [], [(3, 125)], [(6, 56)], [], [], [(3, 124)], [(3, 22)], [], [], [(6, 57)], [],
  [], []]
set_option maxRecDepth 100000 in
theorem ok_X11_count : ∀ q ∈ op_X11_count, av_ok av_T vwCl mt_all mt_X11_count q := av_zip_ok ok_mm (by decide) okj_all ok_o1 ok_o2 (hs := hn_X11_count) (by decide +kernel) (by decide +kernel)
def hn_X11_costOfAllDone : List (List (Nat × Nat)) := [
  [], [], [], [], [], [], [(3, 115)], [(1, 173)], [], [], []]
set_option maxRecDepth 100000 in
theorem ok_X11_costOfAllDone : ∀ q ∈ op_X11_costOfAllDone, av_ok av_T vwCl mt_all mt_X11_costOfAllDone q := av_zip_ok ok_mm (by decide) okj_all ok_o1 ok_o2 (hs := hn_X11_costOfAllDone) (by decide +kernel) (by decide +kernel)
def hn_X12_thrown : List (List (Nat × Nat)) := [
  [], [(6, 179)], []]
set_option maxRecDepth 100000 in
theorem ok_X12_thrown : ∀ q ∈ op_X12_thrown, av_ok av_T vwCl mt_all mt_X12_thrown q := av_zip_ok ok_mm (by decide) okj_all ok_o1 ok_o2 (hs := hn_X12_thrown) (by decide +kernel) (by decide +kernel)
def hn_X12_feed : List (List (Nat × Nat)) := [
  [], [], [(6, 179)], [], [(6, 178)], [], [], [], [], [], [], [],
  [], [], [], [], [], [], [], [], [], [], [], [],
  [], [], [], [], [], [], [], [], [], [], [], [],
  [], [(6, 177)], [], [(6, 178)], [], [], [], [], [], [], [], [],
  [], [], [], [], [], [], [], [], [], [], [(6, 178)], [],
  [], [(6, 178)], [], [(6, 178)], []]
set_option maxRecDepth 100000 in
theorem ok_X12_feed : ∀ q ∈ op_X12_feed, av_ok av_T vwCl mt_all mt_X12_feed q := av_zip_ok ok_mm (by decide) okj_all ok_o1 ok_o2 (hs := hn_X12_feed) (by decide +kernel) (by decide +kernel)
def hn_X12_isIn : List (List (Nat × Nat)) := [
  [], [], [], [], [], [], [], [], [], []]
set_option maxRecDepth 100000 in
theorem ok_X12_isIn : ∀ q ∈ op_X12_isIn, av_ok av_T vwCl mt_all mt_X12_isIn q := av_zip_ok ok_mm (by decide) okj_all ok_o1 ok_o2 (hs := hn_X12_isIn) (by decide +kernel) (by decide +kernel)
def hn_X12_token : List (List (Nat × Nat)) := [
  [], [(6, 184)], [], [(6, 183)], [], [], [], [(6, 184)], [(6, 187)], [], [(6, 184)], [],
  [(6, 183)], [], [], [], [(6, 185)], [], []]
set_option maxRecDepth 100000 in
theorem ok_X12_token : ∀ q ∈ op_X12_token, av_ok av_T vwCl mt_all mt_X12_token q := av_zip_ok ok_mm (by decide) okj_all ok_o1 ok_o2 (hs := hn_X12_token) (by decide +kernel) (by decide +kernel)
def hn_X12_plain : List (List (Nat × Nat)) := [
  [], [], [(6, 193)], [], [], [(6, 194)], [], [], [(6, 195)], [], [], [(6, 196)],
  [], [], [(6, 217)], [], [], [(6, 197)], [], [], [], [], [], [],
  [(6, 198)], [], [], [], [], [], [], [], [], [], [], [],
  [], [], [(6, 201)], [], [], [], [], [], [], [], []]
set_option maxRecDepth 100000 in
theorem ok_X12_plain : ∀ q ∈ op_X12_plain, av_ok av_T vwCl mt_all mt_X12_plain q := av_zip_ok ok_mm (by decide) okj_all ok_o1 ok_o2 (hs := hn_X12_plain) (by decide +kernel) (by decide +kernel)
def hn_X12_copies : List (List (Nat × Nat)) := [
  [], [], [], [], [], [], [], [], [], [], [], [],
  [], [], [], []]
set_option maxRecDepth 100000 in
theorem ok_X12_copies : ∀ q ∈ op_X12_copies, av_ok av_T vwCl mt_all mt_X12_copies q := av_zip_ok ok_mm (by decide) okj_all ok_o1 ok_o2 (hs := hn_X12_copies) (by decide +kernel) (by decide +kernel)
def hn_X12_keepText : List (List (Nat × Nat)) := [
  [], [], [(6, 193)], [(6, 189)], [], [], [(6, 194)], [(6, 190)], [], [], [(6, 195)], [(6, 191)],
  [], [], [(6, 196)], [(6, 192)], [], [(6, 198)], [], [(6, 167)], [], [(6, 199)], [], [(6, 167)],
  [], [(6, 200)], [], [(6, 167)], [], [], [], [], [], [], [(6, 201)], [],
  [], [(6, 201)], [], [], [], [], [], [], [], [], [(6, 202)], [],
  [(6, 167)], [], [(6, 203)], [], [(6, 167)], [], [(6, 204)], [], [(6, 167)], [], [(6, 205)], [],
  [(6, 167)], [], [(6, 206)], [], [(6, 167)], [], [(6, 207)], [], [(6, 167)], [], [(6, 208)], [],
  [(6, 167)], [], [(6, 209)], [], [(6, 167)], [], [(6, 210)], [], [(6, 167)], [], [(6, 211)], [],
  [(6, 167)], [], [], [], [], [], [], [], [(6, 170)], [], [(6, 221)], [],
  [], [], [], [(6, 222)], [], [(6, 174)], [], [], [], [], [(6, 220)], [],
  [], [(6, 229)], [], [], [(6, 230)], [], [], [(6, 227)], [], [], [(7, 3)], []]
set_option maxRecDepth 100000 in
theorem ok_X12_keepText : ∀ q ∈ op_X12_keepText, av_ok av_T vwCl mt_all mt_X12_keepText q := av_zip_ok ok_mm (by decide) okj_all ok_o1 ok_o2 (hs := hn_X12_keepText) (by decide +kernel) (by decide +kernel)
def hn_X12_find : List (List (Nat × Nat)) := [
  [], [], [], [], [], [], []]
set_option maxRecDepth 100000 in
theorem ok_X12_find : ∀ q ∈ op_X12_find, av_ok av_T vwCl mt_all mt_X12_find q := av_zip_ok ok_mm (by decide) okj_all ok_o1 ok_o2 (hs := hn_X12_find) (by decide +kernel) (by decide +kernel)
def hn_X12_text : List (List (Nat × Nat)) := [
  [], [], [(6, 179)], [], [], [], [], [(6, 178)], [], [], [], [],
  [], [(6, 183)], [], [], [(6, 178)], [], [], [(6, 181)], [], [], [(6, 182)], [],
  [], [(6, 184)], [], [(6, 159)], [], [(7, 157)], [], [], [], [(6, 185)], [], [],
  [(6, 163)], [], []]
set_option maxRecDepth 100000 in
theorem ok_X12_text : ∀ q ∈ op_X12_text, av_ok av_T vwCl mt_all mt_X12_text q := av_zip_ok ok_mm (by decide) okj_all ok_o1 ok_o2 (hs := hn_X12_text) (by decide +kernel) (by decide +kernel)
def hn_X12_fault : List (List (Nat × Nat)) := [
  [], [], [(6, 179)], [], [], [], [(6, 181)], [], [], [], [], [],
  [(6, 182)], [], [], []]
set_option maxRecDepth 100000 in
theorem ok_X12_fault : ∀ q ∈ op_X12_fault, av_ok av_T vwCl mt_all mt_X12_fault q := av_zip_ok ok_mm (by decide) okj_all ok_o1 ok_o2 (hs := hn_X12_fault) (by decide +kernel) (by decide +kernel)
def hn_X12_named : List (List (Nat × Nat)) := [
  [], [], [(6, 179)], [], [], [], [(6, 202)], [], [], [(6, 189)], [], [(8, 19)],
  [], [], [], [], [], [(6, 205)], [], [], [(6, 190)], [], [(8, 19)], [],
  [], [], [], [], [(6, 207)], [], [], [(6, 191)], [], [(8, 19)], [], [],
  []]
set_option maxRecDepth 100000 in
theorem ok_X12_named : ∀ q ∈ op_X12_named, av_ok av_T vwCl mt_all mt_X12_named q := av_zip_ok ok_mm (by decide) okj_all ok_o1 ok_o2 (hs := hn_X12_named) (by decide +kernel) (by decide +kernel)
def hn_X12_lays : List (List (Nat × Nat)) := [
  [], [], [], [], [], [], [], [], [], [], [], [],
  [], [], [], [], [], []]
set_option maxRecDepth 100000 in
theorem ok_X12_lays : ∀ q ∈ op_X12_lays, av_ok av_T vwCl mt_all mt_X12_lays q := av_zip_ok ok_mm (by decide) okj_all ok_o1 ok_o2 (hs := hn_X12_lays) (by decide +kernel) (by decide +kernel)
def hn_X12_begins : List (List (Nat × Nat)) := [
  [], [], [], [], [], [], [(6, 222)], [], [], [], [], [],
  [], [(6, 222)], [], [], [(6, 203)], [], [], [], [], [], [], [],
  [], [(6, 222)], [], [], [(6, 203)], [], [], [], [], [], [], [],
  [], [(6, 222)], [], [], [(6, 203)], [], [], [], [], [], [], [],
  [], [(6, 222)], [], [], [(6, 203)], [], [], [], [], [], [], [],
  []]
set_option maxRecDepth 100000 in
theorem ok_X12_begins : ∀ q ∈ op_X12_begins, av_ok av_T vwCl mt_all mt_X12_begins q := av_zip_ok ok_mm (by decide) okj_all ok_o1 ok_o2 (hs := hn_X12_begins) (by decide +kernel) (by decide +kernel)
def hn_X12_firmOf : List (List (Nat × Nat)) := [
  [], [(6, 198)], [], [], [], [], [], [], [], [], []]
set_option maxRecDepth 100000 in
theorem ok_X12_firmOf : ∀ q ∈ op_X12_firmOf, av_ok av_T vwCl mt_all mt_X12_firmOf q := av_zip_ok ok_mm (by decide) okj_all ok_o1 ok_o2 (hs := hn_X12_firmOf) (by decide +kernel) (by decide +kernel)
def hn_X12_isGate : List (List (Nat × Nat)) := [
  [], [], [], [], [(6, 189)], [], [], []]
set_option maxRecDepth 100000 in
theorem ok_X12_isGate : ∀ q ∈ op_X12_isGate, av_ok av_T vwCl mt_all mt_X12_isGate q := av_zip_ok ok_mm (by decide) okj_all ok_o1 ok_o2 (hs := hn_X12_isGate) (by decide +kernel) (by decide +kernel)
def hn_X12_fails : List (List (Nat × Nat)) := [
  [], [], [(6, 179)], [], []]
set_option maxRecDepth 100000 in
theorem ok_X12_fails : ∀ q ∈ op_X12_fails, av_ok av_T vwCl mt_all mt_X12_fails q := av_zip_ok ok_mm (by decide) okj_all ok_o1 ok_o2 (hs := hn_X12_fails) (by decide +kernel) (by decide +kernel)
def hn_X12_look : List (List (Nat × Nat)) := [
  [], [], [(6, 179)], [], [], [(8, 72)], [], [], [], [(8, 76)], []]
set_option maxRecDepth 100000 in
theorem ok_X12_look : ∀ q ∈ op_X12_look, av_ok av_T vwCl mt_all mt_X12_look q := av_zip_ok ok_mm (by decide) okj_all ok_o1 ok_o2 (hs := hn_X12_look) (by decide +kernel) (by decide +kernel)
def hn_X12_works : List (List (Nat × Nat)) := [
  [], [], [(6, 179)], [], [], [], [], [(6, 190)], [], [], [], []]
set_option maxRecDepth 100000 in
theorem ok_X12_works : ∀ q ∈ op_X12_works, av_ok av_T vwCl mt_all mt_X12_works q := av_zip_ok ok_mm (by decide) okj_all ok_o1 ok_o2 (hs := hn_X12_works) (by decide +kernel) (by decide +kernel)
def hn_X12_firm : List (List (Nat × Nat)) := [
  [], [], [(6, 179)], [], [], [], [(7, 201)], [], [], [], [(8, 100)], [],
  [], []]
set_option maxRecDepth 100000 in
theorem ok_X12_firm : ∀ q ∈ op_X12_firm, av_ok av_T vwCl mt_all mt_X12_firm q := av_zip_ok ok_mm (by decide) okj_all ok_o1 ok_o2 (hs := hn_X12_firm) (by decide +kernel) (by decide +kernel)
def hn_X12_weeks : List (List (Nat × Nat)) := [
  [], [], [(6, 179)], [], [], [], [(7, 201)], [], [], [(6, 220)], [], [],
  [], [], [], [], [], [], [], [], [(6, 189)], [], [], [],
  [(6, 220)], [], [], [(6, 220)], [], [(6, 220)], []]
set_option maxRecDepth 100000 in
theorem ok_X12_weeks : ∀ q ∈ op_X12_weeks, av_ok av_T vwCl mt_all mt_X12_weeks q := av_zip_ok ok_mm (by decide) okj_all ok_o1 ok_o2 (hs := hn_X12_weeks) (by decide +kernel) (by decide +kernel)
def hn_X12_sags : List (List (Nat × Nat)) := [
  [], [], [(6, 179)], [], [], [(8, 72)], [], [(8, 155)], []]
set_option maxRecDepth 100000 in
theorem ok_X12_sags : ∀ q ∈ op_X12_sags, av_ok av_T vwCl mt_all mt_X12_sags q := av_zip_ok ok_mm (by decide) okj_all ok_o1 ok_o2 (hs := hn_X12_sags) (by decide +kernel) (by decide +kernel)
def hn_X12_latched : List (List (Nat × Nat)) := [
  [], [], [(6, 179)], [], [], [(8, 72)], [], [], []]
set_option maxRecDepth 100000 in
theorem ok_X12_latched : ∀ q ∈ op_X12_latched, av_ok av_T vwCl mt_all mt_X12_latched q := av_zip_ok ok_mm (by decide) okj_all ok_o1 ok_o2 (hs := hn_X12_latched) (by decide +kernel) (by decide +kernel)
def hn_X12_gives : List (List (Nat × Nat)) := [
  [], [], [(6, 179)], [], [], [(8, 72)], [], [], []]
set_option maxRecDepth 100000 in
theorem ok_X12_gives : ∀ q ∈ op_X12_gives, av_ok av_T vwCl mt_all mt_X12_gives q := av_zip_ok ok_mm (by decide) okj_all ok_o1 ok_o2 (hs := hn_X12_gives) (by decide +kernel) (by decide +kernel)
def hn_X12_work : List (List (Nat × Nat)) := [
  [], [], [(6, 179)], [], [], [(8, 72)], [], [], []]
set_option maxRecDepth 100000 in
theorem ok_X12_work : ∀ q ∈ op_X12_work, av_ok av_T vwCl mt_all mt_X12_work q := av_zip_ok ok_mm (by decide) okj_all ok_o1 ok_o2 (hs := hn_X12_work) (by decide +kernel) (by decide +kernel)
def hn_X12_undo : List (List (Nat × Nat)) := [
  [], [], [(6, 179)], [], [(6, 227)], [], [], []]
set_option maxRecDepth 100000 in
theorem ok_X12_undo : ∀ q ∈ op_X12_undo, av_ok av_T vwCl mt_all mt_X12_undo q := av_zip_ok ok_mm (by decide) okj_all ok_o1 ok_o2 (hs := hn_X12_undo) (by decide +kernel) (by decide +kernel)
def hn_X12_lasts : List (List (Nat × Nat)) := [
  [], [], [(6, 179)], [], [], [(8, 72)], [], [], []]
set_option maxRecDepth 100000 in
theorem ok_X12_lasts : ∀ q ∈ op_X12_lasts, av_ok av_T vwCl mt_all mt_X12_lasts q := av_zip_ok ok_mm (by decide) okj_all ok_o1 ok_o2 (hs := hn_X12_lasts) (by decide +kernel) (by decide +kernel)
def hn_X12_least : List (List (Nat × Nat)) := [
  [], [], [(6, 179)], [], [], [(8, 72)], [], [], []]
set_option maxRecDepth 100000 in
theorem ok_X12_least : ∀ q ∈ op_X12_least, av_ok av_T vwCl mt_all mt_X12_least q := av_zip_ok ok_mm (by decide) okj_all ok_o1 ok_o2 (hs := hn_X12_least) (by decide +kernel) (by decide +kernel)
def hn_X12_way : List (List (Nat × Nat)) := [
  [], [], [(6, 179)], [], [], [(8, 72)], [], [(8, 155)], []]
set_option maxRecDepth 100000 in
theorem ok_X12_way : ∀ q ∈ op_X12_way, av_ok av_T vwCl mt_all mt_X12_way q := av_zip_ok ok_mm (by decide) okj_all ok_o1 ok_o2 (hs := hn_X12_way) (by decide +kernel) (by decide +kernel)
def hn_X12_enough : List (List (Nat × Nat)) := [
  [], [], [(6, 179)], [], [], [(8, 72)], [], [], []]
set_option maxRecDepth 100000 in
theorem ok_X12_enough : ∀ q ∈ op_X12_enough, av_ok av_T vwCl mt_all mt_X12_enough q := av_zip_ok ok_mm (by decide) okj_all ok_o1 ok_o2 (hs := hn_X12_enough) (by decide +kernel) (by decide +kernel)
def hn_X12_bears : List (List (Nat × Nat)) := [
  [], [], [(6, 179)], [], [], [(8, 72)], [], [], []]
set_option maxRecDepth 100000 in
theorem ok_X12_bears : ∀ q ∈ op_X12_bears, av_ok av_T vwCl mt_all mt_X12_bears q := av_zip_ok ok_mm (by decide) okj_all ok_o1 ok_o2 (hs := hn_X12_bears) (by decide +kernel) (by decide +kernel)
def hn_X12_knock : List (List (Nat × Nat)) := [
  [], [], [(6, 179)], [], [], [(8, 72)], [], [(8, 217)], []]
set_option maxRecDepth 100000 in
theorem ok_X12_knock : ∀ q ∈ op_X12_knock, av_ok av_T vwCl mt_all mt_X12_knock q := av_zip_ok ok_mm (by decide) okj_all ok_o1 ok_o2 (hs := hn_X12_knock) (by decide +kernel) (by decide +kernel)
def hn_X12_measure : List (List (Nat × Nat)) := [
  [], [], [(6, 179)], [], [(6, 229)], [], [], [], [], [(8, 72)], [], [],
  []]
set_option maxRecDepth 100000 in
theorem ok_X12_measure : ∀ q ∈ op_X12_measure, av_ok av_T vwCl mt_all mt_X12_measure q := av_zip_ok ok_mm (by decide) okj_all ok_o1 ok_o2 (hs := hn_X12_measure) (by decide +kernel) (by decide +kernel)
def hn_X12_strike : List (List (Nat × Nat)) := [
  [], [], [(6, 179)], [], [(6, 229)], [], [], [], [], [], [], [(6, 229)],
  [], [], []]
set_option maxRecDepth 100000 in
theorem ok_X12_strike : ∀ q ∈ op_X12_strike, av_ok av_T vwCl mt_all mt_X12_strike q := av_zip_ok ok_mm (by decide) okj_all ok_o1 ok_o2 (hs := hn_X12_strike) (by decide +kernel) (by decide +kernel)
def hn_X12_known : List (List (Nat × Nat)) := [
  [], [], [(6, 179)], [], [], [], [(6, 229)], [(7, 201)], [], [], [], [],
  [], [(6, 230)], [], []]
set_option maxRecDepth 100000 in
theorem ok_X12_known : ∀ q ∈ op_X12_known, av_ok av_T vwCl mt_all mt_X12_known q := av_zip_ok ok_mm (by decide) okj_all ok_o1 ok_o2 (hs := hn_X12_known) (by decide +kernel) (by decide +kernel)
def hn_X12_knownMany : List (List (Nat × Nat)) := [
  [], [(6, 230)], [], [], [(6, 229)], [], []]
set_option maxRecDepth 100000 in
theorem ok_X12_knownMany : ∀ q ∈ op_X12_knownMany, av_ok av_T vwCl mt_all mt_X12_knownMany q := av_zip_ok ok_mm (by decide) okj_all ok_o1 ok_o2 (hs := hn_X12_knownMany) (by decide +kernel) (by decide +kernel)
def hn_X12_fits : List (List (Nat × Nat)) := [
  [], [], [(6, 179)], [], [], [(8, 72)], [], [], []]
set_option maxRecDepth 100000 in
theorem ok_X12_fits : ∀ q ∈ op_X12_fits, av_ok av_T vwCl mt_all mt_X12_fits q := av_zip_ok ok_mm (by decide) okj_all ok_o1 ok_o2 (hs := hn_X12_fits) (by decide +kernel) (by decide +kernel)
def hn_X12_odds : List (List (Nat × Nat)) := [
  [], [], [(6, 179)], [], [], [(8, 72)], [], [], []]
set_option maxRecDepth 100000 in
theorem ok_X12_odds : ∀ q ∈ op_X12_odds, av_ok av_T vwCl mt_all mt_X12_odds q := av_zip_ok ok_mm (by decide) okj_all ok_o1 ok_o2 (hs := hn_X12_odds) (by decide +kernel) (by decide +kernel)
def hn_X12_test : List (List (Nat × Nat)) := [
  [], [], [(6, 179)], [], [], [(8, 72)], [], [], []]
set_option maxRecDepth 100000 in
theorem ok_X12_test : ∀ q ∈ op_X12_test, av_ok av_T vwCl mt_all mt_X12_test q := av_zip_ok ok_mm (by decide) okj_all ok_o1 ok_o2 (hs := hn_X12_test) (by decide +kernel) (by decide +kernel)
def hn_X12_low : List (List (Nat × Nat)) := [
  [], [], [(6, 179)], [], [], [(8, 72)], [], [(8, 155)], []]
set_option maxRecDepth 100000 in
theorem ok_X12_low : ∀ q ∈ op_X12_low, av_ok av_T vwCl mt_all mt_X12_low q := av_zip_ok ok_mm (by decide) okj_all ok_o1 ok_o2 (hs := hn_X12_low) (by decide +kernel) (by decide +kernel)
def hn_X12_rest : List (List (Nat × Nat)) := [
  [], [], [(6, 179)], [], [], [(8, 72)], [], [], []]
set_option maxRecDepth 100000 in
theorem ok_X12_rest : ∀ q ∈ op_X12_rest, av_ok av_T vwCl mt_all mt_X12_rest q := av_zip_ok ok_mm (by decide) okj_all ok_o1 ok_o2 (hs := hn_X12_rest) (by decide +kernel) (by decide +kernel)
def hn_X12_shuts : List (List (Nat × Nat)) := [
  [], [], [(6, 179)], [], [], [(8, 72)], [], [], []]
set_option maxRecDepth 100000 in
theorem ok_X12_shuts : ∀ q ∈ op_X12_shuts, av_ok av_T vwCl mt_all mt_X12_shuts q := av_zip_ok ok_mm (by decide) okj_all ok_o1 ok_o2 (hs := hn_X12_shuts) (by decide +kernel) (by decide +kernel)
def hn_X12_above : List (List (Nat × Nat)) := [
  [], [], [(6, 179)], [], [], [(8, 72)], [], [(8, 155)], []]
set_option maxRecDepth 100000 in
theorem ok_X12_above : ∀ q ∈ op_X12_above, av_ok av_T vwCl mt_all mt_X12_above q := av_zip_ok ok_mm (by decide) okj_all ok_o1 ok_o2 (hs := hn_X12_above) (by decide +kernel) (by decide +kernel)
def hn_X12_opens : List (List (Nat × Nat)) := [
  [], [], [(6, 179)], [], [], [(8, 72)], [], [], []]
set_option maxRecDepth 100000 in
theorem ok_X12_opens : ∀ q ∈ op_X12_opens, av_ok av_T vwCl mt_all mt_X12_opens q := av_zip_ok ok_mm (by decide) okj_all ok_o1 ok_o2 (hs := hn_X12_opens) (by decide +kernel) (by decide +kernel)
def hn_X12_stand : List (List (Nat × Nat)) := [
  [], [], [(6, 179)], [], [], [(8, 72)], [], [(8, 155)], []]
set_option maxRecDepth 100000 in
theorem ok_X12_stand : ∀ q ∈ op_X12_stand, av_ok av_T vwCl mt_all mt_X12_stand q := av_zip_ok ok_mm (by decide) okj_all ok_o1 ok_o2 (hs := hn_X12_stand) (by decide +kernel) (by decide +kernel)
def hn_X12_first : List (List (Nat × Nat)) := [
  [], [], [(6, 179)], [], [(6, 189)], [], [], []]
set_option maxRecDepth 100000 in
theorem ok_X12_first : ∀ q ∈ op_X12_first, av_ok av_T vwCl mt_all mt_X12_first q := av_zip_ok ok_mm (by decide) okj_all ok_o1 ok_o2 (hs := hn_X12_first) (by decide +kernel) (by decide +kernel)
def hn_X12_wind : List (List (Nat × Nat)) := [
  [], [], [(6, 179)], [], [], [(8, 72)], [], [], []]
set_option maxRecDepth 100000 in
theorem ok_X12_wind : ∀ q ∈ op_X12_wind, av_ok av_T vwCl mt_all mt_X12_wind q := av_zip_ok ok_mm (by decide) okj_all ok_o1 ok_o2 (hs := hn_X12_wind) (by decide +kernel) (by decide +kernel)
def hn_X12_keep : List (List (Nat × Nat)) := [
  [], [], [(6, 179)], [], [], [(7, 3)], [], [], [(6, 220)], [(7, 4)], [], [],
  [], [], [], [], [(7, 5)], [], [], [], [], [(6, 221)], [], [],
  [], [(6, 174)], [], [], [], [(6, 220)], []]
set_option maxRecDepth 100000 in
theorem ok_X12_keep : ∀ q ∈ op_X12_keep, av_ok av_T vwCl mt_all mt_X12_keep q := av_zip_ok ok_mm (by decide) okj_all ok_o1 ok_o2 (hs := hn_X12_keep) (by decide +kernel) (by decide +kernel)
def hn_X12_back : List (List (Nat × Nat)) := [
  [], [], [(6, 179)], [], [(7, 3)], [], [], []]
set_option maxRecDepth 100000 in
theorem ok_X12_back : ∀ q ∈ op_X12_back, av_ok av_T vwCl mt_all mt_X12_back q := av_zip_ok ok_mm (by decide) okj_all ok_o1 ok_o2 (hs := hn_X12_back) (by decide +kernel) (by decide +kernel)
def hn_X12_count : List (List (Nat × Nat)) := [
  [], [], [(6, 179)], [], [], [], [], [], [(6, 189)], [], [], [(6, 190)],
  [], [], [(6, 191)], [], [], [(6, 192)], [], [], [(6, 220)], [], [], [(6, 229)],
  [], [], [(9, 4)], [], [], [(6, 227)], [], [], [], [], [], [(6, 189)],
  [], [], [], [], []]
set_option maxRecDepth 100000 in
theorem ok_X12_count : ∀ q ∈ op_X12_count, av_ok av_T vwCl mt_all mt_X12_count q := av_zip_ok ok_mm (by decide) okj_all ok_o1 ok_o2 (hs := hn_X12_count) (by decide +kernel) (by decide +kernel)
def hn_J0_length_8abf5 : List (List (Nat × Nat)) := [
  [], [(9, 145)], [], [], [(2, 23)], [], []]
set_option maxRecDepth 100000 in
theorem ok_J0_length_8abf5 : ∀ q ∈ op_J0_length_8abf5, av_ok av_T vwCl mt_all mt_J0_length_8abf5 q := av_zip_ok ok_mm (by decide) okj_all ok_o1 ok_o2 (hs := hn_J0_length_8abf5) (by decide +kernel) (by decide +kernel)
def hn_J0_charAt_5068e : List (List (Nat × Nat)) := [
  [], [(2, 33)], [], [], [(9, 145)], [], [(2, 37)], []]
set_option maxRecDepth 100000 in
theorem ok_J0_charAt_5068e : ∀ q ∈ op_J0_charAt_5068e, av_ok av_T vwCl mt_all mt_J0_charAt_5068e q := av_zip_ok ok_mm (by decide) okj_all ok_o1 ok_o2 (hs := hn_J0_charAt_5068e) (by decide +kernel) (by decide +kernel)
def hn_J0_coder_7d493 : List (List (Nat × Nat)) := [
  [(2, 27)], [], [], [(9, 146)], [], []]
set_option maxRecDepth 100000 in
theorem ok_J0_coder_7d493 : ∀ q ∈ op_J0_coder_7d493, av_ok av_T vwCl mt_all mt_J0_coder_7d493 q := av_zip_ok ok_mm (by decide) okj_all ok_o1 ok_o2 (hs := hn_J0_coder_7d493) (by decide +kernel) (by decide +kernel)
def hn_J0_isLatin1_aae02 : List (List (Nat × Nat)) := [
  [(2, 27)], [], [], [(9, 146)], [], [], [], []]
set_option maxRecDepth 100000 in
theorem ok_J0_isLatin1_aae02 : ∀ q ∈ op_J0_isLatin1_aae02, av_ok av_T vwCl mt_all mt_J0_isLatin1_aae02 q := av_zip_ok ok_mm (by decide) okj_all ok_o1 ok_o2 (hs := hn_J0_isLatin1_aae02) (by decide +kernel) (by decide +kernel)
def hn_J0_checkIndex_df160 : List (List (Nat × Nat)) := [
  [], [], [(2, 43)], [(2, 45)], [], []]
set_option maxRecDepth 100000 in
theorem ok_J0_checkIndex_df160 : ∀ q ∈ op_J0_checkIndex_df160, av_ok av_T vwCl mt_all mt_J0_checkIndex_df160 q := av_zip_ok ok_mm (by decide) okj_all ok_o1 ok_o2 (hs := hn_J0_checkIndex_df160) (by decide +kernel) (by decide +kernel)
def hn_J1_charAt_3b067 : List (List (Nat × Nat)) := [
  [], [], [], [(2, 40)], [], [], [], [], [], [], []]
set_option maxRecDepth 100000 in
theorem ok_J1_charAt_3b067 : ∀ q ∈ op_J1_charAt_3b067, av_ok av_T vwCl mt_all mt_J1_charAt_3b067 q := av_zip_ok ok_mm (by decide) okj_all ok_o1 ok_o2 (hs := hn_J1_charAt_3b067) (by decide +kernel) (by decide +kernel)
def hn_J3_checkIndex_8e157 : List (List (Nat × Nat)) := [
  [], [], [], [], [], [], []]
set_option maxRecDepth 100000 in
theorem ok_J3_checkIndex_8e157 : ∀ q ∈ op_J3_checkIndex_8e157, av_ok av_T vwCl mt_all mt_J3_checkIndex_8e157 q := av_zip_ok ok_mm (by decide) okj_all ok_o1 ok_o2 (hs := hn_J3_checkIndex_8e157) (by decide +kernel) (by decide +kernel)
end
section
/-! ===== the rows of the methods ===== -/
def hn_X12_init_0 : List (List (Nat × Nat)) := [
  [], [(6, 158)], [], [], [(1, 142)], [(6, 177)], [], [], [(1, 142)], [], [], [],
  [], [], [], [], [], [], [], [], [], [], [], [],
  [], [], [], [], [], [], [], [], [], [], [], [],
  [], [], [], [], [], [], [], [], [], [], [], [],
  [], [], [], [], [], [], [], [], [], [], [], []]
set_option maxRecDepth 100000 in
theorem ok_X12_init_0 : ∀ q ∈ op_X12_init_0, av_ok av_T vwCl mt_all mt_X12_init q := av_zip_ok ok_mm (by decide) okj_all ok_o1 ok_o2 (hs := hn_X12_init_0) (by decide +kernel) (by decide +kernel)
def hn_X12_init_1 : List (List (Nat × Nat)) := [
  [], [], [], [], [], [], [], [], [], [], [], [],
  [], [], [], [], [], [], [], [], [], [], [], [],
  [], [], [], [], [], [], [], [], [], [], [], [],
  [], [], [], [], [], [], [], [], [], [], [], [],
  [], [], [], [], [], [], [], [], [], [], [], []]
set_option maxRecDepth 100000 in
theorem ok_X12_init_1 : ∀ q ∈ op_X12_init_1, av_ok av_T vwCl mt_all mt_X12_init q := av_zip_ok ok_mm (by decide) okj_all ok_o1 ok_o2 (hs := hn_X12_init_1) (by decide +kernel) (by decide +kernel)
def hn_X12_init_2 : List (List (Nat × Nat)) := [
  [], [], [], [], [], [], [], [], [], [], [], [],
  [], [], [], [], [], [], [], [], [], [], [], [],
  [], [], [], [], [], [], [], [], [], [], [], [],
  [], [], [], [], [], [], [], [], [], [], [], [],
  [], [], [], [], [], [], [], [], [], [], [], []]
set_option maxRecDepth 100000 in
theorem ok_X12_init_2 : ∀ q ∈ op_X12_init_2, av_ok av_T vwCl mt_all mt_X12_init q := av_zip_ok ok_mm (by decide) okj_all ok_o1 ok_o2 (hs := hn_X12_init_2) (by decide +kernel) (by decide +kernel)
def hn_X12_init_3 : List (List (Nat × Nat)) := [
  [], [], [], [], [], [], [], [], [], [], [], [],
  [], [], [], [], [], [], [], [], [], [], [], [],
  [], [], [], [], [], [], [], [], [], [], [], [],
  [], [], [], [], [], [], [], [], [], [], [], [],
  [], [], [], [], [], [], [], [], [], [], [], []]
set_option maxRecDepth 100000 in
theorem ok_X12_init_3 : ∀ q ∈ op_X12_init_3, av_ok av_T vwCl mt_all mt_X12_init q := av_zip_ok ok_mm (by decide) okj_all ok_o1 ok_o2 (hs := hn_X12_init_3) (by decide +kernel) (by decide +kernel)
def hn_X12_init_4 : List (List (Nat × Nat)) := [
  [], [], [], [], [], [], [], [], [], [], [], [],
  [], [], [], [], [], [], [], [], [], [], [], [],
  [], [], [], [], [], [], [], [], [], [], [], [],
  [], [], [], [], [], [], [], [], [], [], [], [],
  [], [], [], [], [], [], [], [], [], [], [], []]
set_option maxRecDepth 100000 in
theorem ok_X12_init_4 : ∀ q ∈ op_X12_init_4, av_ok av_T vwCl mt_all mt_X12_init q := av_zip_ok ok_mm (by decide) okj_all ok_o1 ok_o2 (hs := hn_X12_init_4) (by decide +kernel) (by decide +kernel)
def hn_X12_init_5 : List (List (Nat × Nat)) := [
  [], [], [], [], [], [], [], [], [], [], [], [],
  [], [], [], [], [], [], [], [], [], [], [], [],
  [], [], [], [], [], [], [], [], [], [], [], [],
  [], [], [], [], [], [], [], [], [], [], [], [],
  [], [], [], [], [], [], [], [], [], [], [], []]
set_option maxRecDepth 100000 in
theorem ok_X12_init_5 : ∀ q ∈ op_X12_init_5, av_ok av_T vwCl mt_all mt_X12_init q := av_zip_ok ok_mm (by decide) okj_all ok_o1 ok_o2 (hs := hn_X12_init_5) (by decide +kernel) (by decide +kernel)
def hn_X12_init_6 : List (List (Nat × Nat)) := [
  [], [], [], [], [], [], [], [], [], [], [], [],
  [], [], [], [], [], [], [], [], [], [], [], [],
  [], [], [], [], [], [], [], [], [], [], [], [],
  [], [], [], [], [], [], [], [], [], [], [], [],
  [], [], [], [], [], [], [], [], [], [], [], []]
set_option maxRecDepth 100000 in
theorem ok_X12_init_6 : ∀ q ∈ op_X12_init_6, av_ok av_T vwCl mt_all mt_X12_init q := av_zip_ok ok_mm (by decide) okj_all ok_o1 ok_o2 (hs := hn_X12_init_6) (by decide +kernel) (by decide +kernel)
def hn_X12_init_7 : List (List (Nat × Nat)) := [
  [], [], [], [], [], [], [], [], [], [], [], [],
  [], [], [], [], [], [], [], [], [], [], [], [],
  [], [], [], [], [], [], [], [], [], [], [], [],
  [], [], [], [], [], [], [], [], [], [], [], [],
  [], [], [], [], [], [], [], [], [], [], [], []]
set_option maxRecDepth 100000 in
theorem ok_X12_init_7 : ∀ q ∈ op_X12_init_7, av_ok av_T vwCl mt_all mt_X12_init q := av_zip_ok ok_mm (by decide) okj_all ok_o1 ok_o2 (hs := hn_X12_init_7) (by decide +kernel) (by decide +kernel)
def hn_X12_init_8 : List (List (Nat × Nat)) := [
  [], [], [], [], [], [], [], [], [], [], [], [],
  [], [], [], [], [], [], [], [], [], [], [], [],
  [], [], [], [], [], [], [], [], [], [], [], [],
  [], [], [], [], [], [], [], [], [], [], [], [],
  [], [], [], [], [], [], [], [], [], [], [], []]
set_option maxRecDepth 100000 in
theorem ok_X12_init_8 : ∀ q ∈ op_X12_init_8, av_ok av_T vwCl mt_all mt_X12_init q := av_zip_ok ok_mm (by decide) okj_all ok_o1 ok_o2 (hs := hn_X12_init_8) (by decide +kernel) (by decide +kernel)
def hn_X12_init_9 : List (List (Nat × Nat)) := [
  [], [], [], [], [], [], [], [], [], [], [], [],
  [], [], [], [], [], [], [], [], [], [], [], [],
  [], [], [], [], [], [], [], [], [], [], [], [],
  [], [], [], [], [], [], [], [], [], [], [], [],
  [], [], [], [], [], [], [], [], [], [], [], []]
set_option maxRecDepth 100000 in
theorem ok_X12_init_9 : ∀ q ∈ op_X12_init_9, av_ok av_T vwCl mt_all mt_X12_init q := av_zip_ok ok_mm (by decide) okj_all ok_o1 ok_o2 (hs := hn_X12_init_9) (by decide +kernel) (by decide +kernel)
def hn_X12_init_10 : List (List (Nat × Nat)) := [
  [], [], [], [], [], [], [], [], [], [], [], [],
  [], [], [], [], [], [], [], [], [], [], [], [],
  [], [], [], [], [], [], [], [], [], [], [], [],
  [], [], [], [], [], [], [], [], [], [], [], [],
  [], [], [], [], [], [], [], [], [], [], [], []]
set_option maxRecDepth 100000 in
theorem ok_X12_init_10 : ∀ q ∈ op_X12_init_10, av_ok av_T vwCl mt_all mt_X12_init q := av_zip_ok ok_mm (by decide) okj_all ok_o1 ok_o2 (hs := hn_X12_init_10) (by decide +kernel) (by decide +kernel)
def hn_X12_init_11 : List (List (Nat × Nat)) := [
  [], [], [], [], [], [], [], [], [], [], [], [],
  [], [], [], [], [], [], [], [], [], [], [], [],
  [], [], [], [], [], [], [], [], [], [], [], [],
  [], [], [], [], [], [], [], [], [], [], [], [],
  [], [], [], [], [], [], [], [], [], [(6, 180)], [], []]
set_option maxRecDepth 100000 in
theorem ok_X12_init_11 : ∀ q ∈ op_X12_init_11, av_ok av_T vwCl mt_all mt_X12_init q := av_zip_ok ok_mm (by decide) okj_all ok_o1 ok_o2 (hs := hn_X12_init_11) (by decide +kernel) (by decide +kernel)
def hn_X12_init_12 : List (List (Nat × Nat)) := [
  [(6, 182)], [], [], [(1, 142)], [(6, 198)], [], [], [(1, 142)], [(6, 199)], [], [], [(1, 142)],
  [(6, 200)], [], [], [(3, 72)], [(6, 201)], [], [], [(1, 142)], [(6, 202)], [], [], [(1, 142)],
  [(6, 203)], [], [], [(1, 142)], [(6, 204)], [], [], [(1, 142)], [(6, 205)], [], [], [(1, 142)],
  [(6, 206)], [], [], [(1, 142)], [(6, 207)], [], [], [(1, 142)], [(6, 208)], [], [], [(1, 142)],
  [(6, 209)], [], [], [(1, 142)], [(6, 210)], [], [], [(1, 142)], [(6, 211)], [], [], [(1, 142)]]
set_option maxRecDepth 100000 in
theorem ok_X12_init_12 : ∀ q ∈ op_X12_init_12, av_ok av_T vwCl mt_all mt_X12_init q := av_zip_ok ok_mm (by decide) okj_all ok_o1 ok_o2 (hs := hn_X12_init_12) (by decide +kernel) (by decide +kernel)
def hn_X12_init_13 : List (List (Nat × Nat)) := [
  [(6, 212)], [], [], [(1, 142)], [(6, 213)], [], [], [(1, 142)], [(6, 221)], [], [], [(1, 142)],
  [(6, 222)], [], [], [(2, 173)], [(6, 223)], [], [], [(2, 173)], [(6, 224)], [], [], [(2, 173)],
  [(6, 226)], [], [], [(1, 142)], [(6, 228)], [], [], [(6, 230)], [], [], [(1, 142)], [(6, 231)],
  [], [], [(1, 142)], [(6, 232)], [], [], [(1, 142)], [(6, 233)], [], [], [(1, 142)], [(6, 234)],
  [], [], [(1, 142)], [(6, 235)], [], [], [(3, 72)], [(6, 236)], [], [], [(1, 142)], [(6, 237)]]
set_option maxRecDepth 100000 in
theorem ok_X12_init_13 : ∀ q ∈ op_X12_init_13, av_ok av_T vwCl mt_all mt_X12_init q := av_zip_ok ok_mm (by decide) okj_all ok_o1 ok_o2 (hs := hn_X12_init_13) (by decide +kernel) (by decide +kernel)
def hn_X12_init_14 : List (List (Nat × Nat)) := [
  [], [], [(1, 142)], [], [], [], [], [], [], [], [], [],
  [], [], [], [], [], [], [], [], [], [], [], [],
  [], [], [], [], [], [], [], [], [], [], [], [],
  [], [], [], [(6, 238)], [], [], [(1, 142)], [], [], [], [], [],
  [], [], [], [], [], [], [], [], [], [], [], []]
set_option maxRecDepth 100000 in
theorem ok_X12_init_14 : ∀ q ∈ op_X12_init_14, av_ok av_T vwCl mt_all mt_X12_init q := av_zip_ok ok_mm (by decide) okj_all ok_o1 ok_o2 (hs := hn_X12_init_14) (by decide +kernel) (by decide +kernel)
def hn_X12_init_15 : List (List (Nat × Nat)) := [
  [], [], [], [], [], [], [], [], [], [], [], [],
  [], [], [], [], [], [], [], [(6, 239)], [], [], [(1, 142)], [(7, 0)],
  [], [], [(1, 142)], [(7, 1)], [], [], [(1, 142)], [(7, 2)], [], [], [(1, 142)], [(7, 5)],
  [], [(6, 159)], [], [(6, 163)], []]
set_option maxRecDepth 100000 in
theorem ok_X12_init_15 : ∀ q ∈ op_X12_init_15, av_ok av_T vwCl mt_all mt_X12_init q := av_zip_ok ok_mm (by decide) okj_all ok_o1 ok_o2 (hs := hn_X12_init_15) (by decide +kernel) (by decide +kernel)
theorem ok_X12_init : ∀ q ∈ op_X12_init, av_ok av_T vwCl mt_all mt_X12_init q := List.forall_mem_append.mpr ⟨ok_X12_init_0, List.forall_mem_append.mpr ⟨ok_X12_init_1, List.forall_mem_append.mpr ⟨ok_X12_init_2, List.forall_mem_append.mpr ⟨ok_X12_init_3, List.forall_mem_append.mpr ⟨ok_X12_init_4, List.forall_mem_append.mpr ⟨ok_X12_init_5, List.forall_mem_append.mpr ⟨ok_X12_init_6, List.forall_mem_append.mpr ⟨ok_X12_init_7, List.forall_mem_append.mpr ⟨ok_X12_init_8, List.forall_mem_append.mpr ⟨ok_X12_init_9, List.forall_mem_append.mpr ⟨ok_X12_init_10, List.forall_mem_append.mpr ⟨ok_X12_init_11, List.forall_mem_append.mpr ⟨ok_X12_init_12, List.forall_mem_append.mpr ⟨ok_X12_init_13, List.forall_mem_append.mpr ⟨ok_X12_init_14, ok_X12_init_15⟩⟩⟩⟩⟩⟩⟩⟩⟩⟩⟩⟩⟩⟩⟩
end
section
/-! ===== the rows of the methods ===== -/
def hn_L_law_0 : List (List (Nat × Nat)) := [
  [(1, 25), (1, 26), (1, 1)], [], [(1, 27)], [], [(6, 153), (6, 154), (1, 17)], [], [(6, 155)], [], [], [(2, 173)], [], [],
  [], [], [], [], [], [], [], [], [], [], [], [],
  [], [], [], [], [], [], [], [], [], [], [], [],
  [], [], [], [], [], [], [], [], [], [], [], [],
  [], [], [], [(3, 162)], [], [], [], [], [], [], [], []]
set_option maxRecDepth 100000 in
theorem ok_L_law_0 : ∀ q ∈ op_L_law_0, av_ok av_T vwCl mt_all mt_L_law q := av_zip_ok ok_mm (by decide) okj_all ok_o1 ok_o2 (hs := hn_L_law_0) (by decide +kernel) (by decide +kernel)
def hn_L_law_1 : List (List (Nat × Nat)) := [
  [], [], [], [], [], [], [], [], [], [], [], [],
  [], [], [], [], [], [], [(7, 149)], [], [], [], [], [],
  [], [], [(3, 170)], [], [], [], [], [], [], [(7, 153)], [], [],
  [], [], [], [], [], [(4, 121)], [], [], [], [], [], [],
  [(8, 60)], [], [], [], [], [], [], [], [], [], [], []]
set_option maxRecDepth 100000 in
theorem ok_L_law_1 : ∀ q ∈ op_L_law_1, av_ok av_T vwCl mt_all mt_L_law q := av_zip_ok ok_mm (by decide) okj_all ok_o1 ok_o2 (hs := hn_L_law_1) (by decide +kernel) (by decide +kernel)
def hn_L_law_2 : List (List (Nat × Nat)) := [
  [], [(4, 125)], [], [], [], [], [], [], [], [], [], [],
  [], [(8, 64)], [], [], [], [], [], [], [], [], [], [],
  [], [], [], [], [], [], [], [], [], [], [], [],
  [], [], [], [(8, 68)], [], [], [(7, 145)], [], [], [], [], [],
  [], [], [], [], [], [], [], [], [], [], [], [(4, 130)]]
set_option maxRecDepth 100000 in
theorem ok_L_law_2 : ∀ q ∈ op_L_law_2, av_ok av_T vwCl mt_all mt_L_law q := av_zip_ok ok_mm (by decide) okj_all ok_o1 ok_o2 (hs := hn_L_law_2) (by decide +kernel) (by decide +kernel)
def hn_L_law_3 : List (List (Nat × Nat)) := [
  [], [], [], [], [], [], [], [], [], [], [], [(8, 92)],
  [], [], [], [], [], [], [], [(4, 138)], [], [], [], [],
  [], [], [(8, 96)], [], [], [], [], [], [], [], [(4, 149)], [],
  [], [], [], [], [], [(8, 104)], [], [], [], [], [], [],
  [], [], [], [], [], [], [(4, 236)], [], [], [], [], []]
set_option maxRecDepth 100000 in
theorem ok_L_law_3 : ∀ q ∈ op_L_law_3, av_ok av_T vwCl mt_all mt_L_law q := av_zip_ok ok_mm (by decide) okj_all ok_o1 ok_o2 (hs := hn_L_law_3) (by decide +kernel) (by decide +kernel)
def hn_L_law_4 : List (List (Nat × Nat)) := [
  [], [], [], [], [], [], [(8, 151)], [], [], [], [], [],
  [], [], [(5, 8)], [], [], [], [], [], [], [(8, 156)], [], [],
  [], [], [], [], [], [(5, 17)], [], [], [], [], [], [],
  [(8, 164)], [], [], [], [], [], [], [], [], [], [], [],
  [], [(5, 22)], [], [], [], [], [], [], [], [], [], []]
set_option maxRecDepth 100000 in
theorem ok_L_law_4 : ∀ q ∈ op_L_law_4, av_ok av_T vwCl mt_all mt_L_law q := av_zip_ok ok_mm (by decide) okj_all ok_o1 ok_o2 (hs := hn_L_law_4) (by decide +kernel) (by decide +kernel)
def hn_L_law_5 : List (List (Nat × Nat)) := [
  [], [(8, 168)], [], [], [(5, 43)], [], [(8, 176)], [], [], [], [], [],
  [], [], [], [], [], [], [], [(5, 55)], [], [], [], [],
  [], [], [], [], [], [], [], [(8, 180)], [], [], [], [],
  [], [], [], [], [], [], [], [], [], [], [], [],
  [], [], [], [], [], [], [(5, 65)], [], [], [], [], []]
set_option maxRecDepth 100000 in
theorem ok_L_law_5 : ∀ q ∈ op_L_law_5, av_ok av_T vwCl mt_all mt_L_law q := av_zip_ok ok_mm (by decide) okj_all ok_o1 ok_o2 (hs := hn_L_law_5) (by decide +kernel) (by decide +kernel)
def hn_L_law_6 : List (List (Nat × Nat)) := [
  [], [], [], [], [], [], [], [], [], [], [], [],
  [], [], [], [], [(8, 189)], [], [], [], [], [], [], [],
  [], [], [], [], [], [(5, 77)], [], [], [], [], [], [],
  [], [], [], [], [], [(8, 197)], [], [], [], [], [], [],
  [], [], [], [], [], [], [], [], [], [], [], [(5, 85)]]
set_option maxRecDepth 100000 in
theorem ok_L_law_6 : ∀ q ∈ op_L_law_6, av_ok av_T vwCl mt_all mt_L_law q := av_zip_ok ok_mm (by decide) okj_all ok_o1 ok_o2 (hs := hn_L_law_6) (by decide +kernel) (by decide +kernel)
def hn_L_law_7 : List (List (Nat × Nat)) := [
  [], [], [], [], [], [], [], [], [], [], [], [],
  [], [], [], [], [(8, 205)], [], [], [], [], [], [], [],
  [], [], [], [], [], [], [], [], [], [], [(5, 93)], [],
  [], [], [], [], [], [], [], [], [], [], [], [],
  [], [], [], [(8, 209)], [], [], [], [], [], [], [], []]
set_option maxRecDepth 100000 in
theorem ok_L_law_7 : ∀ q ∈ op_L_law_7, av_ok av_T vwCl mt_all mt_L_law q := av_zip_ok ok_mm (by decide) okj_all ok_o1 ok_o2 (hs := hn_L_law_7) (by decide +kernel) (by decide +kernel)
def hn_L_law_8 : List (List (Nat × Nat)) := [
  [], [], [], [], [(5, 98)], [], [], [], [], [], [], [],
  [], [], [], [], [(8, 213)], [], [], [], [], [], [], [],
  [], [], [], [], [], [], [], [], [], [], [], [],
  [], [], [], [], [], [], [], [], [], [(5, 106)], [], [],
  [], [], [], [], [], [], [], [], [], [], [], []]
set_option maxRecDepth 100000 in
theorem ok_L_law_8 : ∀ q ∈ op_L_law_8, av_ok av_T vwCl mt_all mt_L_law q := av_zip_ok ok_mm (by decide) okj_all ok_o1 ok_o2 (hs := hn_L_law_8) (by decide +kernel) (by decide +kernel)
def hn_L_law_9 : List (List (Nat × Nat)) := [
  [], [], [], [], [], [], [], [], [], [], [], [],
  [(8, 218)], [], [], [], [], [], [], [], [(5, 116)], [], [], [],
  [], [], [], [(8, 224)], [], [], [], [], [], [], [], [(5, 124)],
  [], [], [], [], [], [], [(8, 228)], [], [], [], [], [],
  [], [], [(5, 128)], [], [], [], [], [], [], [(8, 232)], [], []]
set_option maxRecDepth 100000 in
theorem ok_L_law_9 : ∀ q ∈ op_L_law_9, av_ok av_T vwCl mt_all mt_L_law q := av_zip_ok ok_mm (by decide) okj_all ok_o1 ok_o2 (hs := hn_L_law_9) (by decide +kernel) (by decide +kernel)
def hn_L_law_10 : List (List (Nat × Nat)) := [
  [], [], [], [], [], [], [], [], [], [], [], [],
  [], [], [], [(5, 167)], [], [], [], [], [], [], [], [],
  [], [], [], [], [], [], [], [], [(9, 24)], [], [], [],
  [], [], [], [], [], [], [], [], [], [(5, 184)], [], [],
  [], [], [], [], [], [], [], [], [], [(9, 35)], [], []]
set_option maxRecDepth 100000 in
theorem ok_L_law_10 : ∀ q ∈ op_L_law_10, av_ok av_T vwCl mt_all mt_L_law q := av_zip_ok ok_mm (by decide) okj_all ok_o1 ok_o2 (hs := hn_L_law_10) (by decide +kernel) (by decide +kernel)
def hn_L_law_11 : List (List (Nat × Nat)) := [
  [], [], [], [], [], [], [], [], [], [], [(5, 202)], [],
  [], [], [], [], [], [], [], [], [], [], [(9, 43)], [],
  [], [], [], [], [], [], [(5, 218)], [], [], [], [], [],
  [], [(9, 55)], [], [], [], [], [], [], [], [(5, 222)], [], [],
  [], [], [], [], [(9, 59)], [], [], [], [], [], [], []]
set_option maxRecDepth 100000 in
theorem ok_L_law_11 : ∀ q ∈ op_L_law_11, av_ok av_T vwCl mt_all mt_L_law q := av_zip_ok ok_mm (by decide) okj_all ok_o1 ok_o2 (hs := hn_L_law_11) (by decide +kernel) (by decide +kernel)
def hn_L_law_12 : List (List (Nat × Nat)) := [
  [], [], [], [], [], [(5, 226)], [], [], [], [], [], [],
  [], [], [], [], [], [(9, 67)], [], [], [], [], [], [],
  [], [(5, 236)], [], [], [], [], [], [], [(9, 77)], [], [], [],
  [], [], [], [], [], [], [], [], [], [], [], [],
  [], [], [(6, 0)], [], [], [], [], [], [], [], [], []]
set_option maxRecDepth 100000 in
theorem ok_L_law_12 : ∀ q ∈ op_L_law_12, av_ok av_T vwCl mt_all mt_L_law q := av_zip_ok ok_mm (by decide) okj_all ok_o1 ok_o2 (hs := hn_L_law_12) (by decide +kernel) (by decide +kernel)
def hn_L_law_13 : List (List (Nat × Nat)) := [
  [], [], [], [], [], [], [], [(9, 85)], [], [], [], [],
  [], [], [], [], [], [], [], [], [(6, 12)], [], [], [],
  [], [], [], [], [], [], [], [], [(9, 92)], [], [], [],
  [], [], [], [], [], [], [], [], [], [], [], [],
  [], [], [], [], [], [], [], [], [], [], [], []]
set_option maxRecDepth 100000 in
theorem ok_L_law_13 : ∀ q ∈ op_L_law_13, av_ok av_T vwCl mt_all mt_L_law q := av_zip_ok ok_mm (by decide) okj_all ok_o1 ok_o2 (hs := hn_L_law_13) (by decide +kernel) (by decide +kernel)
def hn_L_law_14 : List (List (Nat × Nat)) := [
  [(6, 37)], [], [], [], [], [], [], [], [], [], [], [],
  [], [], [], [], [], [], [], [], [], [], [], [],
  [], [], [], [(9, 107)], [], [], [(6, 44)], [], [(9, 115)], [], [], [(6, 48)],
  [], [(9, 119)], [], [], [], [], [], [], [], [(6, 52)], [], [],
  [], [], [], [], [(9, 123)], [], [], [], [], []]
set_option maxRecDepth 100000 in
theorem ok_L_law_14 : ∀ q ∈ op_L_law_14, av_ok av_T vwCl mt_all mt_L_law q := av_zip_ok ok_mm (by decide) okj_all ok_o1 ok_o2 (hs := hn_L_law_14) (by decide +kernel) (by decide +kernel)
theorem ok_L_law : ∀ q ∈ op_L_law, av_ok av_T vwCl mt_all mt_L_law q := List.forall_mem_append.mpr ⟨ok_L_law_0, List.forall_mem_append.mpr ⟨ok_L_law_1, List.forall_mem_append.mpr ⟨ok_L_law_2, List.forall_mem_append.mpr ⟨ok_L_law_3, List.forall_mem_append.mpr ⟨ok_L_law_4, List.forall_mem_append.mpr ⟨ok_L_law_5, List.forall_mem_append.mpr ⟨ok_L_law_6, List.forall_mem_append.mpr ⟨ok_L_law_7, List.forall_mem_append.mpr ⟨ok_L_law_8, List.forall_mem_append.mpr ⟨ok_L_law_9, List.forall_mem_append.mpr ⟨ok_L_law_10, List.forall_mem_append.mpr ⟨ok_L_law_11, List.forall_mem_append.mpr ⟨ok_L_law_12, List.forall_mem_append.mpr ⟨ok_L_law_13, ok_L_law_14⟩⟩⟩⟩⟩⟩⟩⟩⟩⟩⟩⟩⟩⟩
end
section
theorem ok_all : ∀ mi, ∀ q ∈ (mt_all mi).2.1, av_ok av_T vwCl mt_all (mt_all mi) q := by
  intro mi q hq
  match mi, hq with
  | 0, hq => exact ok_X0_init q hq
  | 1, hq => exact ok_X1_init q hq
  | 2, hq => exact ok_X1_begin q hq
  | 3, hq => exact ok_X1_setCauses q hq
  | 4, hq => exact ok_X1_copy q hq
  | 5, hq => exact ok_X2_init q hq
  | 6, hq => exact ok_X2_forget q hq
  | 7, hq => exact ok_X3_init q hq
  | 8, hq => exact ok_X3_clear q hq
  | 9, hq => exact ok_X3_knownCount q hq
  | 10, hq => exact ok_X4_init q hq
  | 11, hq => exact ok_X4_clear q hq
  | 12, hq => exact ok_X4_isWork q hq
  | 13, hq => exact ok_X4_firmIn q hq
  | 14, hq => exact ok_X4_moreBy q hq
  | 15, hq => exact ok_X5_init q hq
  | 16, hq => exact ok_X5_readText q hq
  | 17, hq => exact ok_X6_init q hq
  | 18, hq => exact ok_X6_letterBits q hq
  | 19, hq => exact ok_X6_begin q hq
  | 20, hq => exact ok_X6_step q hq
  | 21, hq => exact ok_X7_init q hq
  | 22, hq => exact ok_X7_clear q hq
  | 23, hq => exact ok_X7_setHeight q hq
  | 24, hq => exact ok_X8_init q hq
  | 25, hq => exact ok_X9_init q hq
  | 26, hq => exact ok_X10_init q hq
  | 27, hq => exact ok_X10_clear q hq
  | 28, hq => exact ok_X11_init q hq
  | 29, hq => exact ok_X11_feed q hq
  | 30, hq => exact ok_X11_putOnTape q hq
  | 31, hq => exact ok_X11_text q hq
  | 32, hq => exact ok_X11_takeSpare q hq
  | 33, hq => exact ok_X11_fault q hq
  | 34, hq => exact ok_X11_named q hq
  | 35, hq => exact ok_X11_placeOf q hq
  | 36, hq => exact ok_X11_isGate q hq
  | 37, hq => exact ok_X11_isAhead q hq
  | 38, hq => exact ok_X11_isWeek q hq
  | 39, hq => exact ok_X11_works q hq
  | 40, hq => exact ok_X11_firm q hq
  | 41, hq => exact ok_X11_weeks q hq
  | 42, hq => exact ok_X11_sags q hq
  | 43, hq => exact ok_X11_latched q hq
  | 44, hq => exact ok_X11_gives q hq
  | 45, hq => exact ok_X11_work q hq
  | 46, hq => exact ok_X11_undo q hq
  | 47, hq => exact ok_X11_lasts q hq
  | 48, hq => exact ok_X11_least q hq
  | 49, hq => exact ok_X11_way q hq
  | 50, hq => exact ok_X11_enough q hq
  | 51, hq => exact ok_X11_bears q hq
  | 52, hq => exact ok_X11_knock q hq
  | 53, hq => exact ok_X11_measure q hq
  | 54, hq => exact ok_X11_strike q hq
  | 55, hq => exact ok_X11_known q hq
  | 56, hq => exact ok_X11_fits q hq
  | 57, hq => exact ok_X11_odds q hq
  | 58, hq => exact ok_X11_test q hq
  | 59, hq => exact ok_X11_low q hq
  | 60, hq => exact ok_X11_rest q hq
  | 61, hq => exact ok_X11_shuts q hq
  | 62, hq => exact ok_X11_above q hq
  | 63, hq => exact ok_X11_opens q hq
  | 64, hq => exact ok_X11_stand q hq
  | 65, hq => exact ok_X11_first q hq
  | 66, hq => exact ok_X11_wind q hq
  | 67, hq => exact ok_X11_keep q hq
  | 68, hq => exact ok_X11_back q hq
  | 69, hq => exact ok_X11_count q hq
  | 70, hq => exact ok_X11_costOfAllDone q hq
  | 71, hq => exact ok_X12_init q hq
  | 72, hq => exact ok_X12_thrown q hq
  | 73, hq => exact ok_X12_feed q hq
  | 74, hq => exact ok_X12_isIn q hq
  | 75, hq => exact ok_X12_token q hq
  | 76, hq => exact ok_X12_plain q hq
  | 77, hq => exact ok_X12_copies q hq
  | 78, hq => exact ok_X12_keepText q hq
  | 79, hq => exact ok_X12_find q hq
  | 80, hq => exact ok_X12_text q hq
  | 81, hq => exact ok_X12_fault q hq
  | 82, hq => exact ok_X12_named q hq
  | 83, hq => exact ok_X12_lays q hq
  | 84, hq => exact ok_X12_begins q hq
  | 85, hq => exact ok_X12_firmOf q hq
  | 86, hq => exact ok_X12_isGate q hq
  | 87, hq => exact ok_X12_fails q hq
  | 88, hq => exact ok_X12_look q hq
  | 89, hq => exact ok_X12_works q hq
  | 90, hq => exact ok_X12_firm q hq
  | 91, hq => exact ok_X12_weeks q hq
  | 92, hq => exact ok_X12_sags q hq
  | 93, hq => exact ok_X12_latched q hq
  | 94, hq => exact ok_X12_gives q hq
  | 95, hq => exact ok_X12_work q hq
  | 96, hq => exact ok_X12_undo q hq
  | 97, hq => exact ok_X12_lasts q hq
  | 98, hq => exact ok_X12_least q hq
  | 99, hq => exact ok_X12_way q hq
  | 100, hq => exact ok_X12_enough q hq
  | 101, hq => exact ok_X12_bears q hq
  | 102, hq => exact ok_X12_knock q hq
  | 103, hq => exact ok_X12_measure q hq
  | 104, hq => exact ok_X12_strike q hq
  | 105, hq => exact ok_X12_known q hq
  | 106, hq => exact ok_X12_knownMany q hq
  | 107, hq => exact ok_X12_fits q hq
  | 108, hq => exact ok_X12_odds q hq
  | 109, hq => exact ok_X12_test q hq
  | 110, hq => exact ok_X12_low q hq
  | 111, hq => exact ok_X12_rest q hq
  | 112, hq => exact ok_X12_shuts q hq
  | 113, hq => exact ok_X12_above q hq
  | 114, hq => exact ok_X12_opens q hq
  | 115, hq => exact ok_X12_stand q hq
  | 116, hq => exact ok_X12_first q hq
  | 117, hq => exact ok_X12_wind q hq
  | 118, hq => exact ok_X12_keep q hq
  | 119, hq => exact ok_X12_back q hq
  | 120, hq => exact ok_X12_count q hq
  | 121, hq => exact ok_J0_length_8abf5 q hq
  | 122, hq => exact ok_J0_charAt_5068e q hq
  | 123, hq => exact ok_J0_coder_7d493 q hq
  | 124, hq => exact ok_J0_isLatin1_aae02 q hq
  | 125, hq => exact ok_J0_checkIndex_df160 q hq
  | 126, hq => exact ok_J1_charAt_3b067 q hq
  | 127, hq => exact ok_J3_checkIndex_8e157 q hq
  | 128, hq => exact ok_L_law q hq
  | j + 129, hq => exact absurd hq (by show ¬ q ∈ ([] : List av_Q); exact List.not_mem_nil)
theorem in_X0 : ∀ w ∈ u_ws RX0 TX0 8, w ∈ av_T := by
  have h : (u_ws RX0 TX0 8).all (fun w => decide (w ∈ lw_tbl) && goodWord w) = true := by decide +kernel
  intro w hw
  have := List.all_eq_true.mp h w hw
  simp only [Bool.and_eq_true, decide_eq_true_eq] at this
  exact List.mem_filter.mpr this
theorem kd_X0 : ∀ k, k < 8 → (fk_all.getD 0 [])[k]? = some (av_kd (tyX0 k)) ∧ av_kd (tyX0 k) ≤ 4 ∧ av_kd (tyX0 k) ≠ 1 := by decide +kernel
theorem in_X1 : ∀ w ∈ u_ws RX1 TX1 17, w ∈ av_T := by
  have h : (u_ws RX1 TX1 17).all (fun w => decide (w ∈ lw_tbl) && goodWord w) = true := by decide +kernel
  intro w hw
  have := List.all_eq_true.mp h w hw
  simp only [Bool.and_eq_true, decide_eq_true_eq] at this
  exact List.mem_filter.mpr this
theorem kd_X1 : ∀ k, k < 17 → (fk_all.getD 1 [])[k]? = some (av_kd (tyX1 k)) ∧ av_kd (tyX1 k) ≤ 4 ∧ av_kd (tyX1 k) ≠ 1 := by decide +kernel
theorem in_X2 : ∀ w ∈ u_ws RX2 TX2 5, w ∈ av_T := by
  have h : (u_ws RX2 TX2 5).all (fun w => decide (w ∈ lw_tbl) && goodWord w) = true := by decide +kernel
  intro w hw
  have := List.all_eq_true.mp h w hw
  simp only [Bool.and_eq_true, decide_eq_true_eq] at this
  exact List.mem_filter.mpr this
theorem kd_X2 : ∀ k, k < 5 → (fk_all.getD 2 [])[k]? = some (av_kd (tyX2 k)) ∧ av_kd (tyX2 k) ≤ 4 ∧ av_kd (tyX2 k) ≠ 1 := by decide +kernel
theorem in_X3 : ∀ w ∈ u_ws RX3 TX3 11, w ∈ av_T := by
  have h : (u_ws RX3 TX3 11).all (fun w => decide (w ∈ lw_tbl) && goodWord w) = true := by decide +kernel
  intro w hw
  have := List.all_eq_true.mp h w hw
  simp only [Bool.and_eq_true, decide_eq_true_eq] at this
  exact List.mem_filter.mpr this
theorem kd_X3 : ∀ k, k < 11 → (fk_all.getD 3 [])[k]? = some (av_kd (tyX3 k)) ∧ av_kd (tyX3 k) ≤ 4 ∧ av_kd (tyX3 k) ≠ 1 := by decide +kernel
theorem in_X4 : ∀ w ∈ u_ws RX4 TX4 20, w ∈ av_T := by
  have h : (u_ws RX4 TX4 20).all (fun w => decide (w ∈ lw_tbl) && goodWord w) = true := by decide +kernel
  intro w hw
  have := List.all_eq_true.mp h w hw
  simp only [Bool.and_eq_true, decide_eq_true_eq] at this
  exact List.mem_filter.mpr this
theorem kd_X4 : ∀ k, k < 20 → (fk_all.getD 4 [])[k]? = some (av_kd (tyX4 k)) ∧ av_kd (tyX4 k) ≤ 4 ∧ av_kd (tyX4 k) ≠ 1 := by decide +kernel
theorem in_X5 : ∀ w ∈ u_ws RX5 TX5 6, w ∈ av_T := by
  have h : (u_ws RX5 TX5 6).all (fun w => decide (w ∈ lw_tbl) && goodWord w) = true := by decide +kernel
  intro w hw
  have := List.all_eq_true.mp h w hw
  simp only [Bool.and_eq_true, decide_eq_true_eq] at this
  exact List.mem_filter.mpr this
theorem kd_X5 : ∀ k, k < 6 → (fk_all.getD 5 [])[k]? = some (av_kd (tyX5 k)) ∧ av_kd (tyX5 k) ≤ 4 ∧ av_kd (tyX5 k) ≠ 1 := by decide +kernel
theorem in_X6 : ∀ w ∈ u_ws RX6 TX6 7, w ∈ av_T := by
  have h : (u_ws RX6 TX6 7).all (fun w => decide (w ∈ lw_tbl) && goodWord w) = true := by decide +kernel
  intro w hw
  have := List.all_eq_true.mp h w hw
  simp only [Bool.and_eq_true, decide_eq_true_eq] at this
  exact List.mem_filter.mpr this
theorem kd_X6 : ∀ k, k < 7 → (fk_all.getD 6 [])[k]? = some (av_kd (tyX6 k)) ∧ av_kd (tyX6 k) ≤ 4 ∧ av_kd (tyX6 k) ≠ 1 := by decide +kernel
theorem in_X7 : ∀ w ∈ u_ws RX7 TX7 17, w ∈ av_T := by
  have h : (u_ws RX7 TX7 17).all (fun w => decide (w ∈ lw_tbl) && goodWord w) = true := by decide +kernel
  intro w hw
  have := List.all_eq_true.mp h w hw
  simp only [Bool.and_eq_true, decide_eq_true_eq] at this
  exact List.mem_filter.mpr this
theorem kd_X7 : ∀ k, k < 17 → (fk_all.getD 7 [])[k]? = some (av_kd (tyX7 k)) ∧ av_kd (tyX7 k) ≤ 4 ∧ av_kd (tyX7 k) ≠ 1 := by decide +kernel
theorem in_X8 : ∀ w ∈ u_ws RX8 TX8 3, w ∈ av_T := by
  have h : (u_ws RX8 TX8 3).all (fun w => decide (w ∈ lw_tbl) && goodWord w) = true := by decide +kernel
  intro w hw
  have := List.all_eq_true.mp h w hw
  simp only [Bool.and_eq_true, decide_eq_true_eq] at this
  exact List.mem_filter.mpr this
theorem kd_X8 : ∀ k, k < 3 → (fk_all.getD 8 [])[k]? = some (av_kd (tyX8 k)) ∧ av_kd (tyX8 k) ≤ 4 ∧ av_kd (tyX8 k) ≠ 1 := by decide +kernel
theorem in_X9 : ∀ w ∈ u_ws RX9 TX9 4, w ∈ av_T := by
  have h : (u_ws RX9 TX9 4).all (fun w => decide (w ∈ lw_tbl) && goodWord w) = true := by decide +kernel
  intro w hw
  have := List.all_eq_true.mp h w hw
  simp only [Bool.and_eq_true, decide_eq_true_eq] at this
  exact List.mem_filter.mpr this
theorem kd_X9 : ∀ k, k < 4 → (fk_all.getD 9 [])[k]? = some (av_kd (tyX9 k)) ∧ av_kd (tyX9 k) ≤ 4 ∧ av_kd (tyX9 k) ≠ 1 := by decide +kernel
theorem in_X10 : ∀ w ∈ u_ws RX10 TX10 3, w ∈ av_T := by
  have h : (u_ws RX10 TX10 3).all (fun w => decide (w ∈ lw_tbl) && goodWord w) = true := by decide +kernel
  intro w hw
  have := List.all_eq_true.mp h w hw
  simp only [Bool.and_eq_true, decide_eq_true_eq] at this
  exact List.mem_filter.mpr this
theorem kd_X10 : ∀ k, k < 3 → (fk_all.getD 10 [])[k]? = some (av_kd (tyX10 k)) ∧ av_kd (tyX10 k) ≤ 4 ∧ av_kd (tyX10 k) ≠ 1 := by decide +kernel
theorem in_X11 : ∀ w ∈ u_ws RX11 TX11 16, w ∈ av_T := by
  have h : (u_ws RX11 TX11 16).all (fun w => decide (w ∈ lw_tbl) && goodWord w) = true := by decide +kernel
  intro w hw
  have := List.all_eq_true.mp h w hw
  simp only [Bool.and_eq_true, decide_eq_true_eq] at this
  exact List.mem_filter.mpr this
theorem kd_X11 : ∀ k, k < 16 → (fk_all.getD 11 [])[k]? = some (av_kd (tyX11 k)) ∧ av_kd (tyX11 k) ≤ 4 ∧ av_kd (tyX11 k) ≠ 1 := by decide +kernel
theorem in_X12 : ∀ w ∈ u_ws RX12 TX12 69, w ∈ av_T := by
  have h : (u_ws RX12 TX12 69).all (fun w => decide (w ∈ lw_tbl) && goodWord w) = true := by decide +kernel
  intro w hw
  have := List.all_eq_true.mp h w hw
  simp only [Bool.and_eq_true, decide_eq_true_eq] at this
  exact List.mem_filter.mpr this
theorem kd_X12 : ∀ k, k < 69 → (fk_all.getD 12 [])[k]? = some (av_kd (tyX12 k)) ∧ av_kd (tyX12 k) ≤ 4 ∧ av_kd (tyX12 k) ≠ 1 := by decide +kernel
theorem cls_all : av_cls av_T vwCl fk_all := by
  intro ci C T N h
  match ci, h with
  | 0, h => cases h; exact ⟨in_X0, nmX0, tyX0, fk_all.getD 0 [], tyX0_ok, rfl, rfl, kd_X0⟩
  | 1, h => cases h; exact ⟨in_X1, nmX1, tyX1, fk_all.getD 1 [], tyX1_ok, rfl, rfl, kd_X1⟩
  | 2, h => cases h; exact ⟨in_X2, nmX2, tyX2, fk_all.getD 2 [], tyX2_ok, rfl, rfl, kd_X2⟩
  | 3, h => cases h; exact ⟨in_X3, nmX3, tyX3, fk_all.getD 3 [], tyX3_ok, rfl, rfl, kd_X3⟩
  | 4, h => cases h; exact ⟨in_X4, nmX4, tyX4, fk_all.getD 4 [], tyX4_ok, rfl, rfl, kd_X4⟩
  | 5, h => cases h; exact ⟨in_X5, nmX5, tyX5, fk_all.getD 5 [], tyX5_ok, rfl, rfl, kd_X5⟩
  | 6, h => cases h; exact ⟨in_X6, nmX6, tyX6, fk_all.getD 6 [], tyX6_ok, rfl, rfl, kd_X6⟩
  | 7, h => cases h; exact ⟨in_X7, nmX7, tyX7, fk_all.getD 7 [], tyX7_ok, rfl, rfl, kd_X7⟩
  | 8, h => cases h; exact ⟨in_X8, nmX8, tyX8, fk_all.getD 8 [], tyX8_ok, rfl, rfl, kd_X8⟩
  | 9, h => cases h; exact ⟨in_X9, nmX9, tyX9, fk_all.getD 9 [], tyX9_ok, rfl, rfl, kd_X9⟩
  | 10, h => cases h; exact ⟨in_X10, nmX10, tyX10, fk_all.getD 10 [], tyX10_ok, rfl, rfl, kd_X10⟩
  | 11, h => cases h; exact ⟨in_X11, nmX11, tyX11, fk_all.getD 11 [], tyX11_ok, rfl, rfl, kd_X11⟩
  | 12, h => cases h; exact ⟨in_X12, nmX12, tyX12, fk_all.getD 12 [], tyX12_ok, rfl, rfl, kd_X12⟩
  | j + 13, h => exact absurd h (by show ¬ ([] : List vw_C)[j]? = some (C, T, N); simp)
end
section
/-! ===== equality of abstract values, by program ===== -/
def av_vb (x y : av_V) : Bool := match x, y with
  | .inl none, .inl none => true
  | .inl (some a), .inl (some b) => a == b
  | .inr (.inl a), .inr (.inl b) => decide (a.1 = b.1) && decide (a.2 = b.2)
  | .inr (.inr (.inl a)), .inr (.inr (.inl b)) => decide (a.1 = b.1) && decide (a.2 = b.2)
  | .inr (.inr (.inr a)), .inr (.inr (.inr b)) => a == b
  | _, _ => false
theorem av_vb_ok {x y : av_V} (h : av_vb x y = true) : x = y := by
  unfold av_vb at h
  split at h
  · rfl
  · simp only [beq_iff_eq] at h
    rw [h]
  · rename_i a b
    obtain ⟨a1, a2⟩ := a
    obtain ⟨b1, b2⟩ := b
    simp only [Bool.and_eq_true, decide_eq_true_eq] at h
    rw [h.1, h.2]
  · rename_i a b
    obtain ⟨a1, a2⟩ := a
    obtain ⟨b1, b2⟩ := b
    simp only [Bool.and_eq_true, decide_eq_true_eq] at h
    rw [h.1, h.2]
  · simp only [beq_iff_eq] at h
    rw [h]
  · cases h
def av_lb : List av_V → List av_V → Bool
  | [], [] => true
  | x :: l, y :: r => av_vb x y && av_lb l r
  | _, _ => false
theorem av_lb_ok : ∀ {l r : List av_V}, av_lb l r = true → l = r
  | [], [], _ => rfl
  | x :: l, y :: r, h => by
    simp only [av_lb, Bool.and_eq_true] at h
    rw [av_vb_ok h.1, av_lb_ok h.2]
  | [], _ :: _, h => by cases h
  | _ :: _, [], h => by cases h
def av_cb (x y : av_C) : Bool := match x, y with
  | .inl (t, l), .inl (u, r) => (t == u) && av_lb l r
  | .inr (t, l), .inr (u, r) => (t == u) && av_lb l r
  | _, _ => false
theorem av_cb_ok {x y : av_C} (h : av_cb x y = true) : x = y := by
  unfold av_cb at h
  split at h
  · simp only [Bool.and_eq_true, beq_iff_eq] at h
    rw [h.1, av_lb_ok h.2]
  · simp only [Bool.and_eq_true, beq_iff_eq] at h
    rw [h.1, av_lb_ok h.2]
  · cases h
def av_hb : av_H → av_H → Bool
  | [], [] => true
  | x :: l, y :: r => av_cb x y && av_hb l r
  | _, _ => false
theorem av_hb_ok : ∀ {l r : av_H}, av_hb l r = true → l = r
  | [], [], _ => rfl
  | x :: l, y :: r, h => by
    simp only [av_hb, Bool.and_eq_true] at h
    rw [av_cb_ok h.1, av_hb_ok h.2]
  | [], _ :: _, h => by cases h
  | _ :: _, [], h => by cases h
/-- a run that returns nothing, and its heap -/
def av_isv (r : Option av_O) (h : av_H) : Bool := match r with
  | some [(none, h')] => av_hb h' h
  | _ => false
theorem av_isv_ok {r : Option av_O} {h : av_H} (q : av_isv r h = true) : r = some [(none, h)] := by
  unfold av_isv at q
  split at q
  · rw [av_hb_ok q]
  · cases q
/-- every end of a run answers 1 -/
def lw_ends (r : Option av_O) : Bool := match r with
  | some o => o.all (fun x => match x.1 with
    | some v => av_vb v (av_i (1, 1))
    | none => false)
  | none => false
theorem lw_ends_ok {r : Option av_O} (q : lw_ends r = true) : ∃ o, r = some o ∧ ∀ x ∈ o, x.1 = some (av_i (1, 1)) := by
  unfold lw_ends at q
  split at q
  · rename_i o
    refine ⟨o, rfl, fun x hx => ?_⟩
    have := List.all_eq_true.mp q x hx
    split at this
    · rename_i v hv
      rw [hv, av_vb_ok this]
    · cases this
  · cases q
end
section
/-! ===== the heaps behind the constructors, and the runs ===== -/
def hp_1 : av_H := [
  .inr (11, [av_r 1, av_i (0, 0), av_r 2, av_r 26, av_r 50, av_r 55, av_r 59, av_r 61, av_i (0, 0), av_r 62, av_i (-1, -1), av_r 63, av_r 86, av_r 95, av_r 98, av_r 99]),
  .inl (1, List.replicate 900 (av_i (0, 0))),
  .inr (4, [av_r 3, av_r 4, av_i (0, 0), av_i (0, 0), av_r 5, av_r 6, av_r 7, av_r 8, av_r 9, av_i (0, 0), av_r 10, av_r 11, av_r 12, av_r 13, av_i (0, 0), av_r 14, av_r 15, av_r 16, av_r 17, av_i (0, 0)]),
  .inl (0, List.replicate 12 (av_i (50, 50))),
  .inl (0, List.replicate 64 (av_i (0, 0))),
  .inl (0, List.replicate 4 (av_i (0, 0))),
  .inl (0, List.replicate 4 (av_i (0, 0))),
  .inl (0, List.replicate 4 (av_i (0, 0))),
  .inl (5, [av_r 18, av_r 20, av_r 22, av_r 24]),
  .inl (0, List.replicate 4 (av_i (0, 0))),
  .inl (0, List.replicate 6 (av_i (0, 0))),
  .inl (0, List.replicate 6 (av_i (0, 0))),
  .inl (0, List.replicate 6 (av_i (0, 0))),
  .inl (0, List.replicate 6 (av_i (0, 0))),
  .inl (0, List.replicate 6 (av_i (0, 0))),
  .inl (0, List.replicate 6 (av_i (0, 0))),
  .inl (0, List.replicate 6 (av_i (0, 0))),
  .inl (0, List.replicate 6 (av_i (0, 0))),
  .inr (7, [av_i (24, 24), av_i (24, 24), av_i (20, 20), av_i (6, 6), av_i (18, 18), av_i (0, 0), av_i (0, 0), av_i (36, 36), av_i (8, 8), av_i (0, 0), av_i (1000, 1000), av_i (1000, 1000), av_i (0, 0), av_i (3000, 3000), av_i (0, 0), av_i (0, 0), av_r 19]),
  .inl (0, List.replicate 9 (av_i (0, 0))),
  .inr (7, [av_i (24, 24), av_i (24, 24), av_i (20, 20), av_i (6, 6), av_i (18, 18), av_i (0, 0), av_i (0, 0), av_i (36, 36), av_i (8, 8), av_i (0, 0), av_i (1000, 1000), av_i (1000, 1000), av_i (0, 0), av_i (3000, 3000), av_i (0, 0), av_i (0, 0), av_r 21]),
  .inl (0, List.replicate 9 (av_i (0, 0))),
  .inr (7, [av_i (24, 24), av_i (24, 24), av_i (20, 20), av_i (6, 6), av_i (18, 18), av_i (0, 0), av_i (0, 0), av_i (36, 36), av_i (8, 8), av_i (0, 0), av_i (1000, 1000), av_i (1000, 1000), av_i (0, 0), av_i (3000, 3000), av_i (0, 0), av_i (0, 0), av_r 23]),
  .inl (0, List.replicate 9 (av_i (0, 0))),
  .inr (7, [av_i (24, 24), av_i (24, 24), av_i (20, 20), av_i (6, 6), av_i (18, 18), av_i (0, 0), av_i (0, 0), av_i (36, 36), av_i (8, 8), av_i (0, 0), av_i (1000, 1000), av_i (1000, 1000), av_i (0, 0), av_i (3000, 3000), av_i (0, 0), av_i (0, 0), av_r 25]),
  .inl (0, List.replicate 9 (av_i (0, 0))),
  .inr (4, [av_r 27, av_r 28, av_i (0, 0), av_i (0, 0), av_r 29, av_r 30, av_r 31, av_r 32, av_r 33, av_i (0, 0), av_r 34, av_r 35, av_r 36, av_r 37, av_i (0, 0), av_r 38, av_r 39, av_r 40, av_r 41, av_i (0, 0)]),
  .inl (0, List.replicate 12 (av_i (50, 50))),
  .inl (0, List.replicate 64 (av_i (0, 0))),
  .inl (0, List.replicate 4 (av_i (0, 0))),
  .inl (0, List.replicate 4 (av_i (0, 0))),
  .inl (0, List.replicate 4 (av_i (0, 0))),
  .inl (5, [av_r 42, av_r 44, av_r 46, av_r 48]),
  .inl (0, List.replicate 4 (av_i (0, 0))),
  .inl (0, List.replicate 6 (av_i (0, 0))),
  .inl (0, List.replicate 6 (av_i (0, 0))),
  .inl (0, List.replicate 6 (av_i (0, 0))),
  .inl (0, List.replicate 6 (av_i (0, 0))),
  .inl (0, List.replicate 6 (av_i (0, 0))),
  .inl (0, List.replicate 6 (av_i (0, 0))),
  .inl (0, List.replicate 6 (av_i (0, 0))),
  .inl (0, List.replicate 6 (av_i (0, 0))),
  .inr (7, [av_i (24, 24), av_i (24, 24), av_i (20, 20), av_i (6, 6), av_i (18, 18), av_i (0, 0), av_i (0, 0), av_i (36, 36), av_i (8, 8), av_i (0, 0), av_i (1000, 1000), av_i (1000, 1000), av_i (0, 0), av_i (3000, 3000), av_i (0, 0), av_i (0, 0), av_r 43]),
  .inl (0, List.replicate 9 (av_i (0, 0))),
  .inr (7, [av_i (24, 24), av_i (24, 24), av_i (20, 20), av_i (6, 6), av_i (18, 18), av_i (0, 0), av_i (0, 0), av_i (36, 36), av_i (8, 8), av_i (0, 0), av_i (1000, 1000), av_i (1000, 1000), av_i (0, 0), av_i (3000, 3000), av_i (0, 0), av_i (0, 0), av_r 45]),
  .inl (0, List.replicate 9 (av_i (0, 0))),
  .inr (7, [av_i (24, 24), av_i (24, 24), av_i (20, 20), av_i (6, 6), av_i (18, 18), av_i (0, 0), av_i (0, 0), av_i (36, 36), av_i (8, 8), av_i (0, 0), av_i (1000, 1000), av_i (1000, 1000), av_i (0, 0), av_i (3000, 3000), av_i (0, 0), av_i (0, 0), av_r 47]),
  .inl (0, List.replicate 9 (av_i (0, 0))),
  .inr (7, [av_i (24, 24), av_i (24, 24), av_i (20, 20), av_i (6, 6), av_i (18, 18), av_i (0, 0), av_i (0, 0), av_i (36, 36), av_i (8, 8), av_i (0, 0), av_i (1000, 1000), av_i (1000, 1000), av_i (0, 0), av_i (3000, 3000), av_i (0, 0), av_i (0, 0), av_r 49]),
  .inl (0, List.replicate 9 (av_i (0, 0))),
  .inr (5, [av_r 51, av_r 53, av_r 26, av_i (0, 0), av_i (0, 0), av_i (-1, -1)]),
  .inr (6, [av_r 1, av_r 52, av_i (0, 0), av_i (0, 0), av_i (0, 0), av_i (0, 0), av_i (0, 0)]),
  .inl (0, [av_i (254268868, 254268868), av_i (404455424, 404455424), av_i (236590080, 236590080), av_i (788081664, 788081664), av_i (102419616, 102419616), av_i (407943168, 407943168), av_i (520271872, 520271872), av_i (72814592, 72814592), av_i (384273760, 384273760), av_i (284667488, 284667488), av_i (553242624, 553242624), av_i (86019232, 86019232), av_i (404360448, 404360448), av_i (109359232, 109359232), av_i (236453888, 236453888), av_i (614044672, 614044672), av_i (270106624, 270106624), av_i (721420288, 721420288), av_i (150714368, 150714368), av_i (656049733, 656049733), av_i (781784064, 781784064), av_i (780309888, 780309888), av_i (659011763, 659011763), av_i (609486279, 609486279), av_i (559296512, 559296512), av_i (211366912, 211366912), av_i (139640832, 139640832), av_i (679775584, 679775584), av_i (153600000, 153600000), av_i (777169920, 777169920), av_i (202780672, 202780672), av_i (48365568, 48365568), av_i (522190848, 522190848), av_i (486146048, 486146048)]),
  .inr (0, [av_r 51, av_r 54, av_i (0, 0), av_i (0, 0), av_i (0, 0), av_i (0, 0), av_i (0, 0), av_r 26]),
  .inl (0, List.replicate 73 (av_i (0, 0))),
  .inr (2, [av_r 56, av_r 57, av_r 58, av_i (-1, -1), av_i (0, 0)]),
  .inl (3, List.replicate 10 (av_l (0, 0))),
  .inl (3, List.replicate 64 (av_l (0, 0))),
  .inl (0, [av_i (0, 0), av_i (0, 0), av_i (0, 0)]),
  .inr (7, [av_i (24, 24), av_i (24, 24), av_i (20, 20), av_i (6, 6), av_i (18, 18), av_i (0, 0), av_i (0, 0), av_i (36, 36), av_i (8, 8), av_i (0, 0), av_i (1000, 1000), av_i (1000, 1000), av_i (0, 0), av_i (3000, 3000), av_i (0, 0), av_i (0, 0), av_r 60]),
  .inl (0, List.replicate 9 (av_i (0, 0))),
  .inl (4, [av_r 103, av_r 105, av_r 107, av_r 109]),
  .inl (4, [av_r 104, av_r 106, av_r 108, av_r 110]),
  .inr (10, [av_r 64, av_r 65, av_i (0, 0)]),
  .inl (4, [av_r 66, av_r 67, av_r 68, av_r 69, av_r 70, av_r 71, av_r 72, av_r 73, av_r 74, av_r 75, av_r 76, av_r 77, av_r 78, av_r 79, av_r 80, av_r 81, av_r 82, av_r 83, av_r 84, av_r 85]),
  .inl (0, List.replicate 20 (av_i (0, 0))),
  .inr (1, [av_r 59, av_i (0, 0), av_i (0, 0), av_i (0, 0), av_i (0, 0), av_i (0, 0), av_i (0, 0), av_i (0, 0), av_i (0, 0), av_i (0, 0), av_i (0, 0), av_i (0, 0), av_i (0, 0), av_i (0, 0), av_i (0, 0), av_i (0, 0), av_i (0, 0)]),
  .inr (1, [av_r 59, av_i (0, 0), av_i (0, 0), av_i (0, 0), av_i (0, 0), av_i (0, 0), av_i (0, 0), av_i (0, 0), av_i (0, 0), av_i (0, 0), av_i (0, 0), av_i (0, 0), av_i (0, 0), av_i (0, 0), av_i (0, 0), av_i (0, 0), av_i (0, 0)]),
  .inr (1, [av_r 59, av_i (0, 0), av_i (0, 0), av_i (0, 0), av_i (0, 0), av_i (0, 0), av_i (0, 0), av_i (0, 0), av_i (0, 0), av_i (0, 0), av_i (0, 0), av_i (0, 0), av_i (0, 0), av_i (0, 0), av_i (0, 0), av_i (0, 0), av_i (0, 0)]),
  .inr (1, [av_r 59, av_i (0, 0), av_i (0, 0), av_i (0, 0), av_i (0, 0), av_i (0, 0), av_i (0, 0), av_i (0, 0), av_i (0, 0), av_i (0, 0), av_i (0, 0), av_i (0, 0), av_i (0, 0), av_i (0, 0), av_i (0, 0), av_i (0, 0), av_i (0, 0)]),
  .inr (1, [av_r 59, av_i (0, 0), av_i (0, 0), av_i (0, 0), av_i (0, 0), av_i (0, 0), av_i (0, 0), av_i (0, 0), av_i (0, 0), av_i (0, 0), av_i (0, 0), av_i (0, 0), av_i (0, 0), av_i (0, 0), av_i (0, 0), av_i (0, 0), av_i (0, 0)]),
  .inr (1, [av_r 59, av_i (0, 0), av_i (0, 0), av_i (0, 0), av_i (0, 0), av_i (0, 0), av_i (0, 0), av_i (0, 0), av_i (0, 0), av_i (0, 0), av_i (0, 0), av_i (0, 0), av_i (0, 0), av_i (0, 0), av_i (0, 0), av_i (0, 0), av_i (0, 0)]),
  .inr (1, [av_r 59, av_i (0, 0), av_i (0, 0), av_i (0, 0), av_i (0, 0), av_i (0, 0), av_i (0, 0), av_i (0, 0), av_i (0, 0), av_i (0, 0), av_i (0, 0), av_i (0, 0), av_i (0, 0), av_i (0, 0), av_i (0, 0), av_i (0, 0), av_i (0, 0)]),
  .inr (1, [av_r 59, av_i (0, 0), av_i (0, 0), av_i (0, 0), av_i (0, 0), av_i (0, 0), av_i (0, 0), av_i (0, 0), av_i (0, 0), av_i (0, 0), av_i (0, 0), av_i (0, 0), av_i (0, 0), av_i (0, 0), av_i (0, 0), av_i (0, 0), av_i (0, 0)]),
  .inr (1, [av_r 59, av_i (0, 0), av_i (0, 0), av_i (0, 0), av_i (0, 0), av_i (0, 0), av_i (0, 0), av_i (0, 0), av_i (0, 0), av_i (0, 0), av_i (0, 0), av_i (0, 0), av_i (0, 0), av_i (0, 0), av_i (0, 0), av_i (0, 0), av_i (0, 0)]),
  .inr (1, [av_r 59, av_i (0, 0), av_i (0, 0), av_i (0, 0), av_i (0, 0), av_i (0, 0), av_i (0, 0), av_i (0, 0), av_i (0, 0), av_i (0, 0), av_i (0, 0), av_i (0, 0), av_i (0, 0), av_i (0, 0), av_i (0, 0), av_i (0, 0), av_i (0, 0)]),
  .inr (1, [av_r 59, av_i (0, 0), av_i (0, 0), av_i (0, 0), av_i (0, 0), av_i (0, 0), av_i (0, 0), av_i (0, 0), av_i (0, 0), av_i (0, 0), av_i (0, 0), av_i (0, 0), av_i (0, 0), av_i (0, 0), av_i (0, 0), av_i (0, 0), av_i (0, 0)]),
  .inr (1, [av_r 59, av_i (0, 0), av_i (0, 0), av_i (0, 0), av_i (0, 0), av_i (0, 0), av_i (0, 0), av_i (0, 0), av_i (0, 0), av_i (0, 0), av_i (0, 0), av_i (0, 0), av_i (0, 0), av_i (0, 0), av_i (0, 0), av_i (0, 0), av_i (0, 0)]),
  .inr (1, [av_r 59, av_i (0, 0), av_i (0, 0), av_i (0, 0), av_i (0, 0), av_i (0, 0), av_i (0, 0), av_i (0, 0), av_i (0, 0), av_i (0, 0), av_i (0, 0), av_i (0, 0), av_i (0, 0), av_i (0, 0), av_i (0, 0), av_i (0, 0), av_i (0, 0)]),
  .inr (1, [av_r 59, av_i (0, 0), av_i (0, 0), av_i (0, 0), av_i (0, 0), av_i (0, 0), av_i (0, 0), av_i (0, 0), av_i (0, 0), av_i (0, 0), av_i (0, 0), av_i (0, 0), av_i (0, 0), av_i (0, 0), av_i (0, 0), av_i (0, 0), av_i (0, 0)]),
  .inr (1, [av_r 59, av_i (0, 0), av_i (0, 0), av_i (0, 0), av_i (0, 0), av_i (0, 0), av_i (0, 0), av_i (0, 0), av_i (0, 0), av_i (0, 0), av_i (0, 0), av_i (0, 0), av_i (0, 0), av_i (0, 0), av_i (0, 0), av_i (0, 0), av_i (0, 0)]),
  .inr (1, [av_r 59, av_i (0, 0), av_i (0, 0), av_i (0, 0), av_i (0, 0), av_i (0, 0), av_i (0, 0), av_i (0, 0), av_i (0, 0), av_i (0, 0), av_i (0, 0), av_i (0, 0), av_i (0, 0), av_i (0, 0), av_i (0, 0), av_i (0, 0), av_i (0, 0)]),
  .inr (1, [av_r 59, av_i (0, 0), av_i (0, 0), av_i (0, 0), av_i (0, 0), av_i (0, 0), av_i (0, 0), av_i (0, 0), av_i (0, 0), av_i (0, 0), av_i (0, 0), av_i (0, 0), av_i (0, 0), av_i (0, 0), av_i (0, 0), av_i (0, 0), av_i (0, 0)]),
  .inr (1, [av_r 59, av_i (0, 0), av_i (0, 0), av_i (0, 0), av_i (0, 0), av_i (0, 0), av_i (0, 0), av_i (0, 0), av_i (0, 0), av_i (0, 0), av_i (0, 0), av_i (0, 0), av_i (0, 0), av_i (0, 0), av_i (0, 0), av_i (0, 0), av_i (0, 0)]),
  .inr (1, [av_r 59, av_i (0, 0), av_i (0, 0), av_i (0, 0), av_i (0, 0), av_i (0, 0), av_i (0, 0), av_i (0, 0), av_i (0, 0), av_i (0, 0), av_i (0, 0), av_i (0, 0), av_i (0, 0), av_i (0, 0), av_i (0, 0), av_i (0, 0), av_i (0, 0)]),
  .inr (1, [av_r 59, av_i (0, 0), av_i (0, 0), av_i (0, 0), av_i (0, 0), av_i (0, 0), av_i (0, 0), av_i (0, 0), av_i (0, 0), av_i (0, 0), av_i (0, 0), av_i (0, 0), av_i (0, 0), av_i (0, 0), av_i (0, 0), av_i (0, 0), av_i (0, 0)]),
  .inr (3, [av_r 87, av_r 88, av_r 89, av_r 90, av_r 91, av_r 92, av_r 93, av_r 94, av_i (0, 0), av_i (0, 0), av_i (-1, -1)]),
  .inl (0, List.replicate 40 (av_i (0, 0))),
  .inl (0, List.replicate 40 (av_i (0, 0))),
  .inl (0, List.replicate 40 (av_i (0, 0))),
  .inl (0, List.replicate 40 (av_i (0, 0))),
  .inl (0, List.replicate 40 (av_i (0, 0))),
  .inl (0, List.replicate 40 (av_i (0, 0))),
  .inl (2, List.replicate 40 (av_i (0, 0))),
  .inl (0, List.replicate 40 (av_i (0, 0))),
  .inr (8, [av_r 96, av_r 97, av_i (0, 0)]),
  .inl (0, List.replicate 28 (av_i (0, 0))),
  .inr (1, [av_r 59, av_i (0, 0), av_i (0, 0), av_i (0, 0), av_i (0, 0), av_i (0, 0), av_i (0, 0), av_i (0, 0), av_i (0, 0), av_i (0, 0), av_i (0, 0), av_i (0, 0), av_i (0, 0), av_i (0, 0), av_i (0, 0), av_i (0, 0), av_i (0, 0)]),
  .inr (1, [av_r 59, av_i (0, 0), av_i (0, 0), av_i (0, 0), av_i (0, 0), av_i (0, 0), av_i (0, 0), av_i (0, 0), av_i (0, 0), av_i (0, 0), av_i (0, 0), av_i (0, 0), av_i (0, 0), av_i (0, 0), av_i (0, 0), av_i (0, 0), av_i (0, 0)]),
  .inr (9, [av_r 100, av_r 101, av_r 102, av_i (0, 0)]),
  .inl (0, List.replicate 16 (av_i (0, 0))),
  .inl (0, List.replicate 4 (av_i (0, 0))),
  .inl (0, List.replicate 4 (av_i (0, 0))),
  .inr (1, [av_r 59, av_i (0, 0), av_i (0, 0), av_i (0, 0), av_i (0, 0), av_i (0, 0), av_i (0, 0), av_i (0, 0), av_i (0, 0), av_i (0, 0), av_i (0, 0), av_i (0, 0), av_i (0, 0), av_i (0, 0), av_i (0, 0), av_i (0, 0), av_i (0, 0)]),
  .inr (1, [av_r 59, av_i (0, 0), av_i (0, 0), av_i (0, 0), av_i (0, 0), av_i (0, 0), av_i (0, 0), av_i (0, 0), av_i (0, 0), av_i (0, 0), av_i (0, 0), av_i (0, 0), av_i (0, 0), av_i (0, 0), av_i (0, 0), av_i (0, 0), av_i (0, 0)]),
  .inr (1, [av_r 59, av_i (0, 0), av_i (0, 0), av_i (0, 0), av_i (0, 0), av_i (0, 0), av_i (0, 0), av_i (0, 0), av_i (0, 0), av_i (0, 0), av_i (0, 0), av_i (0, 0), av_i (0, 0), av_i (0, 0), av_i (0, 0), av_i (0, 0), av_i (0, 0)]),
  .inr (1, [av_r 59, av_i (0, 0), av_i (0, 0), av_i (0, 0), av_i (0, 0), av_i (0, 0), av_i (0, 0), av_i (0, 0), av_i (0, 0), av_i (0, 0), av_i (0, 0), av_i (0, 0), av_i (0, 0), av_i (0, 0), av_i (0, 0), av_i (0, 0), av_i (0, 0)]),
  .inr (1, [av_r 59, av_i (0, 0), av_i (0, 0), av_i (0, 0), av_i (0, 0), av_i (0, 0), av_i (0, 0), av_i (0, 0), av_i (0, 0), av_i (0, 0), av_i (0, 0), av_i (0, 0), av_i (0, 0), av_i (0, 0), av_i (0, 0), av_i (0, 0), av_i (0, 0)]),
  .inr (1, [av_r 59, av_i (0, 0), av_i (0, 0), av_i (0, 0), av_i (0, 0), av_i (0, 0), av_i (0, 0), av_i (0, 0), av_i (0, 0), av_i (0, 0), av_i (0, 0), av_i (0, 0), av_i (0, 0), av_i (0, 0), av_i (0, 0), av_i (0, 0), av_i (0, 0)]),
  .inr (1, [av_r 59, av_i (0, 0), av_i (0, 0), av_i (0, 0), av_i (0, 0), av_i (0, 0), av_i (0, 0), av_i (0, 0), av_i (0, 0), av_i (0, 0), av_i (0, 0), av_i (0, 0), av_i (0, 0), av_i (0, 0), av_i (0, 0), av_i (0, 0), av_i (0, 0)]),
  .inr (1, [av_r 59, av_i (0, 0), av_i (0, 0), av_i (0, 0), av_i (0, 0), av_i (0, 0), av_i (0, 0), av_i (0, 0), av_i (0, 0), av_i (0, 0), av_i (0, 0), av_i (0, 0), av_i (0, 0), av_i (0, 0), av_i (0, 0), av_i (0, 0), av_i (0, 0)])]
def hp_2 : av_H := [
  .inr (11, [av_r 1, av_i (0, 0), av_r 2, av_r 26, av_r 50, av_r 55, av_r 59, av_r 61, av_i (0, 0), av_r 62, av_i (-1, -1), av_r 63, av_r 86, av_r 95, av_r 98, av_r 99]),
  .inl (1, List.replicate 900 (av_i (0, 0))),
  .inr (4, [av_r 3, av_r 4, av_i (0, 0), av_i (0, 0), av_r 5, av_r 6, av_r 7, av_r 8, av_r 9, av_i (0, 0), av_r 10, av_r 11, av_r 12, av_r 13, av_i (0, 0), av_r 14, av_r 15, av_r 16, av_r 17, av_i (0, 0)]),
  .inl (0, List.replicate 12 (av_i (50, 50))),
  .inl (0, List.replicate 64 (av_i (0, 0))),
  .inl (0, List.replicate 4 (av_i (0, 0))),
  .inl (0, List.replicate 4 (av_i (0, 0))),
  .inl (0, List.replicate 4 (av_i (0, 0))),
  .inl (5, [av_r 18, av_r 20, av_r 22, av_r 24]),
  .inl (0, List.replicate 4 (av_i (0, 0))),
  .inl (0, List.replicate 6 (av_i (0, 0))),
  .inl (0, List.replicate 6 (av_i (0, 0))),
  .inl (0, List.replicate 6 (av_i (0, 0))),
  .inl (0, List.replicate 6 (av_i (0, 0))),
  .inl (0, List.replicate 6 (av_i (0, 0))),
  .inl (0, List.replicate 6 (av_i (0, 0))),
  .inl (0, List.replicate 6 (av_i (0, 0))),
  .inl (0, List.replicate 6 (av_i (0, 0))),
  .inr (7, [av_i (24, 24), av_i (24, 24), av_i (20, 20), av_i (6, 6), av_i (18, 18), av_i (0, 0), av_i (0, 0), av_i (36, 36), av_i (8, 8), av_i (0, 0), av_i (1000, 1000), av_i (1000, 1000), av_i (0, 0), av_i (3000, 3000), av_i (0, 0), av_i (0, 0), av_r 19]),
  .inl (0, List.replicate 9 (av_i (0, 0))),
  .inr (7, [av_i (24, 24), av_i (24, 24), av_i (20, 20), av_i (6, 6), av_i (18, 18), av_i (0, 0), av_i (0, 0), av_i (36, 36), av_i (8, 8), av_i (0, 0), av_i (1000, 1000), av_i (1000, 1000), av_i (0, 0), av_i (3000, 3000), av_i (0, 0), av_i (0, 0), av_r 21]),
  .inl (0, List.replicate 9 (av_i (0, 0))),
  .inr (7, [av_i (24, 24), av_i (24, 24), av_i (20, 20), av_i (6, 6), av_i (18, 18), av_i (0, 0), av_i (0, 0), av_i (36, 36), av_i (8, 8), av_i (0, 0), av_i (1000, 1000), av_i (1000, 1000), av_i (0, 0), av_i (3000, 3000), av_i (0, 0), av_i (0, 0), av_r 23]),
  .inl (0, List.replicate 9 (av_i (0, 0))),
  .inr (7, [av_i (24, 24), av_i (24, 24), av_i (20, 20), av_i (6, 6), av_i (18, 18), av_i (0, 0), av_i (0, 0), av_i (36, 36), av_i (8, 8), av_i (0, 0), av_i (1000, 1000), av_i (1000, 1000), av_i (0, 0), av_i (3000, 3000), av_i (0, 0), av_i (0, 0), av_r 25]),
  .inl (0, List.replicate 9 (av_i (0, 0))),
  .inr (4, [av_r 27, av_r 28, av_i (0, 0), av_i (0, 0), av_r 29, av_r 30, av_r 31, av_r 32, av_r 33, av_i (0, 0), av_r 34, av_r 35, av_r 36, av_r 37, av_i (0, 0), av_r 38, av_r 39, av_r 40, av_r 41, av_i (0, 0)]),
  .inl (0, List.replicate 12 (av_i (50, 50))),
  .inl (0, List.replicate 64 (av_i (0, 0))),
  .inl (0, List.replicate 4 (av_i (0, 0))),
  .inl (0, List.replicate 4 (av_i (0, 0))),
  .inl (0, List.replicate 4 (av_i (0, 0))),
  .inl (5, [av_r 42, av_r 44, av_r 46, av_r 48]),
  .inl (0, List.replicate 4 (av_i (0, 0))),
  .inl (0, List.replicate 6 (av_i (0, 0))),
  .inl (0, List.replicate 6 (av_i (0, 0))),
  .inl (0, List.replicate 6 (av_i (0, 0))),
  .inl (0, List.replicate 6 (av_i (0, 0))),
  .inl (0, List.replicate 6 (av_i (0, 0))),
  .inl (0, List.replicate 6 (av_i (0, 0))),
  .inl (0, List.replicate 6 (av_i (0, 0))),
  .inl (0, List.replicate 6 (av_i (0, 0))),
  .inr (7, [av_i (24, 24), av_i (24, 24), av_i (20, 20), av_i (6, 6), av_i (18, 18), av_i (0, 0), av_i (0, 0), av_i (36, 36), av_i (8, 8), av_i (0, 0), av_i (1000, 1000), av_i (1000, 1000), av_i (0, 0), av_i (3000, 3000), av_i (0, 0), av_i (0, 0), av_r 43]),
  .inl (0, List.replicate 9 (av_i (0, 0))),
  .inr (7, [av_i (24, 24), av_i (24, 24), av_i (20, 20), av_i (6, 6), av_i (18, 18), av_i (0, 0), av_i (0, 0), av_i (36, 36), av_i (8, 8), av_i (0, 0), av_i (1000, 1000), av_i (1000, 1000), av_i (0, 0), av_i (3000, 3000), av_i (0, 0), av_i (0, 0), av_r 45]),
  .inl (0, List.replicate 9 (av_i (0, 0))),
  .inr (7, [av_i (24, 24), av_i (24, 24), av_i (20, 20), av_i (6, 6), av_i (18, 18), av_i (0, 0), av_i (0, 0), av_i (36, 36), av_i (8, 8), av_i (0, 0), av_i (1000, 1000), av_i (1000, 1000), av_i (0, 0), av_i (3000, 3000), av_i (0, 0), av_i (0, 0), av_r 47]),
  .inl (0, List.replicate 9 (av_i (0, 0))),
  .inr (7, [av_i (24, 24), av_i (24, 24), av_i (20, 20), av_i (6, 6), av_i (18, 18), av_i (0, 0), av_i (0, 0), av_i (36, 36), av_i (8, 8), av_i (0, 0), av_i (1000, 1000), av_i (1000, 1000), av_i (0, 0), av_i (3000, 3000), av_i (0, 0), av_i (0, 0), av_r 49]),
  .inl (0, List.replicate 9 (av_i (0, 0))),
  .inr (5, [av_r 51, av_r 53, av_r 26, av_i (0, 0), av_i (0, 0), av_i (-1, -1)]),
  .inr (6, [av_r 1, av_r 52, av_i (0, 0), av_i (0, 0), av_i (0, 0), av_i (0, 0), av_i (0, 0)]),
  .inl (0, [av_i (254268868, 254268868), av_i (404455424, 404455424), av_i (236590080, 236590080), av_i (788081664, 788081664), av_i (102419616, 102419616), av_i (407943168, 407943168), av_i (520271872, 520271872), av_i (72814592, 72814592), av_i (384273760, 384273760), av_i (284667488, 284667488), av_i (553242624, 553242624), av_i (86019232, 86019232), av_i (404360448, 404360448), av_i (109359232, 109359232), av_i (236453888, 236453888), av_i (614044672, 614044672), av_i (270106624, 270106624), av_i (721420288, 721420288), av_i (150714368, 150714368), av_i (656049733, 656049733), av_i (781784064, 781784064), av_i (780309888, 780309888), av_i (659011763, 659011763), av_i (609486279, 609486279), av_i (559296512, 559296512), av_i (211366912, 211366912), av_i (139640832, 139640832), av_i (679775584, 679775584), av_i (153600000, 153600000), av_i (777169920, 777169920), av_i (202780672, 202780672), av_i (48365568, 48365568), av_i (522190848, 522190848), av_i (486146048, 486146048)]),
  .inr (0, [av_r 51, av_r 54, av_i (0, 0), av_i (0, 0), av_i (0, 0), av_i (0, 0), av_i (0, 0), av_r 26]),
  .inl (0, List.replicate 73 (av_i (0, 0))),
  .inr (2, [av_r 56, av_r 57, av_r 58, av_i (-1, -1), av_i (0, 0)]),
  .inl (3, List.replicate 10 (av_l (0, 0))),
  .inl (3, List.replicate 64 (av_l (0, 0))),
  .inl (0, [av_i (0, 0), av_i (0, 0), av_i (0, 0)]),
  .inr (7, [av_i (24, 24), av_i (24, 24), av_i (20, 20), av_i (6, 6), av_i (18, 18), av_i (0, 0), av_i (0, 0), av_i (36, 36), av_i (8, 8), av_i (0, 0), av_i (1000, 1000), av_i (1000, 1000), av_i (0, 0), av_i (3000, 3000), av_i (0, 0), av_i (0, 0), av_r 60]),
  .inl (0, List.replicate 9 (av_i (0, 0))),
  .inl (4, [av_r 103, av_r 105, av_r 107, av_r 109]),
  .inl (4, [av_r 104, av_r 106, av_r 108, av_r 110]),
  .inr (10, [av_r 64, av_r 65, av_i (0, 0)]),
  .inl (4, [av_r 66, av_r 67, av_r 68, av_r 69, av_r 70, av_r 71, av_r 72, av_r 73, av_r 74, av_r 75, av_r 76, av_r 77, av_r 78, av_r 79, av_r 80, av_r 81, av_r 82, av_r 83, av_r 84, av_r 85]),
  .inl (0, List.replicate 20 (av_i (0, 0))),
  .inr (1, [av_r 59, av_i (0, 0), av_i (0, 0), av_i (0, 0), av_i (0, 0), av_i (0, 0), av_i (0, 0), av_i (0, 0), av_i (0, 0), av_i (0, 0), av_i (0, 0), av_i (0, 0), av_i (0, 0), av_i (0, 0), av_i (0, 0), av_i (0, 0), av_i (0, 0)]),
  .inr (1, [av_r 59, av_i (0, 0), av_i (0, 0), av_i (0, 0), av_i (0, 0), av_i (0, 0), av_i (0, 0), av_i (0, 0), av_i (0, 0), av_i (0, 0), av_i (0, 0), av_i (0, 0), av_i (0, 0), av_i (0, 0), av_i (0, 0), av_i (0, 0), av_i (0, 0)]),
  .inr (1, [av_r 59, av_i (0, 0), av_i (0, 0), av_i (0, 0), av_i (0, 0), av_i (0, 0), av_i (0, 0), av_i (0, 0), av_i (0, 0), av_i (0, 0), av_i (0, 0), av_i (0, 0), av_i (0, 0), av_i (0, 0), av_i (0, 0), av_i (0, 0), av_i (0, 0)]),
  .inr (1, [av_r 59, av_i (0, 0), av_i (0, 0), av_i (0, 0), av_i (0, 0), av_i (0, 0), av_i (0, 0), av_i (0, 0), av_i (0, 0), av_i (0, 0), av_i (0, 0), av_i (0, 0), av_i (0, 0), av_i (0, 0), av_i (0, 0), av_i (0, 0), av_i (0, 0)]),
  .inr (1, [av_r 59, av_i (0, 0), av_i (0, 0), av_i (0, 0), av_i (0, 0), av_i (0, 0), av_i (0, 0), av_i (0, 0), av_i (0, 0), av_i (0, 0), av_i (0, 0), av_i (0, 0), av_i (0, 0), av_i (0, 0), av_i (0, 0), av_i (0, 0), av_i (0, 0)]),
  .inr (1, [av_r 59, av_i (0, 0), av_i (0, 0), av_i (0, 0), av_i (0, 0), av_i (0, 0), av_i (0, 0), av_i (0, 0), av_i (0, 0), av_i (0, 0), av_i (0, 0), av_i (0, 0), av_i (0, 0), av_i (0, 0), av_i (0, 0), av_i (0, 0), av_i (0, 0)]),
  .inr (1, [av_r 59, av_i (0, 0), av_i (0, 0), av_i (0, 0), av_i (0, 0), av_i (0, 0), av_i (0, 0), av_i (0, 0), av_i (0, 0), av_i (0, 0), av_i (0, 0), av_i (0, 0), av_i (0, 0), av_i (0, 0), av_i (0, 0), av_i (0, 0), av_i (0, 0)]),
  .inr (1, [av_r 59, av_i (0, 0), av_i (0, 0), av_i (0, 0), av_i (0, 0), av_i (0, 0), av_i (0, 0), av_i (0, 0), av_i (0, 0), av_i (0, 0), av_i (0, 0), av_i (0, 0), av_i (0, 0), av_i (0, 0), av_i (0, 0), av_i (0, 0), av_i (0, 0)]),
  .inr (1, [av_r 59, av_i (0, 0), av_i (0, 0), av_i (0, 0), av_i (0, 0), av_i (0, 0), av_i (0, 0), av_i (0, 0), av_i (0, 0), av_i (0, 0), av_i (0, 0), av_i (0, 0), av_i (0, 0), av_i (0, 0), av_i (0, 0), av_i (0, 0), av_i (0, 0)]),
  .inr (1, [av_r 59, av_i (0, 0), av_i (0, 0), av_i (0, 0), av_i (0, 0), av_i (0, 0), av_i (0, 0), av_i (0, 0), av_i (0, 0), av_i (0, 0), av_i (0, 0), av_i (0, 0), av_i (0, 0), av_i (0, 0), av_i (0, 0), av_i (0, 0), av_i (0, 0)]),
  .inr (1, [av_r 59, av_i (0, 0), av_i (0, 0), av_i (0, 0), av_i (0, 0), av_i (0, 0), av_i (0, 0), av_i (0, 0), av_i (0, 0), av_i (0, 0), av_i (0, 0), av_i (0, 0), av_i (0, 0), av_i (0, 0), av_i (0, 0), av_i (0, 0), av_i (0, 0)]),
  .inr (1, [av_r 59, av_i (0, 0), av_i (0, 0), av_i (0, 0), av_i (0, 0), av_i (0, 0), av_i (0, 0), av_i (0, 0), av_i (0, 0), av_i (0, 0), av_i (0, 0), av_i (0, 0), av_i (0, 0), av_i (0, 0), av_i (0, 0), av_i (0, 0), av_i (0, 0)]),
  .inr (1, [av_r 59, av_i (0, 0), av_i (0, 0), av_i (0, 0), av_i (0, 0), av_i (0, 0), av_i (0, 0), av_i (0, 0), av_i (0, 0), av_i (0, 0), av_i (0, 0), av_i (0, 0), av_i (0, 0), av_i (0, 0), av_i (0, 0), av_i (0, 0), av_i (0, 0)]),
  .inr (1, [av_r 59, av_i (0, 0), av_i (0, 0), av_i (0, 0), av_i (0, 0), av_i (0, 0), av_i (0, 0), av_i (0, 0), av_i (0, 0), av_i (0, 0), av_i (0, 0), av_i (0, 0), av_i (0, 0), av_i (0, 0), av_i (0, 0), av_i (0, 0), av_i (0, 0)]),
  .inr (1, [av_r 59, av_i (0, 0), av_i (0, 0), av_i (0, 0), av_i (0, 0), av_i (0, 0), av_i (0, 0), av_i (0, 0), av_i (0, 0), av_i (0, 0), av_i (0, 0), av_i (0, 0), av_i (0, 0), av_i (0, 0), av_i (0, 0), av_i (0, 0), av_i (0, 0)]),
  .inr (1, [av_r 59, av_i (0, 0), av_i (0, 0), av_i (0, 0), av_i (0, 0), av_i (0, 0), av_i (0, 0), av_i (0, 0), av_i (0, 0), av_i (0, 0), av_i (0, 0), av_i (0, 0), av_i (0, 0), av_i (0, 0), av_i (0, 0), av_i (0, 0), av_i (0, 0)]),
  .inr (1, [av_r 59, av_i (0, 0), av_i (0, 0), av_i (0, 0), av_i (0, 0), av_i (0, 0), av_i (0, 0), av_i (0, 0), av_i (0, 0), av_i (0, 0), av_i (0, 0), av_i (0, 0), av_i (0, 0), av_i (0, 0), av_i (0, 0), av_i (0, 0), av_i (0, 0)]),
  .inr (1, [av_r 59, av_i (0, 0), av_i (0, 0), av_i (0, 0), av_i (0, 0), av_i (0, 0), av_i (0, 0), av_i (0, 0), av_i (0, 0), av_i (0, 0), av_i (0, 0), av_i (0, 0), av_i (0, 0), av_i (0, 0), av_i (0, 0), av_i (0, 0), av_i (0, 0)]),
  .inr (1, [av_r 59, av_i (0, 0), av_i (0, 0), av_i (0, 0), av_i (0, 0), av_i (0, 0), av_i (0, 0), av_i (0, 0), av_i (0, 0), av_i (0, 0), av_i (0, 0), av_i (0, 0), av_i (0, 0), av_i (0, 0), av_i (0, 0), av_i (0, 0), av_i (0, 0)]),
  .inr (1, [av_r 59, av_i (0, 0), av_i (0, 0), av_i (0, 0), av_i (0, 0), av_i (0, 0), av_i (0, 0), av_i (0, 0), av_i (0, 0), av_i (0, 0), av_i (0, 0), av_i (0, 0), av_i (0, 0), av_i (0, 0), av_i (0, 0), av_i (0, 0), av_i (0, 0)]),
  .inr (3, [av_r 87, av_r 88, av_r 89, av_r 90, av_r 91, av_r 92, av_r 93, av_r 94, av_i (0, 0), av_i (0, 0), av_i (-1, -1)]),
  .inl (0, List.replicate 40 (av_i (0, 0))),
  .inl (0, List.replicate 40 (av_i (0, 0))),
  .inl (0, List.replicate 40 (av_i (0, 0))),
  .inl (0, List.replicate 40 (av_i (0, 0))),
  .inl (0, List.replicate 40 (av_i (0, 0))),
  .inl (0, List.replicate 40 (av_i (0, 0))),
  .inl (2, List.replicate 40 (av_i (0, 0))),
  .inl (0, List.replicate 40 (av_i (0, 0))),
  .inr (8, [av_r 96, av_r 97, av_i (0, 0)]),
  .inl (0, List.replicate 28 (av_i (0, 0))),
  .inr (1, [av_r 59, av_i (0, 0), av_i (0, 0), av_i (0, 0), av_i (0, 0), av_i (0, 0), av_i (0, 0), av_i (0, 0), av_i (0, 0), av_i (0, 0), av_i (0, 0), av_i (0, 0), av_i (0, 0), av_i (0, 0), av_i (0, 0), av_i (0, 0), av_i (0, 0)]),
  .inr (1, [av_r 59, av_i (0, 0), av_i (0, 0), av_i (0, 0), av_i (0, 0), av_i (0, 0), av_i (0, 0), av_i (0, 0), av_i (0, 0), av_i (0, 0), av_i (0, 0), av_i (0, 0), av_i (0, 0), av_i (0, 0), av_i (0, 0), av_i (0, 0), av_i (0, 0)]),
  .inr (9, [av_r 100, av_r 101, av_r 102, av_i (0, 0)]),
  .inl (0, List.replicate 16 (av_i (0, 0))),
  .inl (0, List.replicate 4 (av_i (0, 0))),
  .inl (0, List.replicate 4 (av_i (0, 0))),
  .inr (1, [av_r 59, av_i (0, 0), av_i (0, 0), av_i (0, 0), av_i (0, 0), av_i (0, 0), av_i (0, 0), av_i (0, 0), av_i (0, 0), av_i (0, 0), av_i (0, 0), av_i (0, 0), av_i (0, 0), av_i (0, 0), av_i (0, 0), av_i (0, 0), av_i (0, 0)]),
  .inr (1, [av_r 59, av_i (0, 0), av_i (0, 0), av_i (0, 0), av_i (0, 0), av_i (0, 0), av_i (0, 0), av_i (0, 0), av_i (0, 0), av_i (0, 0), av_i (0, 0), av_i (0, 0), av_i (0, 0), av_i (0, 0), av_i (0, 0), av_i (0, 0), av_i (0, 0)]),
  .inr (1, [av_r 59, av_i (0, 0), av_i (0, 0), av_i (0, 0), av_i (0, 0), av_i (0, 0), av_i (0, 0), av_i (0, 0), av_i (0, 0), av_i (0, 0), av_i (0, 0), av_i (0, 0), av_i (0, 0), av_i (0, 0), av_i (0, 0), av_i (0, 0), av_i (0, 0)]),
  .inr (1, [av_r 59, av_i (0, 0), av_i (0, 0), av_i (0, 0), av_i (0, 0), av_i (0, 0), av_i (0, 0), av_i (0, 0), av_i (0, 0), av_i (0, 0), av_i (0, 0), av_i (0, 0), av_i (0, 0), av_i (0, 0), av_i (0, 0), av_i (0, 0), av_i (0, 0)]),
  .inr (1, [av_r 59, av_i (0, 0), av_i (0, 0), av_i (0, 0), av_i (0, 0), av_i (0, 0), av_i (0, 0), av_i (0, 0), av_i (0, 0), av_i (0, 0), av_i (0, 0), av_i (0, 0), av_i (0, 0), av_i (0, 0), av_i (0, 0), av_i (0, 0), av_i (0, 0)]),
  .inr (1, [av_r 59, av_i (0, 0), av_i (0, 0), av_i (0, 0), av_i (0, 0), av_i (0, 0), av_i (0, 0), av_i (0, 0), av_i (0, 0), av_i (0, 0), av_i (0, 0), av_i (0, 0), av_i (0, 0), av_i (0, 0), av_i (0, 0), av_i (0, 0), av_i (0, 0)]),
  .inr (1, [av_r 59, av_i (0, 0), av_i (0, 0), av_i (0, 0), av_i (0, 0), av_i (0, 0), av_i (0, 0), av_i (0, 0), av_i (0, 0), av_i (0, 0), av_i (0, 0), av_i (0, 0), av_i (0, 0), av_i (0, 0), av_i (0, 0), av_i (0, 0), av_i (0, 0)]),
  .inr (1, [av_r 59, av_i (0, 0), av_i (0, 0), av_i (0, 0), av_i (0, 0), av_i (0, 0), av_i (0, 0), av_i (0, 0), av_i (0, 0), av_i (0, 0), av_i (0, 0), av_i (0, 0), av_i (0, 0), av_i (0, 0), av_i (0, 0), av_i (0, 0), av_i (0, 0)]),
  .inr (12, [av_r 112, av_i (0, 0), av_i (0, 0), av_r 113, av_i (0, 0), av_i (-1, -1), av_i (0, 0), av_i (0, 0), av_i (0, 0), av_i (0, 0), av_i (0, 0), av_i (0, 0), av_i (0, 0), av_i (0, 0), av_i (0, 0), av_i (0, 0), av_i (0, 0), av_i (0, 0), av_i (0, 0), av_i (0, 0), av_i (0, 0), av_r 114, av_r 115, av_r 116, av_r 117, av_r 118, av_r 119, av_r 120, av_r 121, av_r 122, av_r 123, av_r 124, av_r 125, av_r 126, av_r 127, av_r 128, av_r 129, av_i (0, 0), av_i (0, 0), av_i (0, 0), av_i (0, 0), av_i (0, 0), av_i (0, 0), av_i (0, 0), av_r 130, av_r 131, av_r 132, av_r 133, av_i (0, 0), av_r 134, av_i (0, 0), av_r 135, av_i (0, 0), av_i (-1, -1), av_r 136, av_r 137, av_r 138, av_r 139, av_r 140, av_r 141, av_r 142, av_r 143, av_r 144, av_r 145, av_r 146, av_r 147, av_i (0, 0), av_i (0, 0), av_r 148]),
  .inl (0, List.replicate 900 (av_i (0, 0))),
  .inl (0, [av_i (103, 103), av_i (114, 114), av_i (111, 111), av_i (117, 117), av_i (110, 110), av_i (100, 100), av_i (32, 32), av_i (108, 108), av_i (97, 97), av_i (119, 119), av_i (32, 32), av_i (103, 103), av_i (97, 97), av_i (116, 116), av_i (101, 101), av_i (32, 32), av_i (119, 119), av_i (111, 111), av_i (114, 114), av_i (107, 107), av_i (32, 32), av_i (99, 99), av_i (97, 97), av_i (117, 117), av_i (115, 115), av_i (101, 101), av_i (32, 32), av_i (108, 108), av_i (101, 101), av_i (97, 97), av_i (110, 110), av_i (32, 32), av_i (111, 111), av_i (112, 112), av_i (101, 101), av_i (110, 110), av_i (32, 32), av_i (98, 98), av_i (101, 101), av_i (110, 110), av_i (100, 100), av_i (32, 32), av_i (107, 107), av_i (110, 110), av_i (111, 111), av_i (99, 99), av_i (107, 107), av_i (32, 32), av_i (104, 104), av_i (111, 111), av_i (111, 111), av_i (107, 107), av_i (115, 115), av_i (32, 32), av_i (112, 112), av_i (111, 111), av_i (115, 115), av_i (116, 116), av_i (32, 32), av_i (98, 98), av_i (114, 114), av_i (97, 97), av_i (99, 99), av_i (101, 101), av_i (32, 32), av_i (108, 108), av_i (97, 97), av_i (116, 116), av_i (99, 99), av_i (104, 104), av_i (32, 32), av_i (103, 103), av_i (97, 97), av_i (112, 112), av_i (32, 32), av_i (114, 114), av_i (105, 105), av_i (115, 115), av_i (101, 101), av_i (32, 32), av_i (104, 104), av_i (97, 97), av_i (115, 115), av_i (32, 32), av_i (115, 115), av_i (113, 113), av_i (117, 117), av_i (97, 97), av_i (114, 114), av_i (101, 101), av_i (32, 32), av_i (119, 119), av_i (105, 105), av_i (114, 114), av_i (101, 101), av_i (32, 32), av_i (119, 119), av_i (104, 104), av_i (101, 101), av_i (101, 101), av_i (108, 108), av_i (32, 32), av_i (115, 115), av_i (116, 116), av_i (111, 111), av_i (110, 110), av_i (101, 101), av_i (115, 115), av_i (32, 32), av_i (114, 114), av_i (101, 101), av_i (104, 104), av_i (97, 97), av_i (110, 110), av_i (103, 103), av_i (32, 32), av_i (97, 97), av_i (110, 110), av_i (100, 100), av_i (32, 32), av_i (111, 111), av_i (114, 114), av_i (32, 32), av_i (110, 110), av_i (111, 111), av_i (116, 116), av_i (32, 32), av_i (112, 112), av_i (117, 117), av_i (108, 108), av_i (108, 108), av_i (32, 32), av_i (102, 102), av_i (105, 105), av_i (114, 114), av_i (109, 109), av_i (32, 32), av_i (100, 100), av_i (101, 101), av_i (101, 101), av_i (112, 112), av_i (32, 32), av_i (116, 116), av_i (104, 104), av_i (105, 105), av_i (99, 99), av_i (107, 107), av_i (32, 32), av_i (117, 117), av_i (112, 112), av_i (32, 32), av_i (100, 100), av_i (111, 111), av_i (119, 119), av_i (110, 110), av_i (32, 32), av_i (100, 100), av_i (114, 114), av_i (111, 111), av_i (112, 112), av_i (32, 32), av_i (119, 119), av_i (101, 101), av_i (101, 101), av_i (107, 107), av_i (32, 32), av_i (99, 99), av_i (104, 104), av_i (105, 105), av_i (108, 108), av_i (100, 100), av_i (32, 32), av_i (102, 102), av_i (97, 97), av_i (108, 108), av_i (108, 108), av_i (32, 32)]),
  .inl (0, List.replicate 24 (av_i (50, 50))),
  .inl (0, List.replicate 8 (av_i (0, 0))),
  .inl (0, List.replicate 8 (av_i (0, 0))),
  .inl (2, List.replicate 8 (av_i (0, 0))),
  .inl (0, List.replicate 8 (av_i (0, 0))),
  .inl (0, List.replicate 128 (av_i (0, 0))),
  .inl (0, List.replicate 72 (av_i (0, 0))),
  .inl (0, List.replicate 12 (av_i (0, 0))),
  .inl (0, List.replicate 36 (av_i (0, 0))),
  .inl (0, List.replicate 12 (av_i (0, 0))),
  .inl (0, List.replicate 36 (av_i (0, 0))),
  .inl (0, List.replicate 128 (av_i (0, 0))),
  .inl (0, List.replicate 128 (av_i (0, 0))),
  .inl (0, List.replicate 128 (av_i (0, 0))),
  .inl (0, List.replicate 96 (av_i (0, 0))),
  .inl (0, List.replicate 96 (av_i (0, 0))),
  .inl (0, List.replicate 64 (av_i (0, 0))),
  .inl (0, List.replicate 16 (av_i (0, 0))),
  .inl (3, List.replicate 10 (av_l (0, 0))),
  .inl (3, List.replicate 64 (av_l (0, 0))),
  .inl (3, [av_l (0, 0), av_l (0, 0), av_l (0, 0)]),
  .inl (0, List.replicate 340 (av_i (0, 0))),
  .inl (0, List.replicate 40 (av_i (0, 0))),
  .inl (0, List.replicate 40 (av_i (0, 0))),
  .inl (0, List.replicate 40 (av_i (0, 0))),
  .inl (0, List.replicate 40 (av_i (0, 0))),
  .inl (0, List.replicate 40 (av_i (0, 0))),
  .inl (2, List.replicate 40 (av_i (0, 0))),
  .inl (0, List.replicate 7 (av_i (0, 0))),
  .inl (0, [av_i (1000, 1000), av_i (924, 924), av_i (707, 707), av_i (383, 383), av_i (0, 0), av_i (-383, -383), av_i (-707, -707), av_i (-924, -924), av_i (-1000, -1000)]),
  .inl (0, [av_i (0, 0), av_i (383, 383), av_i (707, 707), av_i (924, 924), av_i (1000, 1000), av_i (924, 924), av_i (707, 707), av_i (383, 383), av_i (0, 0)]),
  .inl (0, List.replicate 4 (av_i (0, 0))),
  .inl (0, List.replicate 4 (av_i (0, 0))),
  .inl (0, List.replicate 64 (av_i (0, 0))),
  .inl (0, List.replicate 64 (av_i (0, 0)))]
def hp_3 : av_H := [
  .inr (11, [av_r 1, av_i (0, 0), av_r 2, av_r 26, av_r 50, av_r 55, av_r 59, av_r 61, av_i (0, 0), av_r 62, av_i (-1, -1), av_r 63, av_r 86, av_r 95, av_r 98, av_r 99]),
  .inl (1, List.replicate 900 (av_i (0, 0))),
  .inr (4, [av_r 3, av_r 4, av_i (0, 0), av_i (0, 0), av_r 5, av_r 6, av_r 7, av_r 8, av_r 9, av_i (0, 0), av_r 10, av_r 11, av_r 12, av_r 13, av_i (0, 0), av_r 14, av_r 15, av_r 16, av_r 17, av_i (0, 0)]),
  .inl (0, List.replicate 12 (av_i (50, 50))),
  .inl (0, List.replicate 64 (av_i (0, 0))),
  .inl (0, List.replicate 4 (av_i (0, 0))),
  .inl (0, List.replicate 4 (av_i (0, 0))),
  .inl (0, List.replicate 4 (av_i (0, 0))),
  .inl (5, [av_r 18, av_r 20, av_r 22, av_r 24]),
  .inl (0, List.replicate 4 (av_i (0, 0))),
  .inl (0, List.replicate 6 (av_i (0, 0))),
  .inl (0, List.replicate 6 (av_i (0, 0))),
  .inl (0, List.replicate 6 (av_i (0, 0))),
  .inl (0, List.replicate 6 (av_i (0, 0))),
  .inl (0, List.replicate 6 (av_i (0, 0))),
  .inl (0, List.replicate 6 (av_i (0, 0))),
  .inl (0, List.replicate 6 (av_i (0, 0))),
  .inl (0, List.replicate 6 (av_i (0, 0))),
  .inr (7, [av_i (24, 24), av_i (24, 24), av_i (20, 20), av_i (6, 6), av_i (18, 18), av_i (0, 0), av_i (0, 0), av_i (36, 36), av_i (8, 8), av_i (0, 0), av_i (1000, 1000), av_i (1000, 1000), av_i (0, 0), av_i (3000, 3000), av_i (0, 0), av_i (0, 0), av_r 19]),
  .inl (0, List.replicate 9 (av_i (0, 0))),
  .inr (7, [av_i (24, 24), av_i (24, 24), av_i (20, 20), av_i (6, 6), av_i (18, 18), av_i (0, 0), av_i (0, 0), av_i (36, 36), av_i (8, 8), av_i (0, 0), av_i (1000, 1000), av_i (1000, 1000), av_i (0, 0), av_i (3000, 3000), av_i (0, 0), av_i (0, 0), av_r 21]),
  .inl (0, List.replicate 9 (av_i (0, 0))),
  .inr (7, [av_i (24, 24), av_i (24, 24), av_i (20, 20), av_i (6, 6), av_i (18, 18), av_i (0, 0), av_i (0, 0), av_i (36, 36), av_i (8, 8), av_i (0, 0), av_i (1000, 1000), av_i (1000, 1000), av_i (0, 0), av_i (3000, 3000), av_i (0, 0), av_i (0, 0), av_r 23]),
  .inl (0, List.replicate 9 (av_i (0, 0))),
  .inr (7, [av_i (24, 24), av_i (24, 24), av_i (20, 20), av_i (6, 6), av_i (18, 18), av_i (0, 0), av_i (0, 0), av_i (36, 36), av_i (8, 8), av_i (0, 0), av_i (1000, 1000), av_i (1000, 1000), av_i (0, 0), av_i (3000, 3000), av_i (0, 0), av_i (0, 0), av_r 25]),
  .inl (0, List.replicate 9 (av_i (0, 0))),
  .inr (4, [av_r 27, av_r 28, av_i (0, 0), av_i (0, 0), av_r 29, av_r 30, av_r 31, av_r 32, av_r 33, av_i (0, 0), av_r 34, av_r 35, av_r 36, av_r 37, av_i (0, 0), av_r 38, av_r 39, av_r 40, av_r 41, av_i (0, 0)]),
  .inl (0, List.replicate 12 (av_i (50, 50))),
  .inl (0, List.replicate 64 (av_i (0, 0))),
  .inl (0, List.replicate 4 (av_i (0, 0))),
  .inl (0, List.replicate 4 (av_i (0, 0))),
  .inl (0, List.replicate 4 (av_i (0, 0))),
  .inl (5, [av_r 42, av_r 44, av_r 46, av_r 48]),
  .inl (0, List.replicate 4 (av_i (0, 0))),
  .inl (0, List.replicate 6 (av_i (0, 0))),
  .inl (0, List.replicate 6 (av_i (0, 0))),
  .inl (0, List.replicate 6 (av_i (0, 0))),
  .inl (0, List.replicate 6 (av_i (0, 0))),
  .inl (0, List.replicate 6 (av_i (0, 0))),
  .inl (0, List.replicate 6 (av_i (0, 0))),
  .inl (0, List.replicate 6 (av_i (0, 0))),
  .inl (0, List.replicate 6 (av_i (0, 0))),
  .inr (7, [av_i (24, 24), av_i (24, 24), av_i (20, 20), av_i (6, 6), av_i (18, 18), av_i (0, 0), av_i (0, 0), av_i (36, 36), av_i (8, 8), av_i (0, 0), av_i (1000, 1000), av_i (1000, 1000), av_i (0, 0), av_i (3000, 3000), av_i (0, 0), av_i (0, 0), av_r 43]),
  .inl (0, List.replicate 9 (av_i (0, 0))),
  .inr (7, [av_i (24, 24), av_i (24, 24), av_i (20, 20), av_i (6, 6), av_i (18, 18), av_i (0, 0), av_i (0, 0), av_i (36, 36), av_i (8, 8), av_i (0, 0), av_i (1000, 1000), av_i (1000, 1000), av_i (0, 0), av_i (3000, 3000), av_i (0, 0), av_i (0, 0), av_r 45]),
  .inl (0, List.replicate 9 (av_i (0, 0))),
  .inr (7, [av_i (24, 24), av_i (24, 24), av_i (20, 20), av_i (6, 6), av_i (18, 18), av_i (0, 0), av_i (0, 0), av_i (36, 36), av_i (8, 8), av_i (0, 0), av_i (1000, 1000), av_i (1000, 1000), av_i (0, 0), av_i (3000, 3000), av_i (0, 0), av_i (0, 0), av_r 47]),
  .inl (0, List.replicate 9 (av_i (0, 0))),
  .inr (7, [av_i (24, 24), av_i (24, 24), av_i (20, 20), av_i (6, 6), av_i (18, 18), av_i (0, 0), av_i (0, 0), av_i (36, 36), av_i (8, 8), av_i (0, 0), av_i (1000, 1000), av_i (1000, 1000), av_i (0, 0), av_i (3000, 3000), av_i (0, 0), av_i (0, 0), av_r 49]),
  .inl (0, List.replicate 9 (av_i (0, 0))),
  .inr (5, [av_r 51, av_r 53, av_r 26, av_i (0, 0), av_i (0, 0), av_i (-1, -1)]),
  .inr (6, [av_r 1, av_r 52, av_i (0, 0), av_i (0, 0), av_i (0, 0), av_i (0, 0), av_i (0, 0)]),
  .inl (0, [av_i (254268868, 254268868), av_i (404455424, 404455424), av_i (236590080, 236590080), av_i (788081664, 788081664), av_i (102419616, 102419616), av_i (407943168, 407943168), av_i (520271872, 520271872), av_i (72814592, 72814592), av_i (384273760, 384273760), av_i (284667488, 284667488), av_i (553242624, 553242624), av_i (86019232, 86019232), av_i (404360448, 404360448), av_i (109359232, 109359232), av_i (236453888, 236453888), av_i (614044672, 614044672), av_i (270106624, 270106624), av_i (721420288, 721420288), av_i (150714368, 150714368), av_i (656049733, 656049733), av_i (781784064, 781784064), av_i (780309888, 780309888), av_i (659011763, 659011763), av_i (609486279, 609486279), av_i (559296512, 559296512), av_i (211366912, 211366912), av_i (139640832, 139640832), av_i (679775584, 679775584), av_i (153600000, 153600000), av_i (777169920, 777169920), av_i (202780672, 202780672), av_i (48365568, 48365568), av_i (522190848, 522190848), av_i (486146048, 486146048)]),
  .inr (0, [av_r 51, av_r 54, av_i (0, 0), av_i (0, 0), av_i (0, 0), av_i (0, 0), av_i (0, 0), av_r 26]),
  .inl (0, List.replicate 73 (av_i (0, 0))),
  .inr (2, [av_r 56, av_r 57, av_r 58, av_i (-1, -1), av_i (0, 0)]),
  .inl (3, List.replicate 10 (av_l (0, 0))),
  .inl (3, List.replicate 64 (av_l (0, 0))),
  .inl (0, [av_i (0, 0), av_i (0, 0), av_i (0, 0)]),
  .inr (7, [av_i (24, 24), av_i (24, 24), av_i (20, 20), av_i (6, 6), av_i (18, 18), av_i (0, 0), av_i (0, 0), av_i (36, 36), av_i (8, 8), av_i (0, 0), av_i (1000, 1000), av_i (1000, 1000), av_i (0, 0), av_i (3000, 3000), av_i (0, 0), av_i (0, 0), av_r 60]),
  .inl (0, List.replicate 9 (av_i (0, 0))),
  .inl (4, [av_r 103, av_r 105, av_r 107, av_r 109]),
  .inl (4, [av_r 104, av_r 106, av_r 108, av_r 110]),
  .inr (10, [av_r 64, av_r 65, av_i (0, 0)]),
  .inl (4, [av_r 66, av_r 67, av_r 68, av_r 69, av_r 70, av_r 71, av_r 72, av_r 73, av_r 74, av_r 75, av_r 76, av_r 77, av_r 78, av_r 79, av_r 80, av_r 81, av_r 82, av_r 83, av_r 84, av_r 85]),
  .inl (0, List.replicate 20 (av_i (0, 0))),
  .inr (1, [av_r 59, av_i (0, 0), av_i (0, 0), av_i (0, 0), av_i (0, 0), av_i (0, 0), av_i (0, 0), av_i (0, 0), av_i (0, 0), av_i (0, 0), av_i (0, 0), av_i (0, 0), av_i (0, 0), av_i (0, 0), av_i (0, 0), av_i (0, 0), av_i (0, 0)]),
  .inr (1, [av_r 59, av_i (0, 0), av_i (0, 0), av_i (0, 0), av_i (0, 0), av_i (0, 0), av_i (0, 0), av_i (0, 0), av_i (0, 0), av_i (0, 0), av_i (0, 0), av_i (0, 0), av_i (0, 0), av_i (0, 0), av_i (0, 0), av_i (0, 0), av_i (0, 0)]),
  .inr (1, [av_r 59, av_i (0, 0), av_i (0, 0), av_i (0, 0), av_i (0, 0), av_i (0, 0), av_i (0, 0), av_i (0, 0), av_i (0, 0), av_i (0, 0), av_i (0, 0), av_i (0, 0), av_i (0, 0), av_i (0, 0), av_i (0, 0), av_i (0, 0), av_i (0, 0)]),
  .inr (1, [av_r 59, av_i (0, 0), av_i (0, 0), av_i (0, 0), av_i (0, 0), av_i (0, 0), av_i (0, 0), av_i (0, 0), av_i (0, 0), av_i (0, 0), av_i (0, 0), av_i (0, 0), av_i (0, 0), av_i (0, 0), av_i (0, 0), av_i (0, 0), av_i (0, 0)]),
  .inr (1, [av_r 59, av_i (0, 0), av_i (0, 0), av_i (0, 0), av_i (0, 0), av_i (0, 0), av_i (0, 0), av_i (0, 0), av_i (0, 0), av_i (0, 0), av_i (0, 0), av_i (0, 0), av_i (0, 0), av_i (0, 0), av_i (0, 0), av_i (0, 0), av_i (0, 0)]),
  .inr (1, [av_r 59, av_i (0, 0), av_i (0, 0), av_i (0, 0), av_i (0, 0), av_i (0, 0), av_i (0, 0), av_i (0, 0), av_i (0, 0), av_i (0, 0), av_i (0, 0), av_i (0, 0), av_i (0, 0), av_i (0, 0), av_i (0, 0), av_i (0, 0), av_i (0, 0)]),
  .inr (1, [av_r 59, av_i (0, 0), av_i (0, 0), av_i (0, 0), av_i (0, 0), av_i (0, 0), av_i (0, 0), av_i (0, 0), av_i (0, 0), av_i (0, 0), av_i (0, 0), av_i (0, 0), av_i (0, 0), av_i (0, 0), av_i (0, 0), av_i (0, 0), av_i (0, 0)]),
  .inr (1, [av_r 59, av_i (0, 0), av_i (0, 0), av_i (0, 0), av_i (0, 0), av_i (0, 0), av_i (0, 0), av_i (0, 0), av_i (0, 0), av_i (0, 0), av_i (0, 0), av_i (0, 0), av_i (0, 0), av_i (0, 0), av_i (0, 0), av_i (0, 0), av_i (0, 0)]),
  .inr (1, [av_r 59, av_i (0, 0), av_i (0, 0), av_i (0, 0), av_i (0, 0), av_i (0, 0), av_i (0, 0), av_i (0, 0), av_i (0, 0), av_i (0, 0), av_i (0, 0), av_i (0, 0), av_i (0, 0), av_i (0, 0), av_i (0, 0), av_i (0, 0), av_i (0, 0)]),
  .inr (1, [av_r 59, av_i (0, 0), av_i (0, 0), av_i (0, 0), av_i (0, 0), av_i (0, 0), av_i (0, 0), av_i (0, 0), av_i (0, 0), av_i (0, 0), av_i (0, 0), av_i (0, 0), av_i (0, 0), av_i (0, 0), av_i (0, 0), av_i (0, 0), av_i (0, 0)]),
  .inr (1, [av_r 59, av_i (0, 0), av_i (0, 0), av_i (0, 0), av_i (0, 0), av_i (0, 0), av_i (0, 0), av_i (0, 0), av_i (0, 0), av_i (0, 0), av_i (0, 0), av_i (0, 0), av_i (0, 0), av_i (0, 0), av_i (0, 0), av_i (0, 0), av_i (0, 0)]),
  .inr (1, [av_r 59, av_i (0, 0), av_i (0, 0), av_i (0, 0), av_i (0, 0), av_i (0, 0), av_i (0, 0), av_i (0, 0), av_i (0, 0), av_i (0, 0), av_i (0, 0), av_i (0, 0), av_i (0, 0), av_i (0, 0), av_i (0, 0), av_i (0, 0), av_i (0, 0)]),
  .inr (1, [av_r 59, av_i (0, 0), av_i (0, 0), av_i (0, 0), av_i (0, 0), av_i (0, 0), av_i (0, 0), av_i (0, 0), av_i (0, 0), av_i (0, 0), av_i (0, 0), av_i (0, 0), av_i (0, 0), av_i (0, 0), av_i (0, 0), av_i (0, 0), av_i (0, 0)]),
  .inr (1, [av_r 59, av_i (0, 0), av_i (0, 0), av_i (0, 0), av_i (0, 0), av_i (0, 0), av_i (0, 0), av_i (0, 0), av_i (0, 0), av_i (0, 0), av_i (0, 0), av_i (0, 0), av_i (0, 0), av_i (0, 0), av_i (0, 0), av_i (0, 0), av_i (0, 0)]),
  .inr (1, [av_r 59, av_i (0, 0), av_i (0, 0), av_i (0, 0), av_i (0, 0), av_i (0, 0), av_i (0, 0), av_i (0, 0), av_i (0, 0), av_i (0, 0), av_i (0, 0), av_i (0, 0), av_i (0, 0), av_i (0, 0), av_i (0, 0), av_i (0, 0), av_i (0, 0)]),
  .inr (1, [av_r 59, av_i (0, 0), av_i (0, 0), av_i (0, 0), av_i (0, 0), av_i (0, 0), av_i (0, 0), av_i (0, 0), av_i (0, 0), av_i (0, 0), av_i (0, 0), av_i (0, 0), av_i (0, 0), av_i (0, 0), av_i (0, 0), av_i (0, 0), av_i (0, 0)]),
  .inr (1, [av_r 59, av_i (0, 0), av_i (0, 0), av_i (0, 0), av_i (0, 0), av_i (0, 0), av_i (0, 0), av_i (0, 0), av_i (0, 0), av_i (0, 0), av_i (0, 0), av_i (0, 0), av_i (0, 0), av_i (0, 0), av_i (0, 0), av_i (0, 0), av_i (0, 0)]),
  .inr (1, [av_r 59, av_i (0, 0), av_i (0, 0), av_i (0, 0), av_i (0, 0), av_i (0, 0), av_i (0, 0), av_i (0, 0), av_i (0, 0), av_i (0, 0), av_i (0, 0), av_i (0, 0), av_i (0, 0), av_i (0, 0), av_i (0, 0), av_i (0, 0), av_i (0, 0)]),
  .inr (1, [av_r 59, av_i (0, 0), av_i (0, 0), av_i (0, 0), av_i (0, 0), av_i (0, 0), av_i (0, 0), av_i (0, 0), av_i (0, 0), av_i (0, 0), av_i (0, 0), av_i (0, 0), av_i (0, 0), av_i (0, 0), av_i (0, 0), av_i (0, 0), av_i (0, 0)]),
  .inr (1, [av_r 59, av_i (0, 0), av_i (0, 0), av_i (0, 0), av_i (0, 0), av_i (0, 0), av_i (0, 0), av_i (0, 0), av_i (0, 0), av_i (0, 0), av_i (0, 0), av_i (0, 0), av_i (0, 0), av_i (0, 0), av_i (0, 0), av_i (0, 0), av_i (0, 0)]),
  .inr (3, [av_r 87, av_r 88, av_r 89, av_r 90, av_r 91, av_r 92, av_r 93, av_r 94, av_i (0, 0), av_i (0, 0), av_i (-1, -1)]),
  .inl (0, List.replicate 40 (av_i (0, 0))),
  .inl (0, List.replicate 40 (av_i (0, 0))),
  .inl (0, List.replicate 40 (av_i (0, 0))),
  .inl (0, List.replicate 40 (av_i (0, 0))),
  .inl (0, List.replicate 40 (av_i (0, 0))),
  .inl (0, List.replicate 40 (av_i (0, 0))),
  .inl (2, List.replicate 40 (av_i (0, 0))),
  .inl (0, List.replicate 40 (av_i (0, 0))),
  .inr (8, [av_r 96, av_r 97, av_i (0, 0)]),
  .inl (0, List.replicate 28 (av_i (0, 0))),
  .inr (1, [av_r 59, av_i (0, 0), av_i (0, 0), av_i (0, 0), av_i (0, 0), av_i (0, 0), av_i (0, 0), av_i (0, 0), av_i (0, 0), av_i (0, 0), av_i (0, 0), av_i (0, 0), av_i (0, 0), av_i (0, 0), av_i (0, 0), av_i (0, 0), av_i (0, 0)]),
  .inr (1, [av_r 59, av_i (0, 0), av_i (0, 0), av_i (0, 0), av_i (0, 0), av_i (0, 0), av_i (0, 0), av_i (0, 0), av_i (0, 0), av_i (0, 0), av_i (0, 0), av_i (0, 0), av_i (0, 0), av_i (0, 0), av_i (0, 0), av_i (0, 0), av_i (0, 0)]),
  .inr (9, [av_r 100, av_r 101, av_r 102, av_i (0, 0)]),
  .inl (0, List.replicate 16 (av_i (0, 0))),
  .inl (0, List.replicate 4 (av_i (0, 0))),
  .inl (0, List.replicate 4 (av_i (0, 0))),
  .inr (1, [av_r 59, av_i (0, 0), av_i (0, 0), av_i (0, 0), av_i (0, 0), av_i (0, 0), av_i (0, 0), av_i (0, 0), av_i (0, 0), av_i (0, 0), av_i (0, 0), av_i (0, 0), av_i (0, 0), av_i (0, 0), av_i (0, 0), av_i (0, 0), av_i (0, 0)]),
  .inr (1, [av_r 59, av_i (0, 0), av_i (0, 0), av_i (0, 0), av_i (0, 0), av_i (0, 0), av_i (0, 0), av_i (0, 0), av_i (0, 0), av_i (0, 0), av_i (0, 0), av_i (0, 0), av_i (0, 0), av_i (0, 0), av_i (0, 0), av_i (0, 0), av_i (0, 0)]),
  .inr (1, [av_r 59, av_i (0, 0), av_i (0, 0), av_i (0, 0), av_i (0, 0), av_i (0, 0), av_i (0, 0), av_i (0, 0), av_i (0, 0), av_i (0, 0), av_i (0, 0), av_i (0, 0), av_i (0, 0), av_i (0, 0), av_i (0, 0), av_i (0, 0), av_i (0, 0)]),
  .inr (1, [av_r 59, av_i (0, 0), av_i (0, 0), av_i (0, 0), av_i (0, 0), av_i (0, 0), av_i (0, 0), av_i (0, 0), av_i (0, 0), av_i (0, 0), av_i (0, 0), av_i (0, 0), av_i (0, 0), av_i (0, 0), av_i (0, 0), av_i (0, 0), av_i (0, 0)]),
  .inr (1, [av_r 59, av_i (0, 0), av_i (0, 0), av_i (0, 0), av_i (0, 0), av_i (0, 0), av_i (0, 0), av_i (0, 0), av_i (0, 0), av_i (0, 0), av_i (0, 0), av_i (0, 0), av_i (0, 0), av_i (0, 0), av_i (0, 0), av_i (0, 0), av_i (0, 0)]),
  .inr (1, [av_r 59, av_i (0, 0), av_i (0, 0), av_i (0, 0), av_i (0, 0), av_i (0, 0), av_i (0, 0), av_i (0, 0), av_i (0, 0), av_i (0, 0), av_i (0, 0), av_i (0, 0), av_i (0, 0), av_i (0, 0), av_i (0, 0), av_i (0, 0), av_i (0, 0)]),
  .inr (1, [av_r 59, av_i (0, 0), av_i (0, 0), av_i (0, 0), av_i (0, 0), av_i (0, 0), av_i (0, 0), av_i (0, 0), av_i (0, 0), av_i (0, 0), av_i (0, 0), av_i (0, 0), av_i (0, 0), av_i (0, 0), av_i (0, 0), av_i (0, 0), av_i (0, 0)]),
  .inr (1, [av_r 59, av_i (0, 0), av_i (0, 0), av_i (0, 0), av_i (0, 0), av_i (0, 0), av_i (0, 0), av_i (0, 0), av_i (0, 0), av_i (0, 0), av_i (0, 0), av_i (0, 0), av_i (0, 0), av_i (0, 0), av_i (0, 0), av_i (0, 0), av_i (0, 0)]),
  .inr (12, [av_r 112, av_i (0, 0), av_i (0, 0), av_r 113, av_i (0, 0), av_i (-1, -1), av_i (0, 0), av_i (0, 0), av_i (0, 0), av_i (0, 0), av_i (0, 0), av_i (0, 0), av_i (0, 0), av_i (0, 0), av_i (0, 0), av_i (0, 0), av_i (0, 0), av_i (0, 0), av_i (0, 0), av_i (0, 0), av_i (0, 0), av_r 114, av_r 115, av_r 116, av_r 117, av_r 118, av_r 119, av_r 120, av_r 121, av_r 122, av_r 123, av_r 124, av_r 125, av_r 126, av_r 127, av_r 128, av_r 129, av_i (0, 0), av_i (0, 0), av_i (0, 0), av_i (0, 0), av_i (0, 0), av_i (0, 0), av_i (0, 0), av_r 130, av_r 131, av_r 132, av_r 133, av_i (0, 0), av_r 134, av_i (0, 0), av_r 135, av_i (0, 0), av_i (-1, -1), av_r 136, av_r 137, av_r 138, av_r 139, av_r 140, av_r 141, av_r 142, av_r 143, av_r 144, av_r 145, av_r 146, av_r 147, av_i (0, 0), av_i (0, 0), av_r 148]),
  .inl (0, List.replicate 900 (av_i (0, 0))),
  .inl (0, [av_i (103, 103), av_i (114, 114), av_i (111, 111), av_i (117, 117), av_i (110, 110), av_i (100, 100), av_i (32, 32), av_i (108, 108), av_i (97, 97), av_i (119, 119), av_i (32, 32), av_i (103, 103), av_i (97, 97), av_i (116, 116), av_i (101, 101), av_i (32, 32), av_i (119, 119), av_i (111, 111), av_i (114, 114), av_i (107, 107), av_i (32, 32), av_i (99, 99), av_i (97, 97), av_i (117, 117), av_i (115, 115), av_i (101, 101), av_i (32, 32), av_i (108, 108), av_i (101, 101), av_i (97, 97), av_i (110, 110), av_i (32, 32), av_i (111, 111), av_i (112, 112), av_i (101, 101), av_i (110, 110), av_i (32, 32), av_i (98, 98), av_i (101, 101), av_i (110, 110), av_i (100, 100), av_i (32, 32), av_i (107, 107), av_i (110, 110), av_i (111, 111), av_i (99, 99), av_i (107, 107), av_i (32, 32), av_i (104, 104), av_i (111, 111), av_i (111, 111), av_i (107, 107), av_i (115, 115), av_i (32, 32), av_i (112, 112), av_i (111, 111), av_i (115, 115), av_i (116, 116), av_i (32, 32), av_i (98, 98), av_i (114, 114), av_i (97, 97), av_i (99, 99), av_i (101, 101), av_i (32, 32), av_i (108, 108), av_i (97, 97), av_i (116, 116), av_i (99, 99), av_i (104, 104), av_i (32, 32), av_i (103, 103), av_i (97, 97), av_i (112, 112), av_i (32, 32), av_i (114, 114), av_i (105, 105), av_i (115, 115), av_i (101, 101), av_i (32, 32), av_i (104, 104), av_i (97, 97), av_i (115, 115), av_i (32, 32), av_i (115, 115), av_i (113, 113), av_i (117, 117), av_i (97, 97), av_i (114, 114), av_i (101, 101), av_i (32, 32), av_i (119, 119), av_i (105, 105), av_i (114, 114), av_i (101, 101), av_i (32, 32), av_i (119, 119), av_i (104, 104), av_i (101, 101), av_i (101, 101), av_i (108, 108), av_i (32, 32), av_i (115, 115), av_i (116, 116), av_i (111, 111), av_i (110, 110), av_i (101, 101), av_i (115, 115), av_i (32, 32), av_i (114, 114), av_i (101, 101), av_i (104, 104), av_i (97, 97), av_i (110, 110), av_i (103, 103), av_i (32, 32), av_i (97, 97), av_i (110, 110), av_i (100, 100), av_i (32, 32), av_i (111, 111), av_i (114, 114), av_i (32, 32), av_i (110, 110), av_i (111, 111), av_i (116, 116), av_i (32, 32), av_i (112, 112), av_i (117, 117), av_i (108, 108), av_i (108, 108), av_i (32, 32), av_i (102, 102), av_i (105, 105), av_i (114, 114), av_i (109, 109), av_i (32, 32), av_i (100, 100), av_i (101, 101), av_i (101, 101), av_i (112, 112), av_i (32, 32), av_i (116, 116), av_i (104, 104), av_i (105, 105), av_i (99, 99), av_i (107, 107), av_i (32, 32), av_i (117, 117), av_i (112, 112), av_i (32, 32), av_i (100, 100), av_i (111, 111), av_i (119, 119), av_i (110, 110), av_i (32, 32), av_i (100, 100), av_i (114, 114), av_i (111, 111), av_i (112, 112), av_i (32, 32), av_i (119, 119), av_i (101, 101), av_i (101, 101), av_i (107, 107), av_i (32, 32), av_i (99, 99), av_i (104, 104), av_i (105, 105), av_i (108, 108), av_i (100, 100), av_i (32, 32), av_i (102, 102), av_i (97, 97), av_i (108, 108), av_i (108, 108), av_i (32, 32)]),
  .inl (0, List.replicate 24 (av_i (50, 50))),
  .inl (0, List.replicate 8 (av_i (0, 0))),
  .inl (0, List.replicate 8 (av_i (0, 0))),
  .inl (2, List.replicate 8 (av_i (0, 0))),
  .inl (0, List.replicate 8 (av_i (0, 0))),
  .inl (0, List.replicate 128 (av_i (0, 0))),
  .inl (0, List.replicate 72 (av_i (0, 0))),
  .inl (0, List.replicate 12 (av_i (0, 0))),
  .inl (0, List.replicate 36 (av_i (0, 0))),
  .inl (0, List.replicate 12 (av_i (0, 0))),
  .inl (0, List.replicate 36 (av_i (0, 0))),
  .inl (0, List.replicate 128 (av_i (0, 0))),
  .inl (0, List.replicate 128 (av_i (0, 0))),
  .inl (0, List.replicate 128 (av_i (0, 0))),
  .inl (0, List.replicate 96 (av_i (0, 0))),
  .inl (0, List.replicate 96 (av_i (0, 0))),
  .inl (0, List.replicate 64 (av_i (0, 0))),
  .inl (0, List.replicate 16 (av_i (0, 0))),
  .inl (3, List.replicate 10 (av_l (0, 0))),
  .inl (3, List.replicate 64 (av_l (0, 0))),
  .inl (3, [av_l (0, 0), av_l (0, 0), av_l (0, 0)]),
  .inl (0, List.replicate 340 (av_i (0, 0))),
  .inl (0, List.replicate 40 (av_i (0, 0))),
  .inl (0, List.replicate 40 (av_i (0, 0))),
  .inl (0, List.replicate 40 (av_i (0, 0))),
  .inl (0, List.replicate 40 (av_i (0, 0))),
  .inl (0, List.replicate 40 (av_i (0, 0))),
  .inl (2, List.replicate 40 (av_i (0, 0))),
  .inl (0, List.replicate 7 (av_i (0, 0))),
  .inl (0, [av_i (1000, 1000), av_i (924, 924), av_i (707, 707), av_i (383, 383), av_i (0, 0), av_i (-383, -383), av_i (-707, -707), av_i (-924, -924), av_i (-1000, -1000)]),
  .inl (0, [av_i (0, 0), av_i (383, 383), av_i (707, 707), av_i (924, 924), av_i (1000, 1000), av_i (924, 924), av_i (707, 707), av_i (383, 383), av_i (0, 0)]),
  .inl (0, List.replicate 4 (av_i (0, 0))),
  .inl (0, List.replicate 4 (av_i (0, 0))),
  .inl (0, List.replicate 64 (av_i (0, 0))),
  .inl (0, List.replicate 64 (av_i (0, 0))),
  .inl (3, [av_l (0, 0)])]
def ob_11 : av_C := .inr (11, (fk_all.getD 11 []).map av_dfl)
def ob_12 : av_C := .inr (12, (fk_all.getD 12 []).map av_dfl)
end
section
/-! ===== the constructors run ===== -/
set_option maxRecDepth 1000000 in
set_option maxHeartbeats 0 in
theorem rn_X11 : av_isv (av_run fk_all mt_all 20000 (wd_bytes, none) 28 op_X11_init (0, [(0, av_r 0)], [], [ob_11], 0, 0)) hp_1 = true := by decide +kernel
set_option maxRecDepth 1000000 in
set_option maxHeartbeats 0 in
theorem rn_X12 : av_isv (av_run fk_all mt_all 20000 (wd_bytes, none) 71 op_X12_init (0, [(0, av_r 111)], [], hp_1 ++ [ob_12], 0, 0)) hp_2 = true := by decide +kernel
end
section
/-! ===== the law, a call on fresh objects: every call ===== -/
def lw_loc : av_L := [(4, av_i (0, 0)), (3, av_r 149), (2, av_r 111), (1, av_r 0), (0, av_s 2)]
def av_cut (lo : Int) : List Int → List (Int × Int)
  | [] => [(lo, 2147483647)]
  | c :: l => (lo, c - 1) :: av_cut c l
def lw_cuts (k : Nat) : List Int := match k with
  | 1 => [0, 1]
  | 2 => [0, 1, 2]
  | 6 => [0, 2000]
  | 7 => (List.range 522).map Int.ofNat
  | 21 => [-1, 1]
  | 35 => [0, 1, 2, 3, 4, 5, 6, 7, 8, 9]
  | _ => [0]
def lw_row (b : Int × Int) : List av_V := [av_i av_top, av_i b, av_i av_top, av_i av_top, av_i av_top, av_i av_top]
noncomputable def lw_ck (k : Nat) (b : Int × Int) : Bool := lw_ends (av_run fk_all mt_all 5000 (wd_bytes, some (lw_row b)) 128 (av_from 40 op_L_law) (40, lw_loc, [av_i (Int.ofNat k, Int.ofNat k)], hp_3, 150, 5612))
noncomputable def lw_ck4 (b : Int × Int) : Bool := lw_ends (av_run fk_all mt_all 5000 (wd_bytes, some (lw_row b)) 128 (av_from 377 op_L_law) (377, lw_loc, [av_i (1, 1)], hp_3, 170, 5812))
end
section
/-! ===== what the law's start gives: classes, texts, statics ===== -/
theorem st_in {w : Jvm.Cond} (h : w ∈ av_T) : w ∈ lw_tbl := (List.mem_filter.mp h).1
theorem st_arr {args : Array Value} {s : State} {ty : FieldType} (h : (Jvm.Cond.arrayClass ty).before args s = true) : ∃ cA : ClassId, ArrOfT s cA ty ∧ s.vm.findClass ("[" ++ ty.toString) = some cA := by
  obtain ⟨cA, kA, comp, h1, h2, h3⟩ := Cond.arrayClass_spec (args := args) (first := s) (o := none) (s := s) (idx := []) h
  exact ⟨cA, fun n z => ⟨fun k h => (by cases h), kA, h2, comp, h3⟩, h1⟩
theorem st_over {args : Array Value} {s : State} {C : String} (h : (Jvm.Cond.arrayOver (.object C)).before args s = true) : ∃ cA : ClassId, ArrOfT s cA (.object C) ∧ va_RA s cA (.object C) := by
  obtain ⟨comp, cA, kA, h1, h2, h3, h4, h5⟩ := Cond.arrayOver_spec (args := args) (first := s) (o := none) (s := s) (idx := []) h
  exact ⟨cA, fun n z => ⟨fun k h => (by cases h), kA, h3, comp, h4⟩, kA, comp, h3, h4, h1, h5⟩
theorem st_K {args : Array Value} {s : State} (hts : ∀ w ∈ lw_tbl, w.before args s = true) : ∃ (D : va_G) (cy : Nat → ClassId), va_K D vwCl (av_tys cy) s := by
  obtain ⟨c0, i0, h0⟩ := u_known (C := RX0) (T := TX0) (N := 8) (n := 8) hts (fun w hw => st_in (in_X0 w hw)) (hts (.instantiable RX0 8) (st_in (av_in_ok (h := (2, 98)) (by decide +kernel))))
  obtain ⟨c1, i1, h1⟩ := u_known (C := RX1) (T := TX1) (N := 17) (n := 17) hts (fun w hw => st_in (in_X1 w hw)) (hts (.instantiable RX1 17) (st_in (av_in_ok (h := (2, 185)) (by decide +kernel))))
  obtain ⟨c2, i2, h2⟩ := u_known (C := RX2) (T := TX2) (N := 5) (n := 5) hts (fun w hw => st_in (in_X2 w hw)) (hts (.instantiable RX2 5) (st_in (av_in_ok (h := (2, 151)) (by decide +kernel))))
  obtain ⟨c3, i3, h3⟩ := u_known (C := RX3) (T := TX3) (N := 11) (n := 11) hts (fun w hw => st_in (in_X3 w hw)) (hts (.instantiable RX3 11) (st_in (av_in_ok (h := (3, 31)) (by decide +kernel))))
  obtain ⟨c4, i4, h4⟩ := u_known (C := RX4) (T := TX4) (N := 20) (n := 20) hts (fun w hw => st_in (in_X4 w hw)) (hts (.instantiable RX4 20) (st_in (av_in_ok (h := (1, 34)) (by decide +kernel))))
  obtain ⟨c5, i5, h5⟩ := u_known (C := RX5) (T := TX5) (N := 6) (n := 6) hts (fun w hw => st_in (in_X5 w hw)) (hts (.instantiable RX5 6) (st_in (av_in_ok (h := (2, 7)) (by decide +kernel))))
  obtain ⟨c6, i6, h6⟩ := u_known (C := RX6) (T := TX6) (N := 7) (n := 7) hts (fun w hw => st_in (in_X6 w hw)) (hts (.instantiable RX6 7) (st_in (av_in_ok (h := (2, 13)) (by decide +kernel))))
  obtain ⟨c7, i7, h7⟩ := u_known (C := RX7) (T := TX7) (N := 17) (n := 17) hts (fun w hw => st_in (in_X7 w hw)) (hts (.instantiable RX7 17) (st_in (av_in_ok (h := (1, 41)) (by decide +kernel))))
  obtain ⟨c8, i8, h8⟩ := u_known (C := RX8) (T := TX8) (N := 3) (n := 3) hts (fun w hw => st_in (in_X8 w hw)) (hts (.instantiable RX8 3) (st_in (av_in_ok (h := (3, 74)) (by decide +kernel))))
  obtain ⟨c9, i9, h9⟩ := u_known (C := RX9) (T := TX9) (N := 4) (n := 4) hts (fun w hw => st_in (in_X9 w hw)) (hts (.instantiable RX9 4) (st_in (av_in_ok (h := (3, 94)) (by decide +kernel))))
  obtain ⟨c10, i10, h10⟩ := u_known (C := RX10) (T := TX10) (N := 3) (n := 3) hts (fun w hw => st_in (in_X10 w hw)) (hts (.instantiable RX10 3) (st_in (av_in_ok (h := (2, 179)) (by decide +kernel))))
  obtain ⟨c11, i11, h11⟩ := u_known (C := RX11) (T := TX11) (N := 16) (n := 16) hts (fun w hw => st_in (in_X11 w hw)) (hts (.instantiable RX11 16) (st_in (av_in_ok (h := (1, 26)) (by decide +kernel))))
  obtain ⟨c12, i12, h12⟩ := u_known (C := RX12) (T := TX12) (N := 69) (n := 69) hts (fun w hw => st_in (in_X12 w hw)) (hts (.instantiable RX12 69) (st_in (av_in_ok (h := (6, 154)) (by decide +kernel))))
  obtain ⟨y0, a0, b0⟩ := st_arr (hts (.arrayClass .int) (st_in (av_in_ok (h := (1, 142)) (by decide +kernel))))
  obtain ⟨y1, a1, b1⟩ := st_arr (hts (.arrayClass .byte) (st_in (av_in_ok (h := (1, 141)) (by decide +kernel))))
  obtain ⟨y2, a2, b2⟩ := st_arr (hts (.arrayClass .boolean) (st_in (av_in_ok (h := (3, 72)) (by decide +kernel))))
  obtain ⟨y3, a3, b3⟩ := st_arr (hts (.arrayClass .long) (st_in (av_in_ok (h := (2, 173)) (by decide +kernel))))
  obtain ⟨y4, a4, b4⟩ := st_over (hts (.arrayOver (.object "SagGates$Gate")) (av_pt_in (k := 2) (List.mem_of_getElem? (i := 177) (by decide +kernel))))
  obtain ⟨y5, a5, b5⟩ := st_over (hts (.arrayOver (.object "SagGates$Told")) (av_pt_in (k := 1) (List.mem_of_getElem? (i := 40) (by decide +kernel))))
  refine ⟨(fun k => [c0, c1, c2, c3, c4, c5, c6, c7, c8, c9, c10, c11, c12].getD k c0, fun k => [i0, i1, i2, i3, i4, i5, i6, i7, i8, i9, i10, i11, i12].getD k i0), fun k => [y0, y1, y2, y3, y4, y5].getD k y0, fun k q hq => ?_, fun k q hq => ?_⟩
  · match k, hq with
    | 0, hq => cases hq; exact h0
    | 1, hq => cases hq; exact h1
    | 2, hq => cases hq; exact h2
    | 3, hq => cases hq; exact h3
    | 4, hq => cases hq; exact h4
    | 5, hq => cases hq; exact h5
    | 6, hq => cases hq; exact h6
    | 7, hq => cases hq; exact h7
    | 8, hq => cases hq; exact h8
    | 9, hq => cases hq; exact h9
    | 10, hq => cases hq; exact h10
    | 11, hq => cases hq; exact h11
    | 12, hq => cases hq; exact h12
    | k + 13, hq => exact absurd hq (by show ¬ ([] : List vw_C)[k]? = some q; simp)
  · match k, hq with
    | 0, hq => cases hq; exact ⟨a0, b0⟩
    | 1, hq => cases hq; exact ⟨a1, b1⟩
    | 2, hq => cases hq; exact ⟨a2, b2⟩
    | 3, hq => cases hq; exact ⟨a3, b3⟩
    | 4, hq => cases hq; exact ⟨a4, b4⟩
    | 5, hq => cases hq; exact ⟨a5, b5⟩
    | k + 6, hq => exact absurd hq (by show ¬ ([] : List (ClassId × FieldType))[k]? = some q; simp)
def wd_ints : List Int32 := [103, 114, 111, 117, 110, 100, 32, 108, 97, 119, 32, 103, 97, 116, 101, 32, 119, 111, 114, 107, 32, 99, 97, 117, 115, 101, 32, 108, 101, 97, 110, 32, 111, 112, 101, 110, 32, 98, 101, 110, 100, 32, 107, 110, 111, 99, 107, 32, 104, 111, 111, 107, 115, 32, 112, 111, 115, 116, 32, 98, 114, 97, 99, 101, 32, 108, 97, 116, 99, 104, 32, 99, 104, 105, 108, 100, 32, 103, 97, 112, 32, 114, 105, 115, 101, 32, 104, 97, 115, 32, 117, 112, 32, 100, 111, 119, 110, 32, 115, 113, 117, 97, 114, 101, 32, 119, 105, 114, 101, 32, 119, 104, 101, 101, 108, 32, 115, 116, 111, 110, 101, 115, 32, 114, 101, 104, 97, 110, 103, 32, 112, 117, 108, 108, 32, 102, 105, 114, 109, 32, 100, 101, 101, 112, 32, 116, 104, 105, 99, 107, 32, 100, 114, 111, 112, 32, 119, 101, 101, 107, 32, 102, 97, 108, 108, 32, 97, 110, 100, 32, 111, 114, 32, 110, 111, 116, 32]
theorem st_wd : ∀ j, j < 177 → (flatC (Jvm.Cond.and given_1 narrow_1))[67 + j]? = some (Jvm.Cond.eq (.elem (.field (Jvm.Term.string "SagGates$Tokens" 19) "java/lang/String" "value" "[B") (.int (Int32.ofNat j))) (.int (wd_ints.getD j 0))) := by
  have h : ((List.range 177).all fun j => decide ((flatC (Jvm.Cond.and given_1 narrow_1))[67 + j]? = some (Jvm.Cond.eq (.elem (.field (Jvm.Term.string "SagGates$Tokens" 19) "java/lang/String" "value" "[B") (.int (Int32.ofNat j))) (.int (wd_ints.getD j 0))))) = true := by decide +kernel
  intro j hj
  exact of_decide_eq_true (List.all_eq_true.mp h j (List.mem_range.mpr hj))
theorem st_by : ∀ k, k < 177 → wd_bytes[k]? = some (av_i ((wd_ints.getD k 0).toInt, (wd_ints.getD k 0).toInt)) := by
  have h : av_lb wd_bytes (wd_ints.map fun n => av_i (n.toInt, n.toInt)) = true := by decide +kernel
  have hl : wd_ints.length = 177 := by decide +kernel
  intro k hk
  rw [av_lb_ok h, List.getElem?_map, List.getElem?_eq_getElem (by omega)]
  rw [List.getD_eq_getElem?_getD, List.getElem?_eq_getElem (by omega)]
  rfl
theorem st_SF {b L : Nat} {xs : Nat → Int32} {s : State} (hts : ∀ w ∈ lw_tbl, w.before #[Value.ref b] s = true) (hgv : (Jvm.Cond.and given_1 narrow_1).before #[Value.ref b] s = true) (hX : va_X b L xs s s.heap) (hbl : b < s.heap.size) :
    ∃ sv : Nat → Value, sv 2 = .ref b ∧ ∀ ys : List av_V, ys.length = L → (∀ (k : Nat) (v : av_V), ys[k]? = some v → av_dn sv [] v (.int (xs k))) → av_SF (fun q => s.heap.size ≤ q) sv (wd_bytes, some ys) s s.heap := by
  have hs := flat_of_before _ hgv
  have hA : ∀ a : Nat, a < s.heap.size → ¬ (fun q : Nat => s.heap.size ≤ q) a := fun a h => Nat.not_le.mpr h
  have hstr : (Jvm.Cond.stringRef "SagGates$Tokens" 19 av_wd).before #[Value.ref b] s = true := hts _ (av_pt_in (k := 2) (List.mem_of_getElem? (i := 18) (by decide +kernel)))
  obtain ⟨adK, adV, hSt, hev⟩ := vk_Sof (args := #[Value.ref b]) (s := s) (N := 1) (tm := fun _ => Jvm.Term.string "SagGates$Tokens" 19) (len := [177]) (byt := [wd_ints]) (A := fun q => s.heap.size ≤ q) (fun i hi => by (obtain rfl : i = 0 := by omega); decide)
    (fun i _ => hs _ (by decide +kernel)) (fun i _ => hs _ (by decide +kernel)) (fun i _ => hs _ (by decide +kernel)) (fun i hi => by (obtain rfl : i = 0 := by omega); exact hs _ (by decide +kernel))
    (fun i hi j hj => by
      have : i = 0 := by omega
      subst this
      exact hs _ (List.mem_of_getElem? (st_wd j hj)))
    (fun i j hi hj hij => absurd (by omega) hij) hA
  obtain ⟨w1, w2, w3, w4⟩ := hSt.1 0 (by decide)
  have hz1 := va_Zof (A := fun q => s.heap.size ≤ q) (hts (.laysStatic "java/lang/String" "COMPACT_STRINGS" "Z") (av_pt_in (k := 2) (List.mem_of_getElem? (i := 28) (by decide +kernel)))) (hts (.initialized "java/lang/String") (st_in (av_in_ok (h := (1, 6)) (by decide +kernel)))) (va_eqi (hs (.eq (.static "java/lang/String" "COMPACT_STRINGS" "Z") (.int 1)) (by decide +kernel))) hA
  have hz2 := va_Zqof (A := fun q => s.heap.size ≤ q) (hts (.laysStatic "jdk/internal/util/Preconditions" "SIOOBE_FORMATTER" "Ljava/util/function/BiFunction;") (av_pt_in (k := 2) (List.mem_of_getElem? (i := 44) (by decide +kernel)))) (hts (.initialized "jdk/internal/util/Preconditions") (st_in (av_in_ok (h := (1, 8)) (by decide +kernel)))) (hs (.isRef (.static "jdk/internal/util/Preconditions" "SIOOBE_FORMATTER" "Ljava/util/function/BiFunction;")) (by decide +kernel)) hA
  obtain ⟨fv, hfv, hz3⟩ : ∃ fv : Value, (fv = .null ∨ ∃ a, fv = .ref a) ∧ va_Z "jdk/internal/util/Preconditions" "SIOOBE_FORMATTER" "Ljava/util/function/BiFunction;" fv (fun q => s.heap.size ≤ q) s s.heap := by
    rcases hz2 with h | ⟨t, h⟩
    · exact ⟨_, .inl rfl, h⟩
    · exact ⟨_, .inr ⟨t, rfl⟩, h⟩
  have hnest : ∀ q ∈ av_nest, va_Nw (.methodLinkNest RX11 q.1 q.2 RX11) s := by
    intro q hq
    have hm : ∀ q ∈ av_nest, Jvm.Cond.methodLinkNest RX11 q.1 q.2 RX11 ∈ lw_tbl := by decide +kernel
    exact va_Nw.of rfl (hts _ (hm q hq))
  refine ⟨fun j => match j with
    | 0 => .ref (adK 0)
    | 1 => .ref (adV 0)
    | 2 => .ref b
    | _ => fv, rfl, fun ys hys hyv => ⟨fun j => ?_, ⟨adK 0, adV 0, rfl, rfl, vk_R.of hstr (hev 0 (by decide)), w1, w3, w2, fun j => wd_ints.getD j 0, w4, ?_⟩, hz1, hz3, ⟨hnest, va_AO.of (hts (.arrayOver (.object "SagGates$Gate")) (av_pt_in (k := 2) (List.mem_of_getElem? (i := 177) (by decide +kernel)))), va_AO.of (hts (.arrayOver (.object "SagGates$Told")) (av_pt_in (k := 1) (List.mem_of_getElem? (i := 40) (by decide +kernel))))⟩, ?_⟩⟩
  · match j with
    | 0 => exact .inr ⟨_, rfl⟩
    | 1 => exact .inr ⟨_, rfl⟩
    | 2 => exact .inr ⟨_, rfl⟩
    | j + 3 => exact hfv
  · intro k v hk
    have hb := st_by
    have hlt : k < 177 := (List.getElem?_eq_some_iff.mp hk).1
    cases (hb k hlt).symm.trans hk
    exact ⟨_, rfl, Int.le_refl _, Int.le_refl _⟩
  · intro ys' hys'
    cases hys'
    exact ⟨b, xs, rfl, by rw [hys]; exact hX, hbl, Nat.not_le.mpr hbl, hyv⟩
end
section
def R_law : String := "SagGatesLaw"
def lw_P (b : Addr) (xs : List Int32) (args : Array Value) (s : State) : Prop := args = #[.ref b] ∧ s.IntsAt b xs ∧ xs.length ≤ 6 ∧ (Jvm.Cond.and given_1 narrow_1).before args s = true
def lw_Q (_ : Array Value) (s : State) (o : Outcome) (t : State) : Prop := o = .returned (some (.int 1)) ∧ Framed s o t [] 600002 7302232
def lw_Z (below : List Frame) (a : Array Value) (s : State) : State → Prop := fun t => ∃ o, t.status = .running ∧ Ended t below o ∧ lw_Q a s o t
/-- the law's own end, with 1 on the stack, nothing written that was there before, its room as the claim has it -/
theorem lw_ret {p : Program} {l : Launch} {e : Env} {s : State} {m : MethodId} {below : List Frame} {meth : Method} {c : Code} {b : Nat} (hx : p.tables.exec = Jvm.exec) (hb : c.code = code) (hr : meth.sig.returnType = ret) (hlocks : meth.locks = false) {pc : Nat} {H : Heap} {ls : Array Slot} (hdg : decode code pc = .ok (.ireturn, 1)) : W p l e room_1 s m #[Value.ref b] below meth c H [] 600002 7302232 (lw_Z below #[Value.ref b] s) (F0 m pc ls [.int 1]) := by
  intro T hT X
  obtain ⟨fs, hret, hrun, hended, hW, hframe⟩ := X.leave (v := some (.int 1)) (hlocks := hlocks) (fun h => by rw [hr] at h; cases h)
  have hmeth' : T.vm.method? m = some meth := X.method'
  refine ⟨T.setFrames fs, ?_, .returned (some (.int 1)), hrun, hended, rfl, ⟨_, rfl⟩, hW, hframe⟩
  jvm_step X.here [X.here.top, hx, hb, hdg, hmeth', hr, ret, narrow_b1]
  (try refine ⟨rfl, ?_⟩); (try refine ⟨rfl, ?_⟩)
  first | (intro acts; rw [hret _ acts rfl rfl rfl]) | rw [hret _ _ rfl rfl rfl]
  exact Steps.refl _
/-- what holds at the law's entry: the machine, the code, the tables' words (any of lw_tbl by 'hts w (by decide +kernel)'), the script of L ints xs at the cell b, what the Statement gives of the start (any of its parts by flat_of_before) -/
def lw_At (p : Program) (s : State) (m : MethodId) (meth : Method) (c : Code) (b L : Nat) (xs : Nat → Int32) : Prop :=
  p.tables.exec = Jvm.exec ∧ c.code = code ∧ meth.sig.returnType = ret ∧ c.maxLocals = 7 ∧ s.vm.findClass R_law = some m.cls ∧ (∀ w ∈ lw_tbl, w.before #[Value.ref b] s = true) ∧ va_X b L xs s s.heap ∧ b < s.heap.size ∧ meth.locks = false ∧ (Jvm.Cond.and given_1 narrow_1).before #[Value.ref b] s = true
end
section
/-! ===== the law: its walk, by the evaluator ===== -/
noncomputable def av_stp (X : av_X) (F : av_F) (M : av_M) (fuel : Nat) : List av_Q → av_S → Option av_S :=
  Nat.rec (motive := fun _ => List av_Q → av_S → Option av_S) (fun _ S => some S) (fun _ ih sfx S => match sfx with
    | [] => none
    | q :: rest => bif q.1 == S.1 then (match av_one X F q S with
      | some [S'] => ih (bif S'.1 == S.1 + q.2.2.1 then rest else av_from S'.1 M.2.1) S'
      | some _ => none
      | none => match av_mk M.2.2.1 M.2.2.2.1 F q S with
        | some S' => ih rest S'
        | none => none) else none) fuel
theorem av_stp_ok {Ts : List Jvm.Cond} {cl : List vw_C} {D : va_G} {cy : Nat → ClassId} {A : Nat → Prop} {sv : Nat → Value} {as0 : List Nat} {X : av_X} {M : av_M} {mt : Nat → av_M} {F : av_F} {p : Program} {l : Launch} {e : Env} {R : Room} {s : State} {m : MethodId} {args : Array Value} {below : List Frame} {meth : Method} {c : Code} {Q : State → Prop}
    (C0 : av_Cx Ts cl D cy A sv X M p R s m args meth c) (hcls : av_cls Ts cl F) (hcl4 : ∃ T N, cl[1]? = some ("SagGates$Gate", T, N)) (hcl5 : ∃ T N, cl[7]? = some ("SagGates$Told", T, N)) (h100 : cl.length ≤ 100) (hM : ∀ q ∈ M.2.1, av_ok Ts cl mt M q) :
    ∀ (fuel : Nat) (sfx : List av_Q) (S S' : av_S), av_stp X F M fuel sfx S = some S' → (∀ q ∈ sfx, av_ok Ts cl mt M q) → av_Good cl D cy A sv as0 M.1.2.2.2.1 p l e R s m args below meth c Q S' → av_Good cl D cy A sv as0 M.1.2.2.2.1 p l e R s m args below meth c Q S := by
  intro fuel
  induction fuel with
  | zero => intro sfx S S' h _ k; cases h; exact k
  | succ n ih =>
    intro sfx S S' h hok k
    cases sfx with
    | nil => cases h
    | cons q rest =>
      have h' : (bif q.1 == S.1 then (match av_one X F q S with
        | some [S'] => av_stp X F M n (bif S'.1 == S.1 + q.2.2.1 then rest else av_from S'.1 M.2.1) S'
        | some _ => none
        | none => match av_mk M.2.2.1 M.2.2.2.1 F q S with
          | some S' => av_stp X F M n rest S'
          | none => none) else none) = some S' := h
      obtain ⟨hq, h1⟩ := av_bif h'
      have hq : q.1 = S.1 := by simpa using hq
      have okq := hok q List.mem_cons_self
      have okr : ∀ q ∈ rest, av_ok Ts cl mt M q := fun q' hq' => hok q' (List.mem_cons_of_mem _ hq')
      split at h1
      · rename_i S1 hone
        refine av_one_ok C0 hcls hcl4 hcl5 h100 okq hq hone fun S2 hS2 => ?_
        have : S2 = S1 := by simpa using hS2
        subst this
        refine ih _ S2 S' h1 ?_ k
        cases (S2.1 == S.1 + q.2.2.1) with
        | true => exact okr
        | false => exact fun q' hq' => hM q' (av_from_mem hq')
      · cases h1
      · split at h1
        · rename_i S1 hmk
          exact av_mk_ok C0 hcls okq hq hmk (ih rest S1 S' h1 okr k)
        · cases h1
theorem lw_h9 : ∀ j, 9000 ≤ j → (mt_all j).2.1 = [] := by
  intro j hj
  have hl : mt_list.length = 129 := by decide +kernel
  unfold mt_all
  rw [List.getD_eq_getElem?_getD, List.getElem?_eq_none (by omega)]
  rfl
theorem lw_c4 : ∃ T N, vwCl[1]? = some ("SagGates$Gate", T, N) := ⟨_, _, rfl⟩
theorem lw_c5 : ∃ T N, vwCl[7]? = some ("SagGates$Told", T, N) := ⟨_, _, rfl⟩
theorem lw_c100 : vwCl.length ≤ 100 := by decide
theorem lw_l1 : hp_1.length = 111 := by decide +kernel
theorem lw_l2 : hp_2.length = 149 := by decide +kernel
theorem lw_e3 : hp_2 ++ [.inl (3, List.replicate 1 (av_dfl 3))] = hp_3 := av_hb_ok (by decide +kernel)
section LW
variable {D : va_G} {cy : Nat → ClassId} {A : Nat → Prop} {sv : Nat → Value} {l : Launch}
theorem av_MetRun {fuel j : Nat} {X1 av : List av_V} {h : av_H} {outs : av_O} (hsv : ∀ j, sv j = .null ∨ ∃ a, sv j = .ref a) (hrun : av_run fk_all mt_all fuel (X1, none) j (mt_all j).2.1 (0, av_ent 0 av, [], h, 0, 0) = some outs) (hM : av_okM av_T (mt_all j)) (hall : av.all (fun v => !av_isL v) = true) (hlen : av.length ≤ (mt_all j).1.2.2.2.1) : av_Met av_T vwCl D cy A sv l X1 (mt_all j) av h outs :=
  av_met_ok hsv hM hall hlen (fun as0 p e R s m args below meth c C1 => av_run_ok av_T_good cls_all lw_c4 lw_c5 lw_c100 lw_h9 ok_all fuel (X1, none) j _ _ outs hrun (ok_all j) as0 p e R s m args below meth c _ C1 (fun q S r a1 a2 a3 a4 => av_ret_ok C1 a1 a2 a3 a4))
variable {X : av_X} {p : Program} {e : Env} {s : State} {m : MethodId} {b0 : Nat} {below : List Frame} {meth : Method} {c : Code} {as0 : List Nat}
theorem lw_hret (C0 : av_Cx av_T vwCl D cy (fun q => s.heap.size ≤ q) sv X mt_L_law p room_1 s m #[Value.ref b0] meth c) {q : av_Q} {S : av_S} {r : Option av_V} (ok : av_ok av_T vwCl mt_all mt_L_law q) (hq : q.1 = S.1) (h : av_ret mt_L_law q S = some r) (h1 : r = some (av_i (1, 1))) :
    av_Good vwCl D cy (fun q => s.heap.size ≤ q) sv as0 7 p l e room_1 s m #[Value.ref b0] below meth c (lw_Z below #[Value.ref b0] s) S := by
  obtain ⟨pc, ins, len, a, b, z⟩ := q
  obtain ⟨pc', L, st, hp, cN, sN⟩ := S
  dsimp only at hq
  subst hq
  obtain ⟨hx, hb, hml, hown, hts, hr, hlk, hnm, hK, hA, hSF, r1, r2, r3, r4⟩ := C0
  obtain ⟨hd, hlen, -⟩ := ok
  unfold av_ret at h
  obtain ⟨hc, h2⟩ := av_bif h
  clear h
  simp only [Bool.and_eq_true, decide_eq_true_eq] at hc
  intro as ws H locs ls stv has hH hP hD hS hL hst
  refine W.widen (k := 600002) (n := 7302232) hc.1 hc.2 ?_
  refine va_forget (fun q hq => hS.2.2 q hq) ?_
  dsimp only at h2 hd hst ⊢
  split at h2
  · rename_i hret; cases hret
  · rename_i u hret
    obtain ⟨hf, h3⟩ := av_bif h2
    cases h3
    cases h1
    have : len = 1 := by simpa [av_lenok, av_len] using hlen
    subst this
    obtain ⟨_, stv1, rfl, ⟨n, rfl, hn⟩, hst1⟩ := av_relS_cons hst
    have := av_relS_nil hst1
    subst this
    have e1 : n = 1 := by
      rw [← Int32.toInt_inj]
      have : (1 : Int32).toInt = 1 := by decide
      dsimp only at hn
      omega
    subst e1
    exact lw_ret hx hb hr hlk hd
  · rename_i hret; cases hret
  · rename_i hret; cases hret
  · rename_i hret; cases hret
  · rename_i hret; cases hret
  · cases h2
theorem lw_run {fuel : Nat} {sfx : List av_Q} {S : av_S} (C0 : av_Cx av_T vwCl D cy (fun q => s.heap.size ≤ q) sv X mt_L_law p room_1 s m #[Value.ref b0] meth c) (hs : ∀ q ∈ sfx, q ∈ op_L_law) (h : lw_ends (av_run fk_all mt_all fuel X 128 sfx S) = true) :
    av_Good vwCl D cy (fun q => s.heap.size ≤ q) sv as0 7 p l e room_1 s m #[Value.ref b0] below meth c (lw_Z below #[Value.ref b0] s) S := by
  obtain ⟨o, h1, h2⟩ := lw_ends_ok h
  exact av_run_ok av_T_good cls_all lw_c4 lw_c5 lw_c100 lw_h9 ok_all fuel X 128 sfx S o h1 (fun q hq => ok_all 128 q (hs q hq)) as0 p e room_1 s m #[Value.ref b0] below meth c _ C0 (fun q S r a1 a2 a3 a4 => lw_hret C0 a1 a2 a3 (h2 _ a4))
theorem lw_stp {fuel : Nat} {sfx : List av_Q} {S S' : av_S} (C0 : av_Cx av_T vwCl D cy (fun q => s.heap.size ≤ q) sv X mt_L_law p room_1 s m #[Value.ref b0] meth c) (hs : ∀ q ∈ sfx, q ∈ op_L_law) (h : av_stp X fk_all mt_L_law fuel sfx S = some S')
    (k : av_Good vwCl D cy (fun q => s.heap.size ≤ q) sv as0 7 p l e room_1 s m #[Value.ref b0] below meth c (lw_Z below #[Value.ref b0] s) S') : av_Good vwCl D cy (fun q => s.heap.size ≤ q) sv as0 7 p l e room_1 s m #[Value.ref b0] below meth c (lw_Z below #[Value.ref b0] s) S :=
  av_stp_ok (mt := mt_all) C0 cls_all lw_c4 lw_c5 lw_c100 (ok_all 128) fuel sfx S S' h (fun q hq => ok_all 128 q (hs q hq)) k
/-- the two constructors and the row of one long -/
theorem lw_make (C0 : av_Cx av_T vwCl D cy (fun q => s.heap.size ≤ q) sv X mt_L_law p room_1 s m #[Value.ref b0] meth c) (hX1 : X.1 = wd_bytes)
    (k : av_Good vwCl D cy (fun q => s.heap.size ≤ q) sv as0 7 p l e room_1 s m #[Value.ref b0] below meth c (lw_Z below #[Value.ref b0] s) (23, lw_loc, [], hp_3, 150, 5612)) :
    av_Good vwCl D cy (fun q => s.heap.size ≤ q) sv as0 7 p l e room_1 s m #[Value.ref b0] below meth c (lw_Z below #[Value.ref b0] s) (0, [(0, av_s 2)], [], [], 0, 0) := by
  have hsv := C0.2.2.2.2.2.2.2.2.2.2.1.1
  refine lw_stp (fuel := 2) (sfx := op_L_law) (S' := (4, [(0, av_s 2)], [av_r 0, av_r 0], [ob_11], 1, 16)) C0 (fun q h => h) rfl ?_
  have m1 : av_Met av_T vwCl D cy (fun q => s.heap.size ≤ q) sv l X.1 (mt_all 28) [av_r 0] [ob_11] [(none, hp_1)] := av_MetRun (fuel := 20000) hsv (by rw [hX1]; exact av_isv_ok rn_X11) okm_X11_init rfl (by decide)
  refine av_call_ok (q := (4, .invokespecial 17, 3, 28, 0, 0)) (j := 28) (av := [av_r 0]) (stk := [av_r 0]) (mt := mt_all) C0 av_T_good lw_c100 (ok_L_law_0 _ (List.mem_of_getElem? (i := 2) rfl)) rfl (by decide) rfl (by decide +kernel) m1 fun ov hov => ?_
  obtain rfl : ov = (none, hp_1) := by simpa using hov
  refine lw_stp (fuel := 3) (sfx := op_L_law.drop 3) (S' := (12, [(1, av_r 0), (0, av_s 2)], [av_r hp_1.length, av_r hp_1.length], hp_1 ++ [ob_12], 112, 2708)) C0 (fun q h => List.mem_of_mem_drop h) rfl ?_
  rw [lw_l1]
  have m2 : av_Met av_T vwCl D cy (fun q => s.heap.size ≤ q) sv l X.1 (mt_all 71) [av_r 111] (hp_1 ++ [ob_12]) [(none, hp_2)] := av_MetRun (fuel := 20000) hsv (by rw [hX1]; exact av_isv_ok rn_X12) okm_X12_init rfl (by decide)
  refine av_call_ok (q := (12, .invokespecial 20, 3, 71, 0, 0)) (j := 71) (av := [av_r 111]) (stk := [av_r 111]) (mt := mt_all) C0 av_T_good lw_c100 (ok_L_law_0 _ (List.mem_of_getElem? (i := 6) rfl)) rfl (by decide) rfl (by decide +kernel) m2 fun ov hov => ?_
  obtain rfl : ov = (none, hp_2) := by simpa using hov
  refine lw_stp (fuel := 6) (sfx := op_L_law.drop 7) (S' := (23, [(4, av_i (0, 0)), (3, av_r hp_2.length), (2, av_r 111), (1, av_r 0), (0, av_s 2)], [], hp_2 ++ [.inl (3, List.replicate 1 (av_dfl 3))], 150, 5612)) C0 (fun q h => List.mem_of_mem_drop h) rfl ?_
  rw [lw_l2, lw_e3]
  exact k
end LW
end
section
/-! ===== the law, call by call ===== -/
set_option maxRecDepth 1000000 in
set_option maxHeartbeats 0 in
theorem rn_0 : (av_cut (-2147483648) (lw_cuts 0)).all (lw_ck 0) = true := by decide +kernel
set_option maxRecDepth 1000000 in
set_option maxHeartbeats 0 in
theorem rn_2 : (av_cut (-2147483648) (lw_cuts 2)).all (lw_ck 2) = true := by decide +kernel
set_option maxRecDepth 1000000 in
set_option maxHeartbeats 0 in
theorem rn_3 : (av_cut (-2147483648) (lw_cuts 3)).all (lw_ck 3) = true := by decide +kernel
set_option maxRecDepth 1000000 in
set_option maxHeartbeats 0 in
theorem rn_5 : (av_cut (-2147483648) (lw_cuts 5)).all (lw_ck 5) = true := by decide +kernel
set_option maxRecDepth 1000000 in
set_option maxHeartbeats 0 in
theorem rn_6 : (av_cut (-2147483648) (lw_cuts 6)).all (lw_ck 6) = true := by decide +kernel
set_option maxRecDepth 1000000 in
set_option maxHeartbeats 0 in
theorem rn_8 : (av_cut (-2147483648) (lw_cuts 8)).all (lw_ck 8) = true := by decide +kernel
set_option maxRecDepth 1000000 in
set_option maxHeartbeats 0 in
theorem rn_9 : (av_cut (-2147483648) (lw_cuts 9)).all (lw_ck 9) = true := by decide +kernel
set_option maxRecDepth 1000000 in
set_option maxHeartbeats 0 in
theorem rn_10 : (av_cut (-2147483648) (lw_cuts 10)).all (lw_ck 10) = true := by decide +kernel
set_option maxRecDepth 1000000 in
set_option maxHeartbeats 0 in
theorem rn_11 : (av_cut (-2147483648) (lw_cuts 11)).all (lw_ck 11) = true := by decide +kernel
set_option maxRecDepth 1000000 in
set_option maxHeartbeats 0 in
theorem rn_12 : (av_cut (-2147483648) (lw_cuts 12)).all (lw_ck 12) = true := by decide +kernel
set_option maxRecDepth 1000000 in
set_option maxHeartbeats 0 in
theorem rn_13 : (av_cut (-2147483648) (lw_cuts 13)).all (lw_ck 13) = true := by decide +kernel
set_option maxRecDepth 1000000 in
set_option maxHeartbeats 0 in
theorem rn_14 : (av_cut (-2147483648) (lw_cuts 14)).all (lw_ck 14) = true := by decide +kernel
set_option maxRecDepth 1000000 in
set_option maxHeartbeats 0 in
theorem rn_15 : (av_cut (-2147483648) (lw_cuts 15)).all (lw_ck 15) = true := by decide +kernel
set_option maxRecDepth 1000000 in
set_option maxHeartbeats 0 in
theorem rn_16 : (av_cut (-2147483648) (lw_cuts 16)).all (lw_ck 16) = true := by decide +kernel
set_option maxRecDepth 1000000 in
set_option maxHeartbeats 0 in
theorem rn_17 : (av_cut (-2147483648) (lw_cuts 17)).all (lw_ck 17) = true := by decide +kernel
set_option maxRecDepth 1000000 in
set_option maxHeartbeats 0 in
theorem rn_18 : (av_cut (-2147483648) (lw_cuts 18)).all (lw_ck 18) = true := by decide +kernel
set_option maxRecDepth 1000000 in
set_option maxHeartbeats 0 in
theorem rn_19 : (av_cut (-2147483648) (lw_cuts 19)).all (lw_ck 19) = true := by decide +kernel
set_option maxRecDepth 1000000 in
set_option maxHeartbeats 0 in
theorem rn_20 : (av_cut (-2147483648) (lw_cuts 20)).all (lw_ck 20) = true := by decide +kernel
set_option maxRecDepth 1000000 in
set_option maxHeartbeats 0 in
theorem rn_21 : (av_cut (-2147483648) (lw_cuts 21)).all (lw_ck 21) = true := by decide +kernel
set_option maxRecDepth 1000000 in
set_option maxHeartbeats 0 in
theorem rn_22 : (av_cut (-2147483648) (lw_cuts 22)).all (lw_ck 22) = true := by decide +kernel
set_option maxRecDepth 1000000 in
set_option maxHeartbeats 0 in
theorem rn_23 : (av_cut (-2147483648) (lw_cuts 23)).all (lw_ck 23) = true := by decide +kernel
set_option maxRecDepth 1000000 in
set_option maxHeartbeats 0 in
theorem rn_24 : (av_cut (-2147483648) (lw_cuts 24)).all (lw_ck 24) = true := by decide +kernel
set_option maxRecDepth 1000000 in
set_option maxHeartbeats 0 in
theorem rn_25 : (av_cut (-2147483648) (lw_cuts 25)).all (lw_ck 25) = true := by decide +kernel
set_option maxRecDepth 1000000 in
set_option maxHeartbeats 0 in
theorem rn_26 : (av_cut (-2147483648) (lw_cuts 26)).all (lw_ck 26) = true := by decide +kernel
set_option maxRecDepth 1000000 in
set_option maxHeartbeats 0 in
theorem rn_27 : (av_cut (-2147483648) (lw_cuts 27)).all (lw_ck 27) = true := by decide +kernel
set_option maxRecDepth 1000000 in
set_option maxHeartbeats 0 in
theorem rn_28 : (av_cut (-2147483648) (lw_cuts 28)).all (lw_ck 28) = true := by decide +kernel
set_option maxRecDepth 1000000 in
set_option maxHeartbeats 0 in
theorem rn_29 : (av_cut (-2147483648) (lw_cuts 29)).all (lw_ck 29) = true := by decide +kernel
set_option maxRecDepth 1000000 in
set_option maxHeartbeats 0 in
theorem rn_30 : (av_cut (-2147483648) (lw_cuts 30)).all (lw_ck 30) = true := by decide +kernel
set_option maxRecDepth 1000000 in
set_option maxHeartbeats 0 in
theorem rn_31 : (av_cut (-2147483648) (lw_cuts 31)).all (lw_ck 31) = true := by decide +kernel
set_option maxRecDepth 1000000 in
set_option maxHeartbeats 0 in
theorem rn_32 : (av_cut (-2147483648) (lw_cuts 32)).all (lw_ck 32) = true := by decide +kernel
set_option maxRecDepth 1000000 in
set_option maxHeartbeats 0 in
theorem rn_33 : (av_cut (-2147483648) (lw_cuts 33)).all (lw_ck 33) = true := by decide +kernel
set_option maxRecDepth 1000000 in
set_option maxHeartbeats 0 in
theorem rn_34 : (av_cut (-2147483648) (lw_cuts 34)).all (lw_ck 34) = true := by decide +kernel
set_option maxRecDepth 1000000 in
set_option maxHeartbeats 0 in
theorem rn_35 : (av_cut (-2147483648) (lw_cuts 35)).all (lw_ck 35) = true := by decide +kernel
set_option maxRecDepth 1000000 in
set_option maxHeartbeats 0 in
theorem rn_36 : (av_cut (-2147483648) (lw_cuts 36)).all (lw_ck 36) = true := by decide +kernel
set_option maxRecDepth 1000000 in
set_option maxHeartbeats 0 in
theorem rn_37 : (av_cut (-2147483648) (lw_cuts 37)).all (lw_ck 37) = true := by decide +kernel
set_option maxRecDepth 1000000 in
set_option maxHeartbeats 0 in
theorem rn_38 : (av_cut (-2147483648) (lw_cuts 38)).all (lw_ck 38) = true := by decide +kernel
set_option maxRecDepth 1000000 in
set_option maxHeartbeats 0 in
theorem rn_39 : (av_cut (-2147483648) (lw_cuts 39)).all (lw_ck 39) = true := by decide +kernel
set_option maxRecDepth 1000000 in
set_option maxHeartbeats 0 in
theorem rn_40 : (av_cut (-2147483648) (lw_cuts 40)).all (lw_ck 40) = true := by decide +kernel
set_option maxRecDepth 1000000 in
set_option maxHeartbeats 0 in
theorem rn_41 : (av_cut (-2147483648) (lw_cuts 41)).all (lw_ck 41) = true := by decide +kernel
set_option maxRecDepth 1000000 in
set_option maxHeartbeats 0 in
theorem rn_42 : (av_cut (-2147483648) (lw_cuts 42)).all (lw_ck 42) = true := by decide +kernel
set_option maxRecDepth 1000000 in
set_option maxHeartbeats 0 in
theorem rn_43 : (av_cut (-2147483648) (lw_cuts 43)).all (lw_ck 43) = true := by decide +kernel
set_option maxRecDepth 1000000 in
set_option maxHeartbeats 0 in
theorem rn_44 : (av_cut (-2147483648) (lw_cuts 44)).all (lw_ck 44) = true := by decide +kernel
set_option maxRecDepth 1000000 in
set_option maxHeartbeats 0 in
theorem rn_45 : (av_cut (-2147483648) (lw_cuts 45)).all (lw_ck 45) = true := by decide +kernel
set_option maxRecDepth 1000000 in
set_option maxHeartbeats 0 in
theorem rn_46 : (av_cut (-2147483648) (lw_cuts 46)).all (lw_ck 46) = true := by decide +kernel
set_option maxRecDepth 1000000 in
set_option maxHeartbeats 0 in
theorem rn_47 : (av_cut (-2147483648) (lw_cuts 47)).all (lw_ck 47) = true := by decide +kernel
set_option maxRecDepth 1000000 in
set_option maxHeartbeats 0 in
theorem rn_48 : (av_cut (-2147483648) (lw_cuts 48)).all (lw_ck 48) = true := by decide +kernel
set_option maxRecDepth 1000000 in
set_option maxHeartbeats 0 in
theorem rn_49 : (av_cut (-2147483648) (lw_cuts 49)).all (lw_ck 49) = true := by decide +kernel
set_option maxRecDepth 1000000 in
set_option maxHeartbeats 0 in
theorem rn_50 : (av_cut (-2147483648) (lw_cuts 50)).all (lw_ck 50) = true := by decide +kernel
set_option maxRecDepth 1000000 in
set_option maxHeartbeats 0 in
theorem rn_51 : (av_cut (-2147483648) (lw_cuts 51)).all (lw_ck 51) = true := by decide +kernel
set_option maxRecDepth 1000000 in
set_option maxHeartbeats 0 in
theorem rn_52 : (av_cut (-2147483648) (lw_cuts 52)).all (lw_ck 52) = true := by decide +kernel
set_option maxRecDepth 1000000 in
set_option maxHeartbeats 0 in
theorem rn_53 : (av_cut (-2147483648) (lw_cuts 53)).all (lw_ck 53) = true := by decide +kernel
set_option maxRecDepth 1000000 in
set_option maxHeartbeats 0 in
theorem rn_54 : (av_cut (-2147483648) (lw_cuts 54)).all (lw_ck 54) = true := by decide +kernel
set_option maxRecDepth 1000000 in
set_option maxHeartbeats 0 in
theorem rn_55 : (av_cut (-2147483648) (lw_cuts 55)).all (lw_ck 55) = true := by decide +kernel
set_option maxRecDepth 1000000 in
set_option maxHeartbeats 0 in
theorem rn_56 : (av_cut (-2147483648) (lw_cuts 56)).all (lw_ck 56) = true := by decide +kernel
set_option maxRecDepth 1000000 in
set_option maxHeartbeats 0 in
theorem rn_57 : (av_cut (-2147483648) (lw_cuts 57)).all (lw_ck 57) = true := by decide +kernel
set_option maxRecDepth 1000000 in
set_option maxHeartbeats 0 in
theorem rn_58 : (av_cut (-2147483648) (lw_cuts 58)).all (lw_ck 58) = true := by decide +kernel
set_option maxRecDepth 1000000 in
set_option maxHeartbeats 0 in
theorem rn_59 : (av_cut (-2147483648) (lw_cuts 59)).all (lw_ck 59) = true := by decide +kernel
set_option maxRecDepth 1000000 in
set_option maxHeartbeats 0 in
theorem rn_60 : (av_cut (-2147483648) (lw_cuts 60)).all (lw_ck 60) = true := by decide +kernel
set_option maxRecDepth 1000000 in
set_option maxHeartbeats 0 in
theorem rn_61 : (av_cut (-2147483648) (lw_cuts 61)).all (lw_ck 61) = true := by decide +kernel
set_option maxRecDepth 1000000 in
set_option maxHeartbeats 0 in
theorem rn_62 : (av_cut (-2147483648) (lw_cuts 62)).all (lw_ck 62) = true := by decide +kernel
set_option maxRecDepth 1000000 in
set_option maxHeartbeats 0 in
theorem rn_63 : (av_cut (-2147483648) (lw_cuts 63)).all (lw_ck 63) = true := by decide +kernel
end
section
/-! ===== the law, call by call ===== -/
set_option maxRecDepth 1000000 in
set_option maxHeartbeats 0 in
theorem rn_1 : (av_cut (-2147483648) (lw_cuts 1)).all (lw_ck 1) = true := by decide +kernel
set_option maxRecDepth 1000000 in
set_option maxHeartbeats 0 in
theorem rn_4 : (av_cut (-2147483648) (lw_cuts 4)).all lw_ck4 = true := by decide +kernel
end
section
/-! ===== the law, call by call ===== -/
set_option maxRecDepth 1000000 in
set_option maxHeartbeats 0 in
theorem rn_7_0 : (((av_cut (-2147483648) (lw_cuts 7)).drop 0).take 40).all (lw_ck 7) = true := by decide +kernel
set_option maxRecDepth 1000000 in
set_option maxHeartbeats 0 in
theorem rn_7_1 : (((av_cut (-2147483648) (lw_cuts 7)).drop 40).take 40).all (lw_ck 7) = true := by decide +kernel
set_option maxRecDepth 1000000 in
set_option maxHeartbeats 0 in
theorem rn_7_2 : (((av_cut (-2147483648) (lw_cuts 7)).drop 80).take 40).all (lw_ck 7) = true := by decide +kernel
set_option maxRecDepth 1000000 in
set_option maxHeartbeats 0 in
theorem rn_7_3 : (((av_cut (-2147483648) (lw_cuts 7)).drop 120).take 40).all (lw_ck 7) = true := by decide +kernel
set_option maxRecDepth 1000000 in
set_option maxHeartbeats 0 in
theorem rn_7_4 : (((av_cut (-2147483648) (lw_cuts 7)).drop 160).take 40).all (lw_ck 7) = true := by decide +kernel
set_option maxRecDepth 1000000 in
set_option maxHeartbeats 0 in
theorem rn_7_5 : (((av_cut (-2147483648) (lw_cuts 7)).drop 200).take 40).all (lw_ck 7) = true := by decide +kernel
set_option maxRecDepth 1000000 in
set_option maxHeartbeats 0 in
theorem rn_7_6 : (((av_cut (-2147483648) (lw_cuts 7)).drop 240).take 40).all (lw_ck 7) = true := by decide +kernel
set_option maxRecDepth 1000000 in
set_option maxHeartbeats 0 in
theorem rn_7_7 : (((av_cut (-2147483648) (lw_cuts 7)).drop 280).take 40).all (lw_ck 7) = true := by decide +kernel
set_option maxRecDepth 1000000 in
set_option maxHeartbeats 0 in
theorem rn_7_8 : (((av_cut (-2147483648) (lw_cuts 7)).drop 320).take 40).all (lw_ck 7) = true := by decide +kernel
set_option maxRecDepth 1000000 in
set_option maxHeartbeats 0 in
theorem rn_7_9 : (((av_cut (-2147483648) (lw_cuts 7)).drop 360).take 40).all (lw_ck 7) = true := by decide +kernel
set_option maxRecDepth 1000000 in
set_option maxHeartbeats 0 in
theorem rn_7_10 : (((av_cut (-2147483648) (lw_cuts 7)).drop 400).take 40).all (lw_ck 7) = true := by decide +kernel
set_option maxRecDepth 1000000 in
set_option maxHeartbeats 0 in
theorem rn_7_11 : (((av_cut (-2147483648) (lw_cuts 7)).drop 440).take 40).all (lw_ck 7) = true := by decide +kernel
set_option maxRecDepth 1000000 in
set_option maxHeartbeats 0 in
theorem rn_7_12 : (((av_cut (-2147483648) (lw_cuts 7)).drop 480).take 40).all (lw_ck 7) = true := by decide +kernel
set_option maxRecDepth 1000000 in
set_option maxHeartbeats 0 in
theorem rn_7_13 : (((av_cut (-2147483648) (lw_cuts 7)).drop 520).take 40).all (lw_ck 7) = true := by decide +kernel
theorem rn_7 : (av_cut (-2147483648) (lw_cuts 7)).all (lw_ck 7) = true := by
  have e : av_cut (-2147483648) (lw_cuts 7) = ((av_cut (-2147483648) (lw_cuts 7)).drop 0).take 40 ++ (((av_cut (-2147483648) (lw_cuts 7)).drop 40).take 40 ++ (((av_cut (-2147483648) (lw_cuts 7)).drop 80).take 40 ++ (((av_cut (-2147483648) (lw_cuts 7)).drop 120).take 40 ++ (((av_cut (-2147483648) (lw_cuts 7)).drop 160).take 40 ++ (((av_cut (-2147483648) (lw_cuts 7)).drop 200).take 40 ++ (((av_cut (-2147483648) (lw_cuts 7)).drop 240).take 40 ++ (((av_cut (-2147483648) (lw_cuts 7)).drop 280).take 40 ++ (((av_cut (-2147483648) (lw_cuts 7)).drop 320).take 40 ++ (((av_cut (-2147483648) (lw_cuts 7)).drop 360).take 40 ++ (((av_cut (-2147483648) (lw_cuts 7)).drop 400).take 40 ++ (((av_cut (-2147483648) (lw_cuts 7)).drop 440).take 40 ++ (((av_cut (-2147483648) (lw_cuts 7)).drop 480).take 40 ++ (((av_cut (-2147483648) (lw_cuts 7)).drop 520).take 40))))))))))))) := by decide +kernel
  rw [e]
  simp only [List.all_append, Bool.and_eq_true]
  exact ⟨rn_7_0, ⟨rn_7_1, ⟨rn_7_2, ⟨rn_7_3, ⟨rn_7_4, ⟨rn_7_5, ⟨rn_7_6, ⟨rn_7_7, ⟨rn_7_8, ⟨rn_7_9, ⟨rn_7_10, ⟨rn_7_11, ⟨rn_7_12, rn_7_13⟩⟩⟩⟩⟩⟩⟩⟩⟩⟩⟩⟩⟩
end
section
/-! ===== BEGIN exceptions that leave a method, and their catching by the caller (launches without stack traces) ===== -/
section VXA
/-! The laws vx_back, vx_callV, vx_callS, vx_callSW, vx_throw0, vx_throwS follow proofs of the library, with one case more: JvmDerived/Free/Laws.lean (Back.of_free), Shelf42/LK1.lean (callV, callS), Shelf/KitTraced.lean (throwNew0V, throwNewS). -/
/-- where a method has thrown q: the class by its name, the cell, what was written, the world -/
def vx_T (XC : String → State → State → Prop) (st : State) (q : Addr) (t : State) (mc ms : Nat) (free : Addr → Prop) : Prop :=
  ∃ (E : String) (ce : Cell) (L : List Loc), XC E st t ∧ t.heap[q]? = some ce ∧ ce.vm = .none ∧ st.vm.findClass E = some ce.cls ∧ st.WarmedH t.vm ∧ st.sameButNew ({ t with vm := st.vm } : State) L mc ms ∧ ∀ z ∈ L, free z.base
def vx_Q (Qc : Array Value → State → Outcome → State → Prop) (XC : String → State → State → Prop) (mc ms : Nat) (free : Addr → Prop) : Array Value → State → Outcome → State → Prop := fun a st o t =>
  (Qc a st o t ∧ ∃ L, FrameEnd st o t L mc ms ∧ ∀ q ∈ L, free q.base) ∨ ∃ q, o = .threw q ∧ vx_T XC st q t mc ms free
/-- a callee that returns or throws -/
def vx_Met (l : Launch) (y : MethodName) (ws : List Cond) (rm : Room) (Pc : Array Value → State → Prop) (Qc : Array Value → State → Outcome → State → Prop) (XC : String → State → State → Prop) (mc ms : Nat) (free : Addr → Prop) : Prop :=
  MetFree l y (headSpec ws rm) Pc (fun _ _ _ _ _ => True) (vx_Q Qc XC mc ms free)
def vx_Post (XC : String → State → State → Prop) (mc ms : Nat) (free : Addr → Prop) : Pt → Array Value → Addr → Pt → Prop := fun A a q B =>
  ∃ (g : JFrame) (mk : MethodId) (t : State) (L : List Loc) (E : String) (ce : Cell), B.U.heap = t.heap ∧ B.U.vm = t.vm ∧ XC E (A.U.calling g mk a) t ∧ t.heap[q]? = some ce ∧ ce.vm = .none ∧ A.U.vm.findClass E = some ce.cls ∧ B.locs = A.locs ++ L ∧ (∀ z ∈ L, free z.base) ∧ B.cells = A.cells + mc ∧ B.slots = A.slots + ms
def vx_Back (l : Launch) (R : Room) (p : Program) (e : Env) (below : List Frame) (s : State) (sargs : Array Value) (y : MethodName) (len W9 : Nat)
    (Pre : Pt → Array Value → Prop) (Post : Pt → Array Value → Option Value → Pt → Prop) (PostX : Pt → Array Value → Addr → Pt → Prop) : Prop :=
  ∀ (m : MethodId) (meth : Method) (c : Code) (A : Pt) (g : JFrame) (ig : Instr) (mk : MethodId) (a : Array Value),
    Stand p l e R s m sargs below meth c A.U A.locs A.cells A.slots → g.method = m → g.locals.size = c.maxLocals → decode c.code g.pc = .ok (ig, len) →
    2 * g.monitorRoom + (g.stack.map fun v => v.category).sum ≤ W9 → A.U.methodNamed? y = some mk → Pre A a →
    (∃ (v : Option Value) (B : Pt), Stand p l e R s m sargs below meth c B.U B.locs B.cells B.slots ∧ Post A a v B ∧
      Steps p.tables e below (doInvoke e (A.U.setTop g) [] mk a).1 (B.U.setTop { g with pc := g.pc + len, stack := v.toList ++ g.stack })) ∨
    (∃ (q : Addr) (B : Pt), Stand p l e R s m sargs below meth c B.U B.locs B.cells B.slots ∧ PostX A a q B ∧
      Steps p.tables e below (doInvoke e (A.U.setTop g) [] mk a).1 ((B.U.setTop g).pushFrame (.throwing q)))
section Payer
variable {l : Launch} {R : Room} {p : Program} {e : Env} {below : List Frame} {s : State} {sargs : Array Value} {y : MethodName} {len W9 : Nat}
theorem vx_back {ws : List Cond} {rm : Room} {Pc : Array Value → State → Prop} {Qc : Array Value → State → Outcome → State → Prop} {XC : String → State → State → Prop} {mc ms : Nat} {free : Addr → Prop} {bytes : ByteArray} {maxL : Nat} {ret : Option FieldType}
    (hM : vx_Met l y ws rm Pc Qc XC mc ms free) (hblind : FrameBlind Pc) (hrc : rm.cells = mc) (hrs : rm.slots = ms)
    (hframes : rm.frames + 1 ≤ R.frames) (hlocals : W9 + (maxL + 11) + rm.locals ≤ R.locals)
    (hws : ∀ w ∈ ws, ∀ a' U, s.WarmedH U.vm → w.before a' U = true) (hcode : Cond.code y bytes maxL ret ∈ ws) (hinit : ∀ a' U, s.WarmedH U.vm → (Cond.initialized y.cls).before a' U = true) :
    vx_Back l R p e below s sargs y len W9 (PreOf R mc ms Pc) (PostOf Qc mc ms free) (vx_Post XC mc ms free) := by
  intro m meth c A g ig mk a X hg hsize hdg hW hn hp
  have h1 : (headSpec ws rm).pre.before a A.U = true := atoms_intro fun w hw => hws w hw _ _ X.warmed
  have h2 : (Cond.code y bytes maxL ret).before a A.U = true := hws _ hcode _ _ X.warmed
  have h3 : (Cond.initialized y.cls).before a A.U = true := hinit _ _ X.warmed
  have h4 : A.cells + (headSpec ws rm).room.cells ≤ R.cells := by rw [show (headSpec ws rm).room.cells = mc from hrc]; exact hp.1
  have h5 : A.slots + (headSpec ws rm).room.slots ≤ R.slots := by rw [show (headSpec ws rm).room.slots = ms from hrs]; exact hp.2.1
  have hPc : Pc a (A.U.calling g mk a) := hblind _ _ _ _ hp.2.2
  obtain ⟨U, Ls, c0, s0⟩ := A
  dsimp only [Pt.U, Pt.locs, Pt.cells, Pt.slots] at h1 h2 h3 h4 h5 X hn hPc ⊢
  obtain ⟨methY, cY, hmY, hcY, -, hlY, -, -, -, -⟩ := Cond.code_spec hn h2
  obtain ⟨kY, hkY, -⟩ := className_of_methodNamed hn
  have hinitY : kY.init = .initialized := Cond.initialized_spec (findClass_of_methodNamed hn) hkY h3
  have h : At U g.method c below := by rw [hg]; exact X.here
  have hlocals9 : W9 + (maxL + 11) + (headSpec ws rm).room.locals ≤ R.locals := hlocals
  have happ : (headSpec ws rm).appliesLoose y e.platform (U.calling g mk a) = true :=
    Spec.appliesLoose_calling (g := g) h hdg hn hkY hinitY
      (X.room_calling (g := g) (R' := (headSpec ws rm).room) hsize hmY hcY hframes (by rw [hlY]; omega) h4 h5) h1
  obtain ⟨mid, hmid⟩ := h.above
  have hfr : (U.setTop g).frames = (.java g :: mid) ++ below := by rw [State.frames_setTop' g h.top, hmid]; rfl
  obtain ⟨o, s₂, hsteps, -, hend, hq⟩ := Steps.callFree hM p X.admits X.cas X.clock (acts := []) hfr happ hPc trivial
  have hq' : vx_Q Qc XC mc ms free a (U.calling g mk a) o s₂ := hq
  rw [State.frames_setTop' g h.top] at hend
  obtain ⟨g₀, hg0⟩ := Option.isSome_iff_exists.mp h.top
  obtain ⟨r, hr⟩ := State.topJava?_eq_some.mp hg0
  have hr' : (({ U with heap := s₂.heap, slotsUsed := s₂.slotsUsed } : State).setVm s₂.vm).frames = .java g₀ :: r := hr
  rcases hq' with ⟨hqc, L, hfe, hL⟩ | ⟨q, rfl, E, ce, L, hx, hce, hcv, hcl, hW₂, hsm, hL⟩
  · obtain ⟨⟨v, rfl⟩, hW₂, e2, q2, q3, q4, q5, q6⟩ := id hfe
    have e3 : s₂ = ({ (U.calling g mk a).setFrames s₂.frames with heap := s₂.heap, slotsUsed := s₂.slotsUsed } : State).setVm s₂.vm := by
      have : s₂ = ({ s₂ with vm := (U.calling g mk a).vm } : State).setVm s₂.vm := rfl
      rw [e2] at this
      exact this
    obtain ⟨c₂, i₂, len₂, hc₂, hd₂, hf₂⟩ := hend
    have hW' : U.WarmedH s₂.vm := hW₂
    have hcc : c₂ = c := by
      have h1 : s₂.code? g.method = U.code? g.method := by
        rw [State.code?_eq, State.code?_eq, hW'.alike.method?]
      exact Option.some.inj (hc₂.symm.trans (h1.trans h.code))
    subst hcc
    have hlen : len₂ = len := by rw [hdg] at hd₂; cases hd₂; rfl
    subst hlen
    have hs₂ : s₂ = (({ U with heap := s₂.heap, slotsUsed := s₂.slotsUsed } : State).setVm s₂.vm).setTop { g with pc := g.pc + len₂, stack := v.toList ++ g.stack } := by
      refine e3.trans ?_
      rw [hf₂, State.calling_eq h.top, State.setFrames_setFrames, State.setTop_of_frames _ hr', hr]
      rfl
    have hsame : U.sameButNew ({ U with heap := s₂.heap, slotsUsed := s₂.slotsUsed } : State) L mc ms := by
      refine ⟨?_, q2, q3, q4, q5, q6⟩
      obtain ⟨t, ht, -⟩ := State.frames_cons hr
      show ({ U with heap := s₂.heap, slotsUsed := s₂.slotsUsed } : State) = { U.setFrames U.frames with heap := s₂.heap, slotsUsed := s₂.slotsUsed }
      rw [State.setFrames_self ht]
    subst hg
    refine Or.inl ⟨v, ⟨(({ U with heap := s₂.heap, slotsUsed := s₂.slotsUsed } : State).setVm s₂.vm), Ls ++ L, c0 + mc, s0 + ms⟩,
      ⟨X.admits, X.cas, X.clock, X.frames, X.room, X.hears, X.method, X.code, (X.here.setHeapUsed s₂.heap s₂.slotsUsed).setVm hW'.alike, X.tail, State.WarmedH.trans X.warmed hW', X.limits, X.bytes, X.same.trans (hsame.setVm s.vm)⟩,
      ⟨g, mk, s₂, L, rfl, rfl, hqc, rfl, hL, rfl, rfl⟩, ?_⟩
    show Steps p.tables e below _ ((({ U with heap := s₂.heap, slotsUsed := s₂.slotsUsed } : State).setVm s₂.vm).setTop { g with pc := g.pc + len₂, stack := v.toList ++ g.stack })
    rw [← hs₂]
    exact hsteps
  · obtain ⟨e2, q2, q3, q4, q5, q6⟩ := id hsm
    have e3 : s₂ = ({ (U.calling g mk a).setFrames s₂.frames with heap := s₂.heap, slotsUsed := s₂.slotsUsed } : State).setVm s₂.vm := by
      have : s₂ = ({ s₂ with vm := (U.calling g mk a).vm } : State).setVm s₂.vm := rfl
      rw [e2] at this
      exact this
    have hf₂ : s₂.frames = .throwing q :: .java g :: U.frames.tail := hend
    have hW' : U.WarmedH s₂.vm := hW₂
    have hs₂ : s₂ = ((({ U with heap := s₂.heap, slotsUsed := s₂.slotsUsed } : State).setVm s₂.vm).setTop g).pushFrame (.throwing q) := by
      refine e3.trans ?_
      rw [hf₂, State.calling_eq h.top, State.setFrames_setFrames, State.pushFrame, State.frames_setTop _ hr', State.setTop_of_frames _ hr', State.setFrames_setFrames, hr]
      rfl
    have hsame : U.sameButNew ({ U with heap := s₂.heap, slotsUsed := s₂.slotsUsed } : State) L mc ms := by
      refine ⟨?_, q2, q3, q4, q5, q6⟩
      obtain ⟨t, ht, -⟩ := State.frames_cons hr
      show ({ U with heap := s₂.heap, slotsUsed := s₂.slotsUsed } : State) = { U.setFrames U.frames with heap := s₂.heap, slotsUsed := s₂.slotsUsed }
      rw [State.setFrames_self ht]
    subst hg
    refine Or.inr ⟨q, ⟨(({ U with heap := s₂.heap, slotsUsed := s₂.slotsUsed } : State).setVm s₂.vm), Ls ++ L, c0 + mc, s0 + ms⟩,
      ⟨X.admits, X.cas, X.clock, X.frames, X.room, X.hears, X.method, X.code, (X.here.setHeapUsed s₂.heap s₂.slotsUsed).setVm hW'.alike, X.tail, State.WarmedH.trans X.warmed hW', X.limits, X.bytes, X.same.trans (hsame.setVm s.vm)⟩,
      ⟨g, mk, s₂, L, E, ce, rfl, rfl, hx, hce, hcv, hcl, rfl, hL, rfl, rfl⟩, ?_⟩
    show Steps p.tables e below _ (((({ U with heap := s₂.heap, slotsUsed := s₂.slotsUsed } : State).setVm s₂.vm).setTop g).pushFrame (.throwing q))
    rw [← hs₂]
    exact hsteps
end Payer
section Calls
variable {p : Program} {l : Launch} {e : Env} {R : Room} {s : State} {m : MethodId} {args : Array Value} {below : List Frame} {meth : Method} {c : Code} {T : State} {locs : List Loc} {cells slots : Nat}
theorem vx_callV (X : Stand p l e R s m args below meth c T locs cells slots) (hexec : p.tables.exec = Jvm.exec) {own C : String} {index : Nat} {y : MethodName} {bytes : ByteArray} {maxL : Nat} {ret : Option FieldType}
    (hown : s.vm.findClass own = some m.cls) (hlink : (Cond.methodLink own index y).before args s = true) (hinst : (Cond.instanceMethod y).before args s = true) (hsel : (Cond.selects C y y).before args s = true)
    (hcode : (Cond.code y bytes maxL ret).before args s = true) (hy : y.cls ≠ "java/lang/invoke/MethodHandle" ∧ y.cls ≠ "java/lang/invoke/VarHandle")
    {W9 : Nat} {Pre : Pt → Array Value → Prop} {Post : Pt → Array Value → Option Value → Pt → Prop} {PostX : Pt → Array Value → Addr → Pt → Prop} (hK : vx_Back l R p e below s args y 3 W9 Pre Post PostX)
    {b : Addr} {cellB : Cell} (hcell : T.heap[b]? = some cellB) (hobj : cellB.vm.isStatics = false) (hcls : s.vm.findClass C = some cellB.cls)
    {g : JFrame} (hg : g.method = m) (hsize : g.locals.size = c.maxLocals) {argsL rest : List Value} (hlen : ∀ sig, parseMethodDescriptor y.desc = some sig → argsL.length = sig.parameters.length)
    (hstack : g.stack = argsL.reverse ++ .ref b :: rest) (hW : 2 * g.monitorRoom + (rest.map fun v => v.category).sum ≤ W9) (hdg : decode c.code g.pc = .ok (.invokevirtual index, 3))
    (hpre : ∀ vm₁, s.WarmedH vm₁ → Pre ⟨T.setVm vm₁, locs, cells, slots⟩ (Value.ref b :: argsL).toArray) :
    (∃ (v : Option Value) (vm₁ : Vm) (B : Pt), s.WarmedH vm₁ ∧ Stand p l e R s m args below meth c B.U B.locs B.cells B.slots ∧ Post ⟨T.setVm vm₁, locs, cells, slots⟩ (Value.ref b :: argsL).toArray v B ∧
      ∀ target, Steps p.tables e below (B.U.setTop { g with pc := g.pc + 3, stack := v.toList ++ rest }) target → Steps p.tables e below (T.setTop g) target) ∨
    (∃ (q : Addr) (vm₁ : Vm) (B : Pt), s.WarmedH vm₁ ∧ Stand p l e R s m args below meth c B.U B.locs B.cells B.slots ∧ PostX ⟨T.setVm vm₁, locs, cells, slots⟩ (Value.ref b :: argsL).toArray q B ∧
      Steps p.tables e below (T.setTop g) ((B.U.setTop { g with stack := rest }).pushFrame (.throwing q))) := by
  obtain ⟨mk, methM, hnamed, hmethM, hstM, habM⟩ := Cond.instanceMethod_spec hinst
  obtain ⟨methM', cM, hmethM', -, -, -, -, -, -, hsigM⟩ := Cond.code_spec hnamed hcode
  cases hmethM.symm.trans hmethM'
  obtain ⟨c2, r2, m2, q1, q2, q3, q4, kP, hkP, hkPi⟩ := Cond.selects_spec hsel
  cases hcls.symm.trans q1
  cases (State.methodFound?_of_named hnamed hy).symm.trans q2
  cases hnamed.symm.trans q3
  have hselP : selectMethod e.platform s.vm cellB.cls mk = .method mk := by rw [Launch.admits_selectMethod X.admits]; exact q4
  obtain ⟨vm₁, X₁, hstep₁⟩ := X.invokevirtual hexec hown hlink hnamed hmethM hstM hkP hkPi hy (a := b) (cell := cellB) hcell
    (fun z h => by rw [h] at hobj; cases hobj) hselP hmethM habM hkP hkPi (g := g) hg (argsL := argsL) (rest := rest) (hlen _ hsigM) hstack hdg
  rcases hK m meth c ⟨T.setVm vm₁, locs, cells, slots⟩ { g with stack := rest } (.invokevirtual index) mk (Value.ref b :: argsL).toArray X₁ hg hsize hdg hW (X₁.named hnamed) (hpre vm₁ X₁.warmed) with ⟨v, B, X', hpost, hsteps⟩ | ⟨q, B, X', hpost, hsteps⟩
  · exact Or.inl ⟨v, vm₁, B, X₁.warmed, X', hpost, fun target h => hstep₁ _ fun acts => by rw [doInvoke_state]; exact hsteps.trans h⟩
  · exact Or.inr ⟨q, vm₁, B, X₁.warmed, X', hpost, hstep₁ _ fun acts => by rw [doInvoke_state]; exact hsteps⟩
theorem vx_callS (X : Stand p l e R s m args below meth c T locs cells slots) (hexec : p.tables.exec = Jvm.exec) {own : String} {index : Nat} {y : MethodName} {bytes : ByteArray} {maxL : Nat} {ret : Option FieldType}
    (hown : s.vm.findClass own = some m.cls) (hlink : (Cond.methodLink own index y).before args s = true) (hstat : (Cond.static y).before args s = true) (hinit : (Cond.initialized y.cls).before args s = true)
    (hcode : (Cond.code y bytes maxL ret).before args s = true) (hy : y.cls ≠ "java/lang/invoke/MethodHandle" ∧ y.cls ≠ "java/lang/invoke/VarHandle")
    {W9 : Nat} {Pre : Pt → Array Value → Prop} {Post : Pt → Array Value → Option Value → Pt → Prop} {PostX : Pt → Array Value → Addr → Pt → Prop} (hK : vx_Back l R p e below s args y 3 W9 Pre Post PostX)
    {g : JFrame} (hg : g.method = m) (hsize : g.locals.size = c.maxLocals) {argsL rest : List Value} (hlen : ∀ sig, parseMethodDescriptor y.desc = some sig → argsL.length = sig.parameters.length)
    (hstack : g.stack = argsL.reverse ++ rest) (hW : 2 * g.monitorRoom + (rest.map fun v => v.category).sum ≤ W9) (hdg : decode c.code g.pc = .ok (.invokestatic index, 3))
    (hpre : ∀ vm₁, s.WarmedH vm₁ → Pre ⟨T.setVm vm₁, locs, cells, slots⟩ argsL.toArray) :
    (∃ (v : Option Value) (vm₁ : Vm) (B : Pt), s.WarmedH vm₁ ∧ Stand p l e R s m args below meth c B.U B.locs B.cells B.slots ∧ Post ⟨T.setVm vm₁, locs, cells, slots⟩ argsL.toArray v B ∧
      ∀ target, Steps p.tables e below (B.U.setTop { g with pc := g.pc + 3, stack := v.toList ++ rest }) target → Steps p.tables e below (T.setTop g) target) ∨
    (∃ (q : Addr) (vm₁ : Vm) (B : Pt), s.WarmedH vm₁ ∧ Stand p l e R s m args below meth c B.U B.locs B.cells B.slots ∧ PostX ⟨T.setVm vm₁, locs, cells, slots⟩ argsL.toArray q B ∧
      Steps p.tables e below (T.setTop g) ((B.U.setTop { g with stack := rest }).pushFrame (.throwing q))) := by
  obtain ⟨mk, hnamed⟩ := Cond.code_named hcode
  obtain ⟨methM, cM, hmethM, -, -, -, -, -, -, hsigM⟩ := Cond.code_spec hnamed hcode
  have hstatic : methM.isStatic = true := Cond.static_spec hnamed hmethM hstat
  obtain ⟨kP, hkP, -⟩ := className_of_methodNamed hnamed
  have hinitP : kP.init = .initialized := Cond.initialized_spec (findClass_of_methodNamed hnamed) hkP hinit
  obtain ⟨vm₁, X₁, hstep₁⟩ := X.invokestatic hexec hown hlink hnamed hmethM hstatic hkP hinitP hy (g := g) hg (argsL := argsL) (rest := rest) (hlen _ hsigM) hstack hdg
  rcases hK m meth c ⟨T.setVm vm₁, locs, cells, slots⟩ { g with stack := rest } (.invokestatic index) mk argsL.toArray X₁ hg hsize hdg hW (X₁.named hnamed) (hpre vm₁ X₁.warmed) with ⟨v, B, X', hpost, hsteps⟩ | ⟨q, B, X', hpost, hsteps⟩
  · exact Or.inl ⟨v, vm₁, B, X₁.warmed, X', hpost, fun target h => hstep₁ _ fun acts => by rw [doInvoke_state]; exact hsteps.trans h⟩
  · exact Or.inr ⟨q, vm₁, B, X₁.warmed, X', hpost, hstep₁ _ fun acts => by rw [doInvoke_state]; exact hsteps⟩
end Calls
theorem vx_cls {s : State} {T : State} {vm₁ : Vm} {E : String} {k : ClassId} (hW : s.WarmedH vm₁) (h : (T.setVm vm₁).vm.findClass E = some k) : s.vm.findClass E = some k := by
  have h1 : vm₁.findClass E = some k := h
  rw [hW.alike.findClass] at h1
  exact h1
/-- the method's frame g, with q thrown over it -/
def vx_W (p : Program) (l : Launch) (e : Env) (R : Room) (s : State) (m : MethodId) (args : Array Value) (below : List Frame) (meth : Method) (c : Code) (H : Heap) (locs : List Loc) (cells slots : Nat) (Q : State → Prop) (g : JFrame) (q : Addr) : Prop :=
  ∀ T : State, T.heap = H → Stand p l e R s m args below meth c T locs cells slots → ∃ t, Steps p.tables e below ((T.setTop g).pushFrame (.throwing q)) t ∧ Q t
def vx_Run (p : Program) (l : Launch) (e : Env) (R : Room) (s : State) (m : MethodId) (args : Array Value) (below : List Frame) (meth : Method) (c : Code) (H : Heap) (locs : List Loc) (cells slots mc ms : Nat) (g : JFrame) (rest : List Value) (Qa : State → Outcome → State → Prop) (XC : String → State → State → Prop) (free : Addr → Prop) : Prop :=
  ∀ T : State, T.heap = H → Stand p l e R s m args below meth c T locs cells slots →
    (∃ (v : Option Value) (st₀ t T' : State) (L : List Loc), st₀.heap = H ∧ Stand p l e R s m args below meth c T' (locs ++ L) (cells + mc) (slots + ms) ∧ (∀ q ∈ L, free q.base) ∧ T'.heap = t.heap ∧ T'.vm = t.vm ∧ Qa st₀ (.returned v) t ∧
      Goes p e below T g T' { g with pc := g.pc + 3, stack := v.toList ++ rest }) ∨
    (∃ (q : Addr) (st₀ t T' : State) (L : List Loc) (E : String) (ce : Cell), st₀.heap = H ∧ Stand p l e R s m args below meth c T' (locs ++ L) (cells + mc) (slots + ms) ∧ (∀ z ∈ L, free z.base) ∧ T'.heap = t.heap ∧ T'.vm = t.vm ∧ XC E st₀ t ∧ t.heap[q]? = some ce ∧ ce.vm = .none ∧ s.vm.findClass E = some ce.cls ∧
      Steps p.tables e below (T.setTop g) ((T'.setTop { g with stack := rest }).pushFrame (.throwing q)))
def vx_X {S : Type} (px : S → Prop) (B : String → S → State → Prop) (A : Nat → Prop) : String → State → State → Prop := fun E st t => ∃ u : S, px u ∧ B E u t ∧ va_F A st t
section Runs
variable {p : Program} {l : Launch} {e : Env} {R : Room} {s : State} {m : MethodId} {args : Array Value} {below : List Frame} {meth : Method} {c : Code} {H : Heap} {locs : List Loc} {cells slots : Nat}
variable {y : MethodName} {bytes cc : ByteArray} {maxL nL mc ms n index : Nat} {ret : Option FieldType} {ws : List Cond} {rm : Room} {Pc : Array Value → State → Prop} {Qc : Array Value → State → Outcome → State → Prop} {XC : String → State → State → Prop} {free : Addr → Prop} {Ts : List Cond} {own C : String} {b : Addr} {As rest : List Value} {g : JFrame}
theorem vx_callBack (cb : CallB R s args own index y bytes maxL ret ws rm mc ms n) (hM : vx_Met l y ws rm Pc Qc XC mc ms free) (hbl : FrameBlind Pc) : vx_Back l R p e below s args y 3 8 (PreOf R mc ms Pc) (PostOf Qc mc ms free) (vx_Post XC mc ms free) := by
  obtain ⟨hrc, hrs, hfr, hlo, hws, hcw, -, hini, -⟩ := cb
  exact vx_back (bytes := bytes) (maxL := maxL) (ret := ret) hM hbl hrc hrs hfr hlo hws hcw (fun a' U hW => word_at hW (Or.inl (by first | rfl | simp [Cond.onTables, Cond.keeps, Cond.steady])) hini)
theorem vx_runV (S : CallFix p m c cc nL s args Ts own) (hM : vx_Met l y ws rm Pc Qc XC mc ms free) (cw : CallW R s args own C index y bytes maxL ret ws rm mc ms n) (hp : PreV s H C b Pc As)
    (hg : g.method = m) (hn : As.length = n) (hsize : g.locals.size = nL) (hstack : g.stack = As.reverse ++ .ref b :: rest) (hW : 2 * g.monitorRoom + (rest.map fun v => v.category).sum ≤ 8) (hdg : decode cc g.pc = .ok (.invokevirtual index, 3)) (hf : cells + mc ≤ R.cells ∧ slots + ms ≤ R.slots) :
    vx_Run p l e R s m args below meth c H locs cells slots mc ms g rest (Qc (Value.ref b :: As).toArray) XC free := by
  have hK : vx_Back l R p e below s args y 3 8 (PreOf R mc ms Pc) (PostOf Qc mc ms free) (vx_Post XC mc ms free) := vx_callBack cw.1 hM hp.1
  obtain ⟨⟨-, -, -, -, -, -, hcode, -, hy, hlen, hl⟩, hin, hse⟩ := cw
  obtain ⟨hx, hb, hml, ho, -⟩ := S
  obtain ⟨-, ⟨cellB, hcB, hoB, hclB⟩, hPc⟩ := hp
  intro T hT X
  rcases vx_callV X hx (C := C) (bytes := bytes) (maxL := maxL) (ret := ret) ho hl hin hse hcode hy hK (by rw [hT]; exact hcB) hoB hclB hg (hsize.trans hml.symm) (argsL := As) (rest := rest) (fun sig h => hn.trans (hlen sig h)) hstack hW (by rw [hb]; exact hdg)
    (fun vm₁ hW₁ => ⟨hf.1, hf.2, hPc (T.setVm vm₁) hT hW₁⟩) with ⟨v, vm₁, ⟨U', l2, c2, s2⟩, hW₁, X', ⟨g', mk, t, L, e1, e2, hq, h1, hL, h2, h3⟩, st⟩ | ⟨q, vm₁, ⟨U', l2, c2, s2⟩, hW₁, X', ⟨g', mk, t, L, E, ce, e1, e2, hq, hce, hcv, hcl, h1, hL, h2, h3⟩, st⟩
  · dsimp only [Pt.U, Pt.locs, Pt.cells, Pt.slots] at X' e1 e2 h1 h2 h3 st
    subst h1; subst h2; subst h3
    exact Or.inl ⟨v, (T.setVm vm₁).calling g' mk (Value.ref b :: As).toArray, t, U', L, hT, X', hL, e1, e2, hq, st⟩
  · dsimp only [Pt.U, Pt.locs, Pt.cells, Pt.slots] at X' e1 e2 h1 h2 h3 st hcl
    subst h1; subst h2; subst h3
    exact Or.inr ⟨q, (T.setVm vm₁).calling g' mk (Value.ref b :: As).toArray, t, U', L, E, ce, hT, X', hL, e1, e2, hq, hce, hcv, vx_cls hW₁ hcl, st⟩
theorem vx_runS (S : CallFix p m c cc nL s args Ts own) (hM : vx_Met l y ws rm Pc Qc XC mc ms free) (cw : CallB R s args own index y bytes maxL ret ws rm mc ms n ∧ (Cond.static y).before args s = true) (hp : PreS s H Pc As)
    (hg : g.method = m) (hn : As.length = n) (hsize : g.locals.size = nL) (hstack : g.stack = As.reverse ++ rest) (hW : 2 * g.monitorRoom + (rest.map fun v => v.category).sum ≤ 8) (hdg : decode cc g.pc = .ok (.invokestatic index, 3)) (hf : cells + mc ≤ R.cells ∧ slots + ms ≤ R.slots) :
    vx_Run p l e R s m args below meth c H locs cells slots mc ms g rest (Qc As.toArray) XC free := by
  have hK : vx_Back l R p e below s args y 3 8 (PreOf R mc ms Pc) (PostOf Qc mc ms free) (vx_Post XC mc ms free) := vx_callBack cw.1 hM hp.1
  obtain ⟨⟨-, -, -, -, -, -, hcode, hini, hy, hlen, hl⟩, hstt⟩ := cw
  obtain ⟨hx, hb, hml, ho, -⟩ := S
  intro T hT X
  rcases vx_callS X hx (bytes := bytes) (maxL := maxL) (ret := ret) ho hl hstt hini hcode hy hK hg (hsize.trans hml.symm) (argsL := As) (rest := rest) (fun sig h => hn.trans (hlen sig h)) hstack hW (by rw [hb]; exact hdg)
    (fun vm₁ hW₁ => ⟨hf.1, hf.2, hp.2 (T.setVm vm₁) hT hW₁⟩) with ⟨v, vm₁, ⟨U', l2, c2, s2⟩, hW₁, X', ⟨g', mk, t, L, e1, e2, hq, h1, hL, h2, h3⟩, st⟩ | ⟨q, vm₁, ⟨U', l2, c2, s2⟩, hW₁, X', ⟨g', mk, t, L, E, ce, e1, e2, hq, hce, hcv, hcl, h1, hL, h2, h3⟩, st⟩
  · dsimp only [Pt.U, Pt.locs, Pt.cells, Pt.slots] at X' e1 e2 h1 h2 h3 st
    subst h1; subst h2; subst h3
    exact Or.inl ⟨v, (T.setVm vm₁).calling g' mk As.toArray, t, U', L, hT, X', hL, e1, e2, hq, st⟩
  · dsimp only [Pt.U, Pt.locs, Pt.cells, Pt.slots] at X' e1 e2 h1 h2 h3 st hcl
    subst h1; subst h2; subst h3
    exact Or.inr ⟨q, (T.setVm vm₁).calling g' mk As.toArray, t, U', L, E, ce, hT, X', hL, e1, e2, hq, hce, hcv, vx_cls hW₁ hcl, st⟩
end Runs
section Rows
variable {p : Program} {l : Launch} {e : Env} {R : Room} {s : State} {m : MethodId} {args : Array Value} {below : List Frame} {meth : Method} {c : Code} {H : Heap} {locs : List Loc} {cells slots : Nat} {Q : State → Prop}
variable {mc ms : Nat} {free : Addr → Prop} {A0 A1 : Nat → Prop} {H0 : Heap} {a : Array Value} {pc : Nat} {ls : Array Slot} {st0 rest : List Value}
theorem vx_keep {st₀ t T' : State} {L : List Loc} (h0 : st₀.heap = H) (e1 : T'.heap = t.heap) (hS : va_S A0 H0 H locs) (hA : ∀ q, q < H.size → A1 q → A0 q) (hf : ∀ q, free q → A0 q) (hL : ∀ q ∈ L, free q.base) (hF : va_F A1 st₀ t) :
    H.size ≤ T'.heap.size ∧ (∀ q : Nat, q < H.size → ¬ A1 q → T'.heap[q]? = H[q]?) ∧ va_S A0 H0 T'.heap (locs ++ L) := by
  obtain ⟨hz, hk⟩ := hF
  rw [h0] at hz hk
  exact ⟨by rw [e1]; exact hz, fun q h1 h2 => by rw [e1]; exact hk q h1 h2,
    ⟨Nat.le_trans hS.1 (by rw [e1]; exact hz), fun q h1 h2 => by rw [e1, hk q (Nat.lt_of_lt_of_le h1 hS.1) (fun z => h2 (hA q (Nat.lt_of_lt_of_le h1 hS.1) z))]; exact hS.2.1 q h1 h2, fun q hq => by
      rcases List.mem_append.mp hq with h | h
      · exact hS.2.2 q h
      · exact hf _ (hL q h)⟩⟩
theorem vx_calli {S SX : Type} {post : Int32 → S → Prop} {px : SX → Prop} {B : S → State → Prop} {BX : String → SX → State → Prop} {AX : Nat → Prop} (hr : vx_Run p l e R s m args below meth c H locs cells slots mc ms (F0 m pc ls st0) rest (va_Qi post B A1 a) (vx_X px BX AX) free) (hS : va_S A0 H0 H locs) (hA : ∀ q, q < H.size → A1 q → A0 q) (hf : ∀ q, free q → A0 q) (hAX : ∀ q, q < H.size → AX q → A0 q)
    (kx : ∀ (E : String) (ce : Cell) (q9 : Addr) (u : SX) (t : State) (H1 : Heap) (locs1 : List Loc), t.heap = H1 → s.vm.Alike t.vm → px u → BX E u t → H.size ≤ H1.size → (∀ q : Nat, q < H.size → ¬ AX q → H1[q]? = H[q]?) → va_S A0 H0 H1 locs1 → H1[q9]? = some ce → ce.vm = .none → s.vm.findClass E = some ce.cls → vx_W p l e R s m args below meth c H1 locs1 (cells + mc) (slots + ms) Q (F0 m pc ls rest) q9)
    (kk : ∀ (r : Int32) (u : S) (t : State) (H1 : Heap) (locs1 : List Loc), t.heap = H1 → s.vm.Alike t.vm → post r u → B u t → H.size ≤ H1.size → (∀ q : Nat, q < H.size → ¬ A1 q → H1[q]? = H[q]?) → va_S A0 H0 H1 locs1 → W p l e R s m args below meth c H1 locs1 (cells + mc) (slots + ms) Q (F0 m (pc + 3) ls (.int r :: rest))) : W p l e R s m args below meth c H locs cells slots Q (F0 m pc ls st0) := by
  intro T hT X
  rcases hr T hT X with ⟨v, st₀, t, T', L, h0, X', hL, e1, e2, ⟨⟨r, u, hv, hp, hb⟩, hF⟩, st⟩ | ⟨q, st₀, t, T', L, E, ce, h0, X', hL, e1, e2, ⟨u, hp, hb, hF⟩, hce, hcv, hcl, st⟩
  · cases hv
    obtain ⟨k1, k2, k3⟩ := vx_keep h0 e1 hS hA hf hL hF
    obtain ⟨t2, a1, b1⟩ := kk r u t T'.heap (locs ++ L) e1.symm (by rw [← e2]; exact X'.warmed.alike) hp hb k1 k2 k3 T' rfl X'
    exact ⟨t2, st t2 a1, b1⟩
  · obtain ⟨k1, k2, k3⟩ := vx_keep h0 e1 hS hAX hf hL hF
    obtain ⟨t2, a1, b1⟩ := kx E ce q u t T'.heap (locs ++ L) e1.symm (by rw [← e2]; exact X'.warmed.alike) hp hb k1 k2 k3 (by rw [e1]; exact hce) hcv hcl T' rfl X'
    exact ⟨t2, st.trans a1, b1⟩
theorem vx_calll {S SX : Type} {post : Int64 → S → Prop} {px : SX → Prop} {B : S → State → Prop} {BX : String → SX → State → Prop} {AX : Nat → Prop} (hr : vx_Run p l e R s m args below meth c H locs cells slots mc ms (F0 m pc ls st0) rest (va_Ql post B A1 a) (vx_X px BX AX) free) (hS : va_S A0 H0 H locs) (hA : ∀ q, q < H.size → A1 q → A0 q) (hf : ∀ q, free q → A0 q) (hAX : ∀ q, q < H.size → AX q → A0 q)
    (kx : ∀ (E : String) (ce : Cell) (q9 : Addr) (u : SX) (t : State) (H1 : Heap) (locs1 : List Loc), t.heap = H1 → s.vm.Alike t.vm → px u → BX E u t → H.size ≤ H1.size → (∀ q : Nat, q < H.size → ¬ AX q → H1[q]? = H[q]?) → va_S A0 H0 H1 locs1 → H1[q9]? = some ce → ce.vm = .none → s.vm.findClass E = some ce.cls → vx_W p l e R s m args below meth c H1 locs1 (cells + mc) (slots + ms) Q (F0 m pc ls rest) q9)
    (kk : ∀ (r : Int64) (u : S) (t : State) (H1 : Heap) (locs1 : List Loc), t.heap = H1 → s.vm.Alike t.vm → post r u → B u t → H.size ≤ H1.size → (∀ q : Nat, q < H.size → ¬ A1 q → H1[q]? = H[q]?) → va_S A0 H0 H1 locs1 → W p l e R s m args below meth c H1 locs1 (cells + mc) (slots + ms) Q (F0 m (pc + 3) ls (.long r :: rest))) : W p l e R s m args below meth c H locs cells slots Q (F0 m pc ls st0) := by
  intro T hT X
  rcases hr T hT X with ⟨v, st₀, t, T', L, h0, X', hL, e1, e2, ⟨⟨r, u, hv, hp, hb⟩, hF⟩, st⟩ | ⟨q, st₀, t, T', L, E, ce, h0, X', hL, e1, e2, ⟨u, hp, hb, hF⟩, hce, hcv, hcl, st⟩
  · cases hv
    obtain ⟨k1, k2, k3⟩ := vx_keep h0 e1 hS hA hf hL hF
    obtain ⟨t2, a1, b1⟩ := kk r u t T'.heap (locs ++ L) e1.symm (by rw [← e2]; exact X'.warmed.alike) hp hb k1 k2 k3 T' rfl X'
    exact ⟨t2, st t2 a1, b1⟩
  · obtain ⟨k1, k2, k3⟩ := vx_keep h0 e1 hS hAX hf hL hF
    obtain ⟨t2, a1, b1⟩ := kx E ce q u t T'.heap (locs ++ L) e1.symm (by rw [← e2]; exact X'.warmed.alike) hp hb k1 k2 k3 (by rw [e1]; exact hce) hcv hcl T' rfl X'
    exact ⟨t2, st.trans a1, b1⟩
theorem vx_callf {S SX : Type} {post : UInt32 → S → Prop} {px : SX → Prop} {B : S → State → Prop} {BX : String → SX → State → Prop} {AX : Nat → Prop} (hr : vx_Run p l e R s m args below meth c H locs cells slots mc ms (F0 m pc ls st0) rest (va_Qf post B A1 a) (vx_X px BX AX) free) (hS : va_S A0 H0 H locs) (hA : ∀ q, q < H.size → A1 q → A0 q) (hf : ∀ q, free q → A0 q) (hAX : ∀ q, q < H.size → AX q → A0 q)
    (kx : ∀ (E : String) (ce : Cell) (q9 : Addr) (u : SX) (t : State) (H1 : Heap) (locs1 : List Loc), t.heap = H1 → s.vm.Alike t.vm → px u → BX E u t → H.size ≤ H1.size → (∀ q : Nat, q < H.size → ¬ AX q → H1[q]? = H[q]?) → va_S A0 H0 H1 locs1 → H1[q9]? = some ce → ce.vm = .none → s.vm.findClass E = some ce.cls → vx_W p l e R s m args below meth c H1 locs1 (cells + mc) (slots + ms) Q (F0 m pc ls rest) q9)
    (kk : ∀ (r : UInt32) (u : S) (t : State) (H1 : Heap) (locs1 : List Loc), t.heap = H1 → s.vm.Alike t.vm → post r u → B u t → H.size ≤ H1.size → (∀ q : Nat, q < H.size → ¬ A1 q → H1[q]? = H[q]?) → va_S A0 H0 H1 locs1 → W p l e R s m args below meth c H1 locs1 (cells + mc) (slots + ms) Q (F0 m (pc + 3) ls (.float r :: rest))) : W p l e R s m args below meth c H locs cells slots Q (F0 m pc ls st0) := by
  intro T hT X
  rcases hr T hT X with ⟨v, st₀, t, T', L, h0, X', hL, e1, e2, ⟨⟨r, u, hv, hp, hb⟩, hF⟩, st⟩ | ⟨q, st₀, t, T', L, E, ce, h0, X', hL, e1, e2, ⟨u, hp, hb, hF⟩, hce, hcv, hcl, st⟩
  · cases hv
    obtain ⟨k1, k2, k3⟩ := vx_keep h0 e1 hS hA hf hL hF
    obtain ⟨t2, a1, b1⟩ := kk r u t T'.heap (locs ++ L) e1.symm (by rw [← e2]; exact X'.warmed.alike) hp hb k1 k2 k3 T' rfl X'
    exact ⟨t2, st t2 a1, b1⟩
  · obtain ⟨k1, k2, k3⟩ := vx_keep h0 e1 hS hAX hf hL hF
    obtain ⟨t2, a1, b1⟩ := kx E ce q u t T'.heap (locs ++ L) e1.symm (by rw [← e2]; exact X'.warmed.alike) hp hb k1 k2 k3 (by rw [e1]; exact hce) hcv hcl T' rfl X'
    exact ⟨t2, st.trans a1, b1⟩
theorem vx_calld {S SX : Type} {post : UInt64 → S → Prop} {px : SX → Prop} {B : S → State → Prop} {BX : String → SX → State → Prop} {AX : Nat → Prop} (hr : vx_Run p l e R s m args below meth c H locs cells slots mc ms (F0 m pc ls st0) rest (va_Qd post B A1 a) (vx_X px BX AX) free) (hS : va_S A0 H0 H locs) (hA : ∀ q, q < H.size → A1 q → A0 q) (hf : ∀ q, free q → A0 q) (hAX : ∀ q, q < H.size → AX q → A0 q)
    (kx : ∀ (E : String) (ce : Cell) (q9 : Addr) (u : SX) (t : State) (H1 : Heap) (locs1 : List Loc), t.heap = H1 → s.vm.Alike t.vm → px u → BX E u t → H.size ≤ H1.size → (∀ q : Nat, q < H.size → ¬ AX q → H1[q]? = H[q]?) → va_S A0 H0 H1 locs1 → H1[q9]? = some ce → ce.vm = .none → s.vm.findClass E = some ce.cls → vx_W p l e R s m args below meth c H1 locs1 (cells + mc) (slots + ms) Q (F0 m pc ls rest) q9)
    (kk : ∀ (r : UInt64) (u : S) (t : State) (H1 : Heap) (locs1 : List Loc), t.heap = H1 → s.vm.Alike t.vm → post r u → B u t → H.size ≤ H1.size → (∀ q : Nat, q < H.size → ¬ A1 q → H1[q]? = H[q]?) → va_S A0 H0 H1 locs1 → W p l e R s m args below meth c H1 locs1 (cells + mc) (slots + ms) Q (F0 m (pc + 3) ls (.double r :: rest))) : W p l e R s m args below meth c H locs cells slots Q (F0 m pc ls st0) := by
  intro T hT X
  rcases hr T hT X with ⟨v, st₀, t, T', L, h0, X', hL, e1, e2, ⟨⟨r, u, hv, hp, hb⟩, hF⟩, st⟩ | ⟨q, st₀, t, T', L, E, ce, h0, X', hL, e1, e2, ⟨u, hp, hb, hF⟩, hce, hcv, hcl, st⟩
  · cases hv
    obtain ⟨k1, k2, k3⟩ := vx_keep h0 e1 hS hA hf hL hF
    obtain ⟨t2, a1, b1⟩ := kk r u t T'.heap (locs ++ L) e1.symm (by rw [← e2]; exact X'.warmed.alike) hp hb k1 k2 k3 T' rfl X'
    exact ⟨t2, st t2 a1, b1⟩
  · obtain ⟨k1, k2, k3⟩ := vx_keep h0 e1 hS hAX hf hL hF
    obtain ⟨t2, a1, b1⟩ := kx E ce q u t T'.heap (locs ++ L) e1.symm (by rw [← e2]; exact X'.warmed.alike) hp hb k1 k2 k3 (by rw [e1]; exact hce) hcv hcl T' rfl X'
    exact ⟨t2, st.trans a1, b1⟩
theorem vx_callv {S SX : Type} {post : S → Prop} {px : SX → Prop} {B : S → State → Prop} {BX : String → SX → State → Prop} {AX : Nat → Prop} (hr : vx_Run p l e R s m args below meth c H locs cells slots mc ms (F0 m pc ls st0) rest (va_Qv post B A1 a) (vx_X px BX AX) free) (hS : va_S A0 H0 H locs) (hA : ∀ q, q < H.size → A1 q → A0 q) (hf : ∀ q, free q → A0 q) (hAX : ∀ q, q < H.size → AX q → A0 q)
    (kx : ∀ (E : String) (ce : Cell) (q9 : Addr) (u : SX) (t : State) (H1 : Heap) (locs1 : List Loc), t.heap = H1 → s.vm.Alike t.vm → px u → BX E u t → H.size ≤ H1.size → (∀ q : Nat, q < H.size → ¬ AX q → H1[q]? = H[q]?) → va_S A0 H0 H1 locs1 → H1[q9]? = some ce → ce.vm = .none → s.vm.findClass E = some ce.cls → vx_W p l e R s m args below meth c H1 locs1 (cells + mc) (slots + ms) Q (F0 m pc ls rest) q9)
    (kk : ∀ (u : S) (t : State) (H1 : Heap) (locs1 : List Loc), t.heap = H1 → s.vm.Alike t.vm → post u → B u t → H.size ≤ H1.size → (∀ q : Nat, q < H.size → ¬ A1 q → H1[q]? = H[q]?) → va_S A0 H0 H1 locs1 → W p l e R s m args below meth c H1 locs1 (cells + mc) (slots + ms) Q (F0 m (pc + 3) ls (rest))) : W p l e R s m args below meth c H locs cells slots Q (F0 m pc ls st0) := by
  intro T hT X
  rcases hr T hT X with ⟨v, st₀, t, T', L, h0, X', hL, e1, e2, ⟨⟨u, hv, hp, hb⟩, hF⟩, st⟩ | ⟨q, st₀, t, T', L, E, ce, h0, X', hL, e1, e2, ⟨u, hp, hb, hF⟩, hce, hcv, hcl, st⟩
  · cases hv
    obtain ⟨k1, k2, k3⟩ := vx_keep h0 e1 hS hA hf hL hF
    obtain ⟨t2, a1, b1⟩ := kk u t T'.heap (locs ++ L) e1.symm (by rw [← e2]; exact X'.warmed.alike) hp hb k1 k2 k3 T' rfl X'
    exact ⟨t2, st t2 a1, b1⟩
  · obtain ⟨k1, k2, k3⟩ := vx_keep h0 e1 hS hAX hf hL hF
    obtain ⟨t2, a1, b1⟩ := kx E ce q u t T'.heap (locs ++ L) e1.symm (by rw [← e2]; exact X'.warmed.alike) hp hb k1 k2 k3 (by rw [e1]; exact hce) hcv hcl T' rfl X'
    exact ⟨t2, st.trans a1, b1⟩
end Rows
section Ends
variable {p : Program} {l : Launch} {e : Env} {R : Room} {s : State} {m : MethodId} {args : Array Value} {below : List Frame} {meth : Method} {c : Code} {H : Heap} {locs : List Loc} {cells slots : Nat} {Q : State → Prop}
variable {mc ms : Nat} {free : Addr → Prop} {A0 A1 : Nat → Prop} {H0 : Heap} {a : Array Value} {ls : Array Slot} {st0 rest : List Value}
variable {Qc : Array Value → State → Outcome → State → Prop} {XC : String → State → State → Prop}
/-- what a body that may throw owes at its end -/
def vx_MQ (below : List Frame) (Qc : Array Value → State → Outcome → State → Prop) (XC : String → State → State → Prop) (a : Array Value) (s : State) (mc ms : Nat) (free : Addr → Prop) : State → Prop := fun t =>
  ∃ o, t.status = .running ∧ Ended t below o ∧ vx_Q Qc XC mc ms free a s o t
theorem vx_ret {g : JFrame} {mc ms : Nat} (k : W p l e R s m args below meth c H locs cells slots (MQ below Qc args s mc ms free) g) : W p l e R s m args below meth c H locs cells slots (vx_MQ below Qc XC args s mc ms free) g := by
  intro T hT X
  obtain ⟨t, a1, o, b1, b2, b3, b4⟩ := k T hT X
  exact ⟨t, a1, o, b1, b2, Or.inl ⟨b3, b4⟩⟩
/-- not caught here: it goes on to the caller -/
theorem vx_widen {g : JFrame} {q : Addr} {k n : Nat} (h1 : cells ≤ k) (h2 : slots ≤ n) (kk : vx_W p l e R s m args below meth c H locs k n Q g q) : vx_W p l e R s m args below meth c H locs cells slots Q g q := fun T hT X => kk T hT (stand_widen X h1 h2)
theorem vx_out {pc : Nat} {E : String} {ce : Cell} {q : Addr} {mc ms : Nat} (hout : ∀ x ∈ c.exceptionTable.toList, covers x pc = false) (hlocks : meth.locks = false) (hcell : H[q]? = some ce) (hv : ce.vm = .none) (hcl : s.vm.findClass E = some ce.cls)
    (hx : ∀ t : State, t.heap = H → s.vm.Alike t.vm → XC E s t) (hf : ∀ z ∈ locs, free z.base) (hc : cells ≤ mc) (hs : slots ≤ ms) :
    vx_W p l e R s m args below meth c H locs cells slots (vx_MQ below Qc XC args s mc ms free) (F0 m pc ls rest) q := by
  intro T hT X
  obtain ⟨st1, hrun, hend, hW, hsm⟩ := X.leaveThrown q (g := F0 m pc ls rest) rfl rfl rfl hout hlocks
  have hcell9 : (T.setFrames (.throwing q :: below)).heap[q]? = some ce := by
    show T.heap[q]? = some ce
    rw [hT]; exact hcell
  exact ⟨_, st1, .threw q, hrun, hend, Or.inr ⟨q, rfl, E, ce, locs, hx _ hT hW.alike, hcell9, hv, hcl, hW, hsm.mono hc hs, hf⟩⟩
theorem vx_frame {U : State} {k n : Nat} (h : s.sameButNew ({ U with vm := s.vm } : State) locs k n) : s.heap.size ≤ U.heap.size ∧ ∀ q : Nat, q < s.heap.size → (∀ z ∈ locs, z.base ≠ q) → U.heap[q]? = s.heap[q]? := by
  obtain ⟨-, h2, -, -, -, h6⟩ := h
  refine ⟨h2, fun q hq hz => ?_⟩
  obtain ⟨c9, e1, e2, e3, e4⟩ := h6 q _ (Array.getElem?_eq_getElem hq)
  have hs : c9.slots = (s.heap[q]).slots := Array.ext_getElem? fun i => e4 i fun hm => hz _ hm rfl
  have h9 : c9 = s.heap[q] := by
    rw [hs] at e2
    exact e2
  have e5 : U.heap[q]? = some c9 := e1
  rw [e5, h9, Array.getElem?_eq_getElem hq]
/-- the words of a throw but the four that speak of the heap -/
def vx_no (w : Cond) : Bool := decide (w ≠ .isRef (.static Bundle.tN "UNASSIGNED_STACK" Bundle.steD)) && decide (w ≠ .isRef (.static Bundle.tN "SUPPRESSED_SENTINEL" Bundle.listD)) && decide (w ≠ .laysStatic Bundle.tN "UNASSIGNED_STACK" Bundle.steD) && decide (w ≠ .laysStatic Bundle.tN "SUPPRESSED_SENTINEL" Bundle.listD)
def vx_at0 (own : String) (ic : Nat) (X : String) (names : List String) : List Cond := (Bundle.ownAtoms0 own ic X names).filter vx_no
def vx_atS (own : String) (ic : Nat) (X : String) (names : List String) : List Cond := (Bundle.ownAtoms own ic X names).filter vx_no
/-- a word that the tables alone decide, or a good one -/
def vx_ot (w : Cond) : Bool := w.onTables || goodWord w
theorem vx_ot_at {args a' : Array Value} {s U : State} {w : Cond} (hW : s.WarmedH U.vm) (hvm : s.vm = U.vm) (hg : vx_ot w = true) (h : w.before args s = true) : w.before a' U = true := by
  simp only [vx_ot, Bool.or_eq_true] at hg
  rcases hg with hg | hg
  · exact va_tabs hg hvm h
  · exact word_at hW (good_of_word hg) h
/-- a list's words: the good ones out of the method's own list, the others by premises of their own -/
theorem vx_hat {args : Array Value} {s : State} {L B : List Cond} (h1 : ∀ w ∈ L.filter goodWord, w.before args s = true) (h2 : ∀ w ∈ L.filter (fun w => !goodWord w), w ∈ B) (h3 : ∀ w ∈ B, w.before args s = true) : ∀ w ∈ L, w.before args s = true := by
  intro w hw
  by_cases g : goodWord w = true
  · exact h1 w (List.mem_filter.mpr ⟨hw, g⟩)
  · refine h3 w (h2 w (List.mem_filter.mpr ⟨hw, ?_⟩))
    show (!goodWord w) = true
    cases hgw : goodWord w
    · rfl
    · exact absurd hgw g
theorem vx_c {args : Array Value} {s : State} {w : Cond} {B : List Cond} (h : w.before args s = true) (t : ∀ w ∈ B, w.before args s = true) : ∀ w' ∈ w :: B, w'.before args s = true := fun w' h' => (List.mem_cons.mp h').elim (fun e => by rw [e]; exact h) (t w')
theorem vx_n {args : Array Value} {s : State} : ∀ w ∈ ([] : List Cond), w.before args s = true := fun _ h => nomatch h
theorem vx_own {args : Array Value} {s : State} {L : List Cond} (h1 : ∀ w ∈ L.filter vx_no, w.before args s = true)
    (hU : (Cond.isRef (.static Bundle.tN "UNASSIGNED_STACK" Bundle.steD)).before args s = true) (hN : (Cond.isRef (.static Bundle.tN "SUPPRESSED_SENTINEL" Bundle.listD)).before args s = true)
    (lU : (Cond.laysStatic Bundle.tN "UNASSIGNED_STACK" Bundle.steD).before args s = true) (lN : (Cond.laysStatic Bundle.tN "SUPPRESSED_SENTINEL" Bundle.listD).before args s = true) : ∀ w ∈ L, w.before args s = true := by
  intro w hw
  by_cases e1 : w = .isRef (.static Bundle.tN "UNASSIGNED_STACK" Bundle.steD)
  · rw [e1]; exact hU
  · by_cases e2 : w = .isRef (.static Bundle.tN "SUPPRESSED_SENTINEL" Bundle.listD)
    · rw [e2]; exact hN
    · by_cases e3 : w = .laysStatic Bundle.tN "UNASSIGNED_STACK" Bundle.steD
      · rw [e3]; exact lU
      · by_cases e4 : w = .laysStatic Bundle.tN "SUPPRESSED_SENTINEL" Bundle.listD
        · rw [e4]; exact lN
        · exact h1 w (List.mem_filter.mpr ⟨hw, by unfold vx_no; rw [decide_eq_true e1, decide_eq_true e2, decide_eq_true e3, decide_eq_true e4]; rfl⟩)
/-- where a static field lies, its class's statics cell in H -/
def vx_L (C n d : String) (A : Nat → Prop) (U : State) (H : Heap) : Prop := ∃ (c : ClassId) (k : Class) (i : Nat) (f : Field) (a : Nat) (cell : Cell), U.vm.findClass C = some c ∧ U.fieldFound? C n d = some (c, k, i, f) ∧ f.isStatic = true ∧ k.statics = some a ∧ H[a]? = some cell ∧ cell.vm.isStatics = true ∧ cell.cls = c ∧ f.slot < cell.slots.size ∧ k.staticTypes[f.slot]? = some f.type ∧ ¬ A a
theorem vx_L.moved {C n d : String} {A : Nat → Prop} {u U : State} {H : Heap} (hvm : u.vm.Alike U.vm) (h : vx_L C n d A u H) : vx_L C n d A U H := by
  obtain ⟨c, k, i, f, a, cell, h1, h2, h3, h4, h5, h6, h7, h8, h9, h10⟩ := h
  obtain ⟨k', hi', he⟩ := State.fieldFound?_setVm hvm h2
  exact ⟨c, k', i, f, a, cell, by rw [hvm.findClass]; exact h1, hi', h3, by rw [he]; exact h4, h5, h6, h7, h8, by rw [he]; exact h9, h10⟩
theorem vx_L.kept {C n d : String} {A : Nat → Prop} {U : State} {H H1 : Heap} (h : vx_L C n d A U H) (hq : ∀ a : Nat, a < H.size → ¬ A a → H1[a]? = H[a]?) : vx_L C n d A U H1 := by
  obtain ⟨c, k, i, f, a, cell, h1, h2, h3, h4, h5, h6, h7, h8, h9, h10⟩ := h
  exact ⟨c, k, i, f, a, cell, h1, h2, h3, h4, by rw [hq a (Array.getElem?_eq_some_iff.mp h5).1 h10]; exact h5, h6, h7, h8, h9, h10⟩
theorem vx_L.narrow {C n d : String} {A B : Nat → Prop} {U : State} {H : Heap} (h : vx_L C n d A U H) (hAB : ∀ q, B q → A q) : vx_L C n d B U H := by
  obtain ⟨c, k, i, f, a, cell, h1, h2, h3, h4, h5, h6, h7, h8, h9, h10⟩ := h
  exact ⟨c, k, i, f, a, cell, h1, h2, h3, h4, h5, h6, h7, h8, h9, fun z => h10 (hAB _ z)⟩
theorem vx_L.word {C n d : String} {A : Nat → Prop} {s : State} {args : Array Value} (h : vx_L C n d A s s.heap) : (Cond.laysStatic C n d).before args s = true := by
  obtain ⟨c, k, i, f, a, cell, h1, h2, h3, h4, h5, h6, h7, h8, h9, -⟩ := h
  show (Cond.laysStatic C n d).holds args s none s [] = true
  exact Cond.laysStatic_of h1 h2 h3 h4 h5 h6 h7 h8 h9
/-- .. and what it holds: null or some reference -/
def vx_Zq (C n d : String) (A : Nat → Prop) (U : State) (H : Heap) : Prop := va_Zq C n d A U H ∧ vx_L C n d A U H
theorem vx_Zq.moved {C n d : String} {A : Nat → Prop} {u U : State} {H : Heap} (hvm : u.vm.Alike U.vm) (h : vx_Zq C n d A u H) : vx_Zq C n d A U H := ⟨va_Zq.moved hvm h.1, vx_L.moved hvm h.2⟩
theorem vx_Zq.kept {C n d : String} {A : Nat → Prop} {U : State} {H H1 : Heap} (h : vx_Zq C n d A U H) (hq : ∀ a : Nat, a < H.size → ¬ A a → H1[a]? = H[a]?) : vx_Zq C n d A U H1 := ⟨va_Zq.kept h.1 hq, vx_L.kept h.2 hq⟩
theorem vx_Zq.narrow {C n d : String} {A B : Nat → Prop} {U : State} {H : Heap} (h : vx_Zq C n d A U H) (hAB : ∀ q, B q → A q) : vx_Zq C n d B U H := ⟨va_Zq.narrow h.1 hAB, vx_L.narrow h.2 hAB⟩
theorem vx_Zqof {args : Array Value} {s : State} {C n d : String} {A : Nat → Prop} (hl : (Cond.laysStatic C n d).before args s = true) (hini : (Cond.initialized C).before args s = true) (h : (Cond.isRef (.static C n d)).before args s = true) (hA : ∀ a : Nat, a < s.heap.size → ¬ A a) : vx_Zq C n d A s s.heap := by
  refine ⟨va_Zqof hl hini h hA, ?_⟩
  obtain ⟨c, k, i, f, a, cell, h1, h2, h3, h4, h5, h6, h7, h8, h9⟩ := Cond.laysStatic_spec hl
  exact ⟨c, k, i, f, a, cell, h1, h2, h3, h4, h5, h6, h7, h8, h9, hA a (Array.getElem?_eq_some_iff.mp h5).1⟩
theorem vx_isRef {C n d : String} {v : Value} {A : Nat → Prop} {s : State} {args : Array Value} (h : va_Z C n d v A s s.heap) (hv : v.isRef = true) : (Cond.isRef (.static C n d)).before args s = true := by
  obtain ⟨cf, kf, fi, f, a, cell, h1, h2, h3, h4, h5, h6, h7, -⟩ := h
  have he : (Term.static C n d).eval args s none [] s = some v := by
    simp [Term.eval, State.fieldNamed?, h1, h2, h4, h5, h6, h7]
  simp only [Cond.before, Cond.holds, Cond.value, he]
  cases v <;> simp_all [Value.isRef]
theorem vx_isRefq {C n d : String} {A : Nat → Prop} {s : State} {args : Array Value} (h : va_Zq C n d A s s.heap) : (Cond.isRef (.static C n d)).before args s = true := by
  rcases h with h | ⟨t, h⟩
  · exact vx_isRef h rfl
  · exact vx_isRef h rfl
/-- the same frame, seen from here: as if the method were called anew in this heap -/
theorem vx_rebase {T : State} (X : Stand p l e R s m args below meth c T locs cells slots) {R' : Room} (hf : R'.frames ≤ R.frames) (hl : R'.locals ≤ R.locals) (hc : cells + R'.cells ≤ R.cells) (hs : slots + R'.slots ≤ R.slots) :
    Stand p l e R' ((T.setVm s.vm).setFrames (.invoking m args :: below)) m args below meth c T [] 0 0 := by
  have htop : (T.setVm s.vm).topJava?.isSome := X.here.top
  have hF : ((T.setVm s.vm).setFrames (.invoking m args :: below)).frames = .invoking m args :: below := State.frames_setFrames _ (State.cur_lt_of_top htop)
  obtain ⟨g₀, hg0⟩ := Option.isSome_iff_exists.mp htop
  obtain ⟨r, hr⟩ := State.topJava?_eq_some.mp hg0
  have hl9 : e.platform.stackLimits (T.setVm s.vm).me = e.platform.stackLimits s.me := X.limits
  have hb9 : (T.setVm s.vm).me.stackBytes = s.me.stackBytes := X.bytes
  refine ⟨X.admits, X.cas, X.clock, hF, ?_, X.hears, X.method, X.code, X.here, X.tail, X.warmed, ?_, ?_, ?_⟩
  · have h := X.room
    have hU : ((T.setVm s.vm).setFrames (.invoking m args :: below)).localsInUse = s.localsInUse := by
      rw [State.localsInUse_invoking hF (meth := meth) (c := c) X.method X.code, State.localsInUse_invoking X.frames X.method X.code]
    simp only [State.hasRoom, Bool.and_eq_true, decide_eq_true_eq] at h ⊢
    obtain ⟨⟨⟨⟨h1, h2, h3, h4, h5, h6⟩, h7⟩, h8⟩, h9⟩ := h
    rw [X.frames, List.length_cons] at h2 h3
    have q1 := X.heapSize
    have q2 := X.used
    simp only [hF, hU, List.length_cons, State.stackLimits_setFrames, State.stackBytes_setFrames, hl9, hb9]
    refine ⟨⟨⟨⟨by omega, by omega, by omega, by omega, by omega, h6⟩, ?_⟩, ?_⟩, X.book⟩
    · show T.heap.size + R'.cells ≤ e.platform.maxCells
      omega
    · show T.slotsUsed + R'.slots ≤ e.platform.maxSlots
      omega
  · rw [State.stackLimits_setFrames]; rfl
  · rw [State.stackBytes_setFrames]; rfl
  · refine ⟨?_, Nat.le_refl _, Nat.le_refl _, ?_, ?_, fun a c9 h9 => ⟨c9, h9, rfl, rfl, fun _ _ => rfl⟩⟩
    · obtain ⟨t, ht, -⟩ := State.frames_cons hr
      show T.setVm s.vm = { ((T.setVm s.vm).setFrames (.invoking m args :: below)).setFrames (T.setVm s.vm).frames with heap := T.heap, slotsUsed := T.slotsUsed }
      rw [State.setFrames_setFrames, State.setFrames_self ht]
      rfl
    · show T.slotsUsed = T.slotsUsed + ((T.heap.toList.drop T.heap.size).map (·.slots.size)).sum
      rw [List.drop_eq_nil_of_le (Nat.le_of_eq Array.length_toList)]
      rfl
    · show ((T.heap.toList.drop T.heap.size).map (·.slots.size)).sum ≤ 0
      rw [List.drop_eq_nil_of_le (Nat.le_of_eq Array.length_toList)]
      exact Nat.le_refl _
/-- 'throw new E()': new; dup; invokespecial; athrow -/
theorem vx_throw0 {cc : ByteArray} {pc : Nat} (hexec : p.tables.exec = Jvm.exec) (hb : c.code = cc) (hl : l.stackTraces = false) {own cls : String} {names : List String} {ik ic mc ms : Nat} {A : Nat → Prop}
    (hown : s.vm.findClass own = some m.cls) (hcls : Bundle.fit cls = true) (hnames : ∀ n ∈ names, Bundle.fit n = true)
    (hk : (Cond.classLink own ik cls).before args s = true) (hini : (Cond.initialized cls).before args s = true) (hat : ∀ w ∈ vx_at0 own ic cls names, w.before args s = true)
    (hgood : ∀ w ∈ Cond.classLink own ik cls :: Cond.initialized cls :: vx_at0 own ic cls names, vx_ot w = true)
    (hU : vx_Zq Bundle.tN "UNASSIGNED_STACK" Bundle.steD A s s.heap) (hN : vx_Zq Bundle.tN "SUPPRESSED_SENTINEL" Bundle.listD A s s.heap) (hS : va_S A s.heap H locs) (hsize : ls.size = c.maxLocals)
    (d0 : decode cc pc = .ok (.new ik, 3)) (d3 : decode cc (pc + 3) = .ok (.dup, 1)) (d4 : decode cc (pc + 4) = .ok (.invokespecial ic, 3)) (d7 : decode cc (pc + 7) = .ok (.athrow, 1))
    (hout : ∀ x ∈ c.exceptionTable.toList, covers x (pc + 7) = false)
    (hRframes : names.length + 3 < R.frames) (hRlocals : (rest.map fun v => v.category).sum + (13 * (names.length + 1) + 42) ≤ R.locals) (hRcells : cells + 1 ≤ R.cells) (hRslots : slots + 6 ≤ R.slots) (hlocks : meth.locks = false)
    (hx : ∀ t : State, s.vm.Alike t.vm → H.size ≤ t.heap.size → (∀ q : Nat, q < H.size → t.heap[q]? = H[q]?) → XC cls s t)
    (hf : ∀ z ∈ locs, free z.base) (hc : cells + 1 ≤ mc) (hs : slots + 6 ≤ ms) :
    W p l e R s m args below meth c H locs cells slots (vx_MQ below Qc XC args s mc ms free) (F0 m pc ls rest) := by
  intro T hT X
  have htr : e.platform.stackTraces = false := (show e.platform.stackTraces = l.stackTraces by rw [X.admits.platform]).trans hl
  have Y := vx_rebase X (R' := { frames := R.frames, locals := R.locals, cells := 1, slots := 6 }) (Nat.le_refl _) (Nat.le_refl _) hRcells hRslots
  obtain ⟨s', hA⟩ : ∃ z, z = (T.setVm s.vm).setFrames (.invoking m args :: below) := ⟨_, rfl⟩
  rw [← hA] at Y
  have hvm : s'.vm = s.vm := by rw [hA]; rfl
  have hhp : s'.heap = H := by rw [hA]; exact hT
  have hW0 : s.WarmedH s'.vm := by rw [hvm]; exact State.WarmedH.refl s
  have hat' : ∀ w ∈ vx_at0 own ic cls names, w.before args s' = true := fun w hw => vx_ot_at hW0 hvm.symm (hgood w (List.mem_cons_of_mem _ (List.mem_cons_of_mem _ hw))) (hat w hw)
  have hk' : (Cond.classLink own ik cls).before args s' = true := vx_ot_at hW0 hvm.symm (hgood _ List.mem_cons_self) hk
  have hini' : (Cond.initialized cls).before args s' = true := vx_ot_at hW0 hvm.symm (hgood _ (List.mem_cons_of_mem _ List.mem_cons_self)) hini
  have hU' : vx_Zq Bundle.tN "UNASSIGNED_STACK" Bundle.steD A s' s'.heap := by rw [hhp]; exact vx_Zq.moved hW0.alike (hU.kept hS.2.1)
  have hN' : vx_Zq Bundle.tN "SUPPRESSED_SENTINEL" Bundle.listD A s' s'.heap := by rw [hhp]; exact vx_Zq.moved hW0.alike (hN.kept hS.2.1)
  have h : ∀ w ∈ Bundle.ownAtoms0 own ic cls names, w.before args s' = true := vx_own hat' (vx_isRefq hU'.1) (vx_isRefq hN'.1) hU'.2.word hN'.2.word
  have hown' : s'.vm.findClass own = some m.cls := by rw [hvm]; exact hown
  have hins : (Cond.instantiable cls 6).before args s' = true := h _ (by simp [Bundle.ownAtoms0])
  obtain ⟨vm₁, cX, kX, hfX, hkX, -, -, X₁, st1⟩ := Y.newCold hexec (own := own) (C := cls) (index := ik) (n := 6) hown' hk' hins hini'
    (g := F0 m pc ls rest) rfl (by rw [hb]; exact d0) (Nat.le_refl _) (Nat.le_refl _)
  generalize hT1 : (T.setVm vm₁).pushCell { cls := cX, slots := kX.instanceTypes.map defaultValue, vm := .none } = T1 at X₁ st1
  have hcat : (Value.ref T.heap.size).category = 1 := rfl
  have hcellA : T1.heap[T.heap.size]? = some (freshCell cX kX) := by rw [← hT1]; exact State.heap_pushCell_size _ _
  have d3' : decode c.code (pc + 3) = .ok (.dup, 1) := by rw [hb]; exact d3
  obtain ⟨U, hsteps, hrun, hend, hW, hsame, ce, hce, hO⟩ := X₁.ctorThrow0 hexec htr (own := own) (cls := cls) (names := names) (ic := ic) hown' hcls hnames h (fun x hx => nomatch hx) hfX hkX hcellA (by rw [hhp, hT]; exact Nat.le_refl _)
    (g := { method := m, pc := pc + 4, locals := ls, stack := .ref T.heap.size :: .ref T.heap.size :: rest, locked := none }) rfl hsize rfl rfl (rest := rest) rfl
    (by rw [hb]; exact d4) (by rw [hb]; exact d7) hout hRframes (by simp only [List.map_cons, List.sum_cons, hcat]; omega) hlocks
  obtain ⟨f1, f2⟩ := vx_frame hsame
  rw [hhp] at f1 f2
  have hWs : s.WarmedH U.vm := State.WarmedH.trans hW0 hW
  have hcl : s.vm.findClass cls = some ce.cls := by
    have h9 := hO.cls
    rw [hvm] at h9
    exact h9
  have hall : s.sameButNew ({ U with vm := s.vm } : State) locs mc ms := by
    subst hA
    obtain ⟨e1, e2⟩ := hsame
    rw [State.setFrames_setFrames] at e1
    have h2 : (T.setVm s.vm).sameButNew ({ U with vm := s.vm } : State) [] (0 + 1) (0 + 6) := ⟨e1, e2⟩
    have h3 := X.same.trans h2
    rw [List.append_nil] at h3
    exact h3.mono hc hs
  refine ⟨U, ?_, .threw T.heap.size, hrun, hend, Or.inr ⟨T.heap.size, rfl, cls, ce, locs, hx U hWs.alike f1 (fun q hq => f2 q hq (fun z hz => nomatch hz)), hce, hO.vm, hcl, hWs, hall, hf⟩⟩
  refine st1 _ ?_
  show Steps p.tables e below (T1.setTop { method := m, pc := pc + 3, locals := ls, stack := .ref T.heap.size :: rest, locked := none }) _
  jvm_step X₁.here [X₁.here.top, hexec, d3', Value.category]
  exact hsteps
/-- 'throw new E("text")': new; dup; ldc; invokespecial; athrow -/
theorem vx_throwS {cc : ByteArray} {pc : Nat} (hexec : p.tables.exec = Jvm.exec) (hb : c.code = cc) (hl : l.stackTraces = false) {own cls text : String} {names : List String} {ik is ic mc ms sa : Nat} {A : Nat → Prop}
    (hown : s.vm.findClass own = some m.cls) (hcls : Bundle.fit cls = true) (hnames : ∀ n ∈ names, Bundle.fit n = true)
    (hk : (Cond.classLink own ik cls).before args s = true) (hini : (Cond.initialized cls).before args s = true) (hstr : vk_R own is text sa s) (hat : ∀ w ∈ vx_atS own ic cls names, w.before args s = true)
    (hgood : ∀ w ∈ Cond.classLink own ik cls :: Cond.initialized cls :: vx_atS own ic cls names, vx_ot w = true)
    (hU : vx_Zq Bundle.tN "UNASSIGNED_STACK" Bundle.steD A s s.heap) (hN : vx_Zq Bundle.tN "SUPPRESSED_SENTINEL" Bundle.listD A s s.heap) (hS : va_S A s.heap H locs) (hsize : ls.size = c.maxLocals)
    (d0 : decode cc pc = .ok (.new ik, 3)) (d3 : decode cc (pc + 3) = .ok (.dup, 1)) (d4 : decode cc (pc + 4) = .ok (.ldc is, 2)) (d6 : decode cc (pc + 6) = .ok (.invokespecial ic, 3)) (d9 : decode cc (pc + 9) = .ok (.athrow, 1))
    (hout : ∀ x ∈ c.exceptionTable.toList, covers x (pc + 9) = false)
    (hRframes : names.length + 3 < R.frames) (hRlocals : (rest.map fun v => v.category).sum + (13 * (names.length + 1) + 43) ≤ R.locals) (hRcells : cells + 1 ≤ R.cells) (hRslots : slots + 6 ≤ R.slots) (hlocks : meth.locks = false)
    (hx : ∀ t : State, s.vm.Alike t.vm → H.size ≤ t.heap.size → (∀ q : Nat, q < H.size → t.heap[q]? = H[q]?) → XC cls s t)
    (hf : ∀ z ∈ locs, free z.base) (hc : cells + 1 ≤ mc) (hs : slots + 6 ≤ ms) :
    W p l e R s m args below meth c H locs cells slots (vx_MQ below Qc XC args s mc ms free) (F0 m pc ls rest) := by
  intro T hT X
  have htr : e.platform.stackTraces = false := (show e.platform.stackTraces = l.stackTraces by rw [X.admits.platform]).trans hl
  have Y := vx_rebase X (R' := { frames := R.frames, locals := R.locals, cells := 1, slots := 6 }) (Nat.le_refl _) (Nat.le_refl _) hRcells hRslots
  obtain ⟨s', hA⟩ : ∃ z, z = (T.setVm s.vm).setFrames (.invoking m args :: below) := ⟨_, rfl⟩
  rw [← hA] at Y
  have hvm : s'.vm = s.vm := by rw [hA]; rfl
  have hhp : s'.heap = H := by rw [hA]; exact hT
  have hW0 : s.WarmedH s'.vm := by rw [hvm]; exact State.WarmedH.refl s
  have hat' : ∀ w ∈ vx_atS own ic cls names, w.before args s' = true := fun w hw => vx_ot_at hW0 hvm.symm (hgood w (List.mem_cons_of_mem _ (List.mem_cons_of_mem _ hw))) (hat w hw)
  have hk' : (Cond.classLink own ik cls).before args s' = true := vx_ot_at hW0 hvm.symm (hgood _ List.mem_cons_self) hk
  have hini' : (Cond.initialized cls).before args s' = true := vx_ot_at hW0 hvm.symm (hgood _ (List.mem_cons_of_mem _ List.mem_cons_self)) hini
  have hU' : vx_Zq Bundle.tN "UNASSIGNED_STACK" Bundle.steD A s' s'.heap := by rw [hhp]; exact vx_Zq.moved hW0.alike (hU.kept hS.2.1)
  have hN' : vx_Zq Bundle.tN "SUPPRESSED_SENTINEL" Bundle.listD A s' s'.heap := by rw [hhp]; exact vx_Zq.moved hW0.alike (hN.kept hS.2.1)
  have h : ∀ w ∈ Bundle.ownAtoms own ic cls names, w.before args s' = true := vx_own hat' (vx_isRefq hU'.1) (vx_isRefq hN'.1) hU'.2.word hN'.2.word
  have hown' : s'.vm.findClass own = some m.cls := by rw [hvm]; exact hown
  have hins : (Cond.instantiable cls 6).before args s' = true := h _ (by simp [Bundle.ownAtoms])
  obtain ⟨vm₁, cX, kX, hfX, hkX, -, -, X₁, st1⟩ := Y.newCold hexec (own := own) (C := cls) (index := ik) (n := 6) hown' hk' hins hini'
    (g := F0 m pc ls rest) rfl (by rw [hb]; exact d0) (Nat.le_refl _) (Nat.le_refl _)
  generalize hT1 : (T.setVm vm₁).pushCell { cls := cX, slots := kX.instanceTypes.map defaultValue, vm := .none } = T1 at X₁ st1
  have hcat : (Value.ref T.heap.size).category = 1 := rfl
  have hcellA : T1.heap[T.heap.size]? = some (freshCell cX kX) := by rw [← hT1]; exact State.heap_pushCell_size _ _
  have d3' : decode c.code (pc + 3) = .ok (.dup, 1) := by rw [hb]; exact d3
  have d4' : decode c.code (pc + 4) = .ok (.ldc is, 2) := by rw [hb]; exact d4
  have hstr' : vk_R own is text sa s' := vk_R.warm hW0 hstr
  obtain ⟨U, hsteps, hrun, hend, hW, hsame, ce, hce, hO⟩ := X₁.ctorThrowS hexec htr (own := own) (cls := cls) (names := names) (ic := ic) hown' hcls hnames h (fun x hx => nomatch hx) hfX hkX hcellA (by rw [hhp, hT]; exact Nat.le_refl _) (msg := .ref sa) rfl
    (g := { method := m, pc := pc + 6, locals := ls, stack := .ref sa :: .ref T.heap.size :: .ref T.heap.size :: rest, locked := none }) rfl hsize rfl rfl (rest := rest) rfl
    (by rw [hb]; exact d6) (by rw [hb]; exact d9) hout hRframes (by simp only [List.map_cons, List.sum_cons, hcat]; omega) hlocks
  obtain ⟨f1, f2⟩ := vx_frame hsame
  rw [hhp] at f1 f2
  have hWs : s.WarmedH U.vm := State.WarmedH.trans hW0 hW
  have hcl : s.vm.findClass cls = some ce.cls := by
    have h9 := hO.cls
    rw [hvm] at h9
    exact h9
  have hall : s.sameButNew ({ U with vm := s.vm } : State) locs mc ms := by
    subst hA
    obtain ⟨e1, e2⟩ := hsame
    rw [State.setFrames_setFrames] at e1
    have h2 : (T.setVm s.vm).sameButNew ({ U with vm := s.vm } : State) [] (0 + 1) (0 + 6) := ⟨e1, e2⟩
    have h3 := X.same.trans h2
    rw [List.append_nil] at h3
    exact h3.mono hc hs
  refine ⟨U, ?_, .threw T.heap.size, hrun, hend, Or.inr ⟨T.heap.size, rfl, cls, ce, locs, hx U hWs.alike f1 (fun q hq => f2 q hq (fun z hz => nomatch hz)), hce, hO.vm, hcl, hWs, hall, hf⟩⟩
  refine st1 _ ?_
  show Steps p.tables e below (T1.setTop { method := m, pc := pc + 3, locals := ls, stack := .ref T.heap.size :: rest, locked := none }) _
  jvm_step X₁.here [X₁.here.top, hexec, d3', Value.category]
  exact X₁.ldcString hexec (own := own) (text := text) (index := is) (a := sa) hown' hstr'.1 hstr'.2
    (g := { method := m, pc := pc + 4, locals := ls, stack := .ref T.heap.size :: .ref T.heap.size :: rest, locked := none }) rfl d4' _ hsteps
/-- 'throw new E("text")', the text by a wide index -/
theorem vx_throwSW {cc : ByteArray} {pc : Nat} (hexec : p.tables.exec = Jvm.exec) (hb : c.code = cc) (hl : l.stackTraces = false) {own cls text : String} {names : List String} {ik is ic mc ms sa : Nat} {A : Nat → Prop}
    (hown : s.vm.findClass own = some m.cls) (hcls : Bundle.fit cls = true) (hnames : ∀ n ∈ names, Bundle.fit n = true)
    (hk : (Cond.classLink own ik cls).before args s = true) (hini : (Cond.initialized cls).before args s = true) (hstr : vk_R own is text sa s) (hat : ∀ w ∈ vx_atS own ic cls names, w.before args s = true)
    (hgood : ∀ w ∈ Cond.classLink own ik cls :: Cond.initialized cls :: vx_atS own ic cls names, vx_ot w = true)
    (hU : vx_Zq Bundle.tN "UNASSIGNED_STACK" Bundle.steD A s s.heap) (hN : vx_Zq Bundle.tN "SUPPRESSED_SENTINEL" Bundle.listD A s s.heap) (hS : va_S A s.heap H locs) (hsize : ls.size = c.maxLocals)
    (d0 : decode cc pc = .ok (.new ik, 3)) (d3 : decode cc (pc + 3) = .ok (.dup, 1)) (d4 : decode cc (pc + 4) = .ok (.ldc_w is, 3)) (d7 : decode cc (pc + 7) = .ok (.invokespecial ic, 3)) (d10 : decode cc (pc + 10) = .ok (.athrow, 1))
    (hout : ∀ x ∈ c.exceptionTable.toList, covers x (pc + 10) = false)
    (hRframes : names.length + 3 < R.frames) (hRlocals : (rest.map fun v => v.category).sum + (13 * (names.length + 1) + 43) ≤ R.locals) (hRcells : cells + 1 ≤ R.cells) (hRslots : slots + 6 ≤ R.slots) (hlocks : meth.locks = false)
    (hx : ∀ t : State, s.vm.Alike t.vm → H.size ≤ t.heap.size → (∀ q : Nat, q < H.size → t.heap[q]? = H[q]?) → XC cls s t)
    (hf : ∀ z ∈ locs, free z.base) (hc : cells + 1 ≤ mc) (hs : slots + 6 ≤ ms) :
    W p l e R s m args below meth c H locs cells slots (vx_MQ below Qc XC args s mc ms free) (F0 m pc ls rest) := by
  intro T hT X
  have htr : e.platform.stackTraces = false := (show e.platform.stackTraces = l.stackTraces by rw [X.admits.platform]).trans hl
  have Y := vx_rebase X (R' := { frames := R.frames, locals := R.locals, cells := 1, slots := 6 }) (Nat.le_refl _) (Nat.le_refl _) hRcells hRslots
  obtain ⟨s', hA⟩ : ∃ z, z = (T.setVm s.vm).setFrames (.invoking m args :: below) := ⟨_, rfl⟩
  rw [← hA] at Y
  have hvm : s'.vm = s.vm := by rw [hA]; rfl
  have hhp : s'.heap = H := by rw [hA]; exact hT
  have hW0 : s.WarmedH s'.vm := by rw [hvm]; exact State.WarmedH.refl s
  have hat' : ∀ w ∈ vx_atS own ic cls names, w.before args s' = true := fun w hw => vx_ot_at hW0 hvm.symm (hgood w (List.mem_cons_of_mem _ (List.mem_cons_of_mem _ hw))) (hat w hw)
  have hk' : (Cond.classLink own ik cls).before args s' = true := vx_ot_at hW0 hvm.symm (hgood _ List.mem_cons_self) hk
  have hini' : (Cond.initialized cls).before args s' = true := vx_ot_at hW0 hvm.symm (hgood _ (List.mem_cons_of_mem _ List.mem_cons_self)) hini
  have hU' : vx_Zq Bundle.tN "UNASSIGNED_STACK" Bundle.steD A s' s'.heap := by rw [hhp]; exact vx_Zq.moved hW0.alike (hU.kept hS.2.1)
  have hN' : vx_Zq Bundle.tN "SUPPRESSED_SENTINEL" Bundle.listD A s' s'.heap := by rw [hhp]; exact vx_Zq.moved hW0.alike (hN.kept hS.2.1)
  have h : ∀ w ∈ Bundle.ownAtoms own ic cls names, w.before args s' = true := vx_own hat' (vx_isRefq hU'.1) (vx_isRefq hN'.1) hU'.2.word hN'.2.word
  have hown' : s'.vm.findClass own = some m.cls := by rw [hvm]; exact hown
  have hins : (Cond.instantiable cls 6).before args s' = true := h _ (by simp [Bundle.ownAtoms])
  obtain ⟨vm₁, cX, kX, hfX, hkX, -, -, X₁, st1⟩ := Y.newCold hexec (own := own) (C := cls) (index := ik) (n := 6) hown' hk' hins hini'
    (g := F0 m pc ls rest) rfl (by rw [hb]; exact d0) (Nat.le_refl _) (Nat.le_refl _)
  generalize hT1 : (T.setVm vm₁).pushCell { cls := cX, slots := kX.instanceTypes.map defaultValue, vm := .none } = T1 at X₁ st1
  have hcat : (Value.ref T.heap.size).category = 1 := rfl
  have hcellA : T1.heap[T.heap.size]? = some (freshCell cX kX) := by rw [← hT1]; exact State.heap_pushCell_size _ _
  have d3' : decode c.code (pc + 3) = .ok (.dup, 1) := by rw [hb]; exact d3
  have d4' : decode c.code (pc + 4) = .ok (.ldc_w is, 3) := by rw [hb]; exact d4
  have hstr' : vk_R own is text sa s' := vk_R.warm hW0 hstr
  obtain ⟨U, hsteps, hrun, hend, hW, hsame, ce, hce, hO⟩ := X₁.ctorThrowS hexec htr (own := own) (cls := cls) (names := names) (ic := ic) hown' hcls hnames h (fun x hx => nomatch hx) hfX hkX hcellA (by rw [hhp, hT]; exact Nat.le_refl _) (msg := .ref sa) rfl
    (g := { method := m, pc := pc + 7, locals := ls, stack := .ref sa :: .ref T.heap.size :: .ref T.heap.size :: rest, locked := none }) rfl hsize rfl rfl (rest := rest) rfl
    (by rw [hb]; exact d7) (by rw [hb]; exact d10) hout hRframes (by simp only [List.map_cons, List.sum_cons, hcat]; omega) hlocks
  obtain ⟨f1, f2⟩ := vx_frame hsame
  rw [hhp] at f1 f2
  have hWs : s.WarmedH U.vm := State.WarmedH.trans hW0 hW
  have hcl : s.vm.findClass cls = some ce.cls := by
    have h9 := hO.cls
    rw [hvm] at h9
    exact h9
  have hall : s.sameButNew ({ U with vm := s.vm } : State) locs mc ms := by
    subst hA
    obtain ⟨e1, e2⟩ := hsame
    rw [State.setFrames_setFrames] at e1
    have h2 : (T.setVm s.vm).sameButNew ({ U with vm := s.vm } : State) [] (0 + 1) (0 + 6) := ⟨e1, e2⟩
    have h3 := X.same.trans h2
    rw [List.append_nil] at h3
    exact h3.mono hc hs
  refine ⟨U, ?_, .threw T.heap.size, hrun, hend, Or.inr ⟨T.heap.size, rfl, cls, ce, locs, hx U hWs.alike f1 (fun q hq => f2 q hq (fun z hz => nomatch hz)), hce, hO.vm, hcl, hWs, hall, hf⟩⟩
  refine st1 _ ?_
  show Steps p.tables e below (T1.setTop { method := m, pc := pc + 3, locals := ls, stack := .ref T.heap.size :: rest, locked := none }) _
  jvm_step X₁.here [X₁.here.top, hexec, d3', Value.category]
  exact X₁.ldcStringW hexec (own := own) (text := text) (index := is) (a := sa) hown' hstr'.1 hstr'.2
    (g := { method := m, pc := pc + 4, locals := ls, stack := .ref T.heap.size :: .ref T.heap.size :: rest, locked := none }) rfl d4' _ hsteps
end Ends
section Bodies
variable {l : Launch}
theorem vx_ofW {y : MethodName} {ws ws' : List Cond} {rm : Room} {Pc : Array Value → State → Prop} {Qc : Array Value → State → Outcome → State → Prop} {XC : String → State → State → Prop} {mc ms : Nat} {free : Addr → Prop} {cc : ByteArray} {maxL : Nat} {ret : Option FieldType}
    (hy : plainName y.cls = true) (hw : ws = Cond.code y cc maxL ret :: ws')
    (body : ∀ p e s m args below meth c s₁, BodyLoose p l y (headSpec ws rm) cc maxL ret e s m args below meth c s₁ → c.maxLocals = maxL → (∀ x ∈ c.exceptionTable.toList, False) → Pc args s →
      W p l e (headSpec ws rm).room s m args below meth c s.heap [] 0 0 (vx_MQ below Qc XC args s mc ms free) (entryFrame m args maxL)) : vx_Met l y ws rm Pc Qc XC mc ms free := by
  refine MetFree.of_bodyS (code := cc) (maxLocals := maxL) (ret := ret) hy ?_ ?_
  · intro args s m h hn
    obtain ⟨meth, c, h1, h2, h3, h4, h5, h6, -, -⟩ := Cond.code_spec hn (atoms_spec (ws := ws) h _ (by rw [hw]; exact List.mem_cons_self))
    exact ⟨meth, c, h1, h2, h3, h4, h5, h6⟩
  · intro p e s m args below meth c s₁ B hml hP _
    have hh0 : s₁.heap = s.heap := by rw [B.state]; rfl
    have ht : ∀ x ∈ c.exceptionTable.toList, False := by
      obtain ⟨meth9, c9, h1, h2, -, -, -, -, h7, -⟩ := Cond.code_spec B.named (atoms_spec (ws := ws) B.pre _ (by rw [hw]; exact List.mem_cons_self))
      cases Option.some.inj (h1.symm.trans B.method)
      cases Option.some.inj (h2.symm.trans (Stand.of_body B).code)
      intro x hx
      rw [Array.isEmpty_iff.mp h7] at hx
      cases hx
    obtain ⟨t, a1, o, b1, b2, b3⟩ := body p e s m args below meth c s₁ B hml ht hP s₁ hh0 (Stand.of_body B)
    exact ⟨t, o, a1, b1, b2, b3⟩
/-- the table of a body with handlers -/
theorem vx_table {p : Program} {x y : MethodName} {S : Spec} {cc bytes : ByteArray} {maxL maxL' : Nat} {ret ret' : Option FieldType} {e : Env} {s s₁ : State} {m : MethodId} {args : Array Value} {below : List Frame} {meth : Method} {c : Code} {hh : List (Nat × Nat × Nat × Nat)}
    (B : BodyLoose p l y S cc maxL ret e s m args below meth c s₁) (h : (Cond.codeWith y bytes maxL' ret' hh).before args s = true) : c.exceptionTable.toList = tableOf hh := by
  obtain ⟨m9, meth9, c9, hn9, h1, h2, -, -, h6, -⟩ := Cond.codeWith_spec h
  cases Option.some.inj (hn9.symm.trans B.named)
  cases Option.some.inj (h1.symm.trans B.method)
  cases Option.some.inj (h2.symm.trans (Stand.of_body B).code)
  rw [← h6, table_eq]
end Bodies
end VXA
/-! ===== END ===== -/
/-! ===== BEGIN a static call of a method with an exception table ===== -/
section VXS
variable {p : Program} {l : Launch} {e : Env} {R : Room} {s : State} {m : MethodId} {args : Array Value} {below : List Frame} {meth : Method} {c : Code} {T : State} {H : Heap} {locs : List Loc} {cells slots : Nat}
abbrev vx_CSW (R : Room) (s : State) (args : Array Value) (own : String) (index : Nat) (y : MethodName) (bytes : ByteArray) (maxL : Nat) (ret : Option FieldType) (hh : List (Nat × Nat × Nat × Nat)) (ws : List Cond) (rm : Room) (mc ms n : Nat) : Prop :=
  (rm.cells = mc ∧ rm.slots = ms ∧ rm.frames + 1 ≤ R.frames ∧ 8 + (maxL + 11) + rm.locals ≤ R.locals ∧ (∀ w ∈ ws, ∀ (a' : Array Value) (U : State), s.WarmedH U.vm → w.before a' U = true) ∧ Cond.codeWith y bytes maxL ret hh ∈ ws) ∧
  (Cond.codeWith y bytes maxL ret hh).before args s = true ∧ (Cond.initialized y.cls).before args s = true ∧ (y.cls ≠ "java/lang/invoke/MethodHandle" ∧ y.cls ≠ "java/lang/invoke/VarHandle") ∧
  (∀ sig, parseMethodDescriptor y.desc = some sig → n = sig.parameters.length) ∧ (Cond.methodLink own index y).before args s = true ∧ (Cond.static y).before args s = true
theorem vx_cwSW {own : String} {index maxL mc ms : Nat} {y : MethodName} {bytes : ByteArray} {ret : Option FieldType} {hh : List (Nat × Nat × Nat × Nat)} {Ts ws ws' : List Cond} {rm : Room} (n : Nat) (ht : ∀ w ∈ Ts, w.before args s = true) (hT : GoodIn Ts (va_wsS own index y ws)) (hw : ws = Cond.codeWith y bytes maxL ret hh :: ws') (hrc : rm.cells = mc) (hrs : rm.slots = ms)
    (hd : y.cls ≠ "java/lang/invoke/MethodHandle" ∧ y.cls ≠ "java/lang/invoke/VarHandle" ∧ (parseMethodDescriptor y.desc).map (fun d => d.parameters.length) = some n) (hR : rm.frames + 1 ≤ R.frames ∧ 8 + (maxL + 11) + rm.locals ≤ R.locals) :
    vx_CSW R s args own index y bytes maxL ret hh ws rm mc ms n := by
  have ok : ∀ w ∈ va_wsS own index y ws, w.before args s = true := fun w h => ht w (hT w h).1
  have hG : GoodIn Ts ws := fun w h => hT w (by unfold va_wsS; exact List.mem_append_right _ h)
  have hc : Cond.codeWith y bytes maxL ret hh ∈ ws := by rw [hw]; exact List.mem_cons_self
  refine ⟨⟨hrc, hrs, hR.1, hR.2, pay_in ht hG, hc⟩, ht _ (hG _ hc).1, ok _ (by simp [va_wsS]), ⟨hd.1, hd.2.1⟩, fun sig h => ?_, ok _ (by simp [va_wsS]), ok _ (by simp [va_wsS])⟩
  have h2 := hd.2.2
  rw [h] at h2
  exact (Option.some.inj h2).symm
theorem vx_callSW (X : Stand p l e R s m args below meth c T locs cells slots) (hexec : p.tables.exec = Jvm.exec) {own : String} {index : Nat} {y : MethodName} {bytes : ByteArray} {maxL : Nat} {ret : Option FieldType} {hh : List (Nat × Nat × Nat × Nat)}
    (hown : s.vm.findClass own = some m.cls) (hlink : (Cond.methodLink own index y).before args s = true) (hstat : (Cond.static y).before args s = true) (hinit : (Cond.initialized y.cls).before args s = true)
    (hcode : (Cond.codeWith y bytes maxL ret hh).before args s = true) (hy : y.cls ≠ "java/lang/invoke/MethodHandle" ∧ y.cls ≠ "java/lang/invoke/VarHandle")
    {W9 : Nat} {Pre : Pt → Array Value → Prop} {Post : Pt → Array Value → Option Value → Pt → Prop} (hK : Back l R p e below s args y 3 W9 Pre Post)
    {g : JFrame} (hg : g.method = m) (hsize : g.locals.size = c.maxLocals) {argsL rest : List Value} (hlen : ∀ sig, parseMethodDescriptor y.desc = some sig → argsL.length = sig.parameters.length)
    (hstack : g.stack = argsL.reverse ++ rest) (hW : 2 * g.monitorRoom + (rest.map fun v => v.category).sum ≤ W9) (hdg : decode c.code g.pc = .ok (.invokestatic index, 3))
    (hpre : ∀ vm₁, s.WarmedH vm₁ → Pre ⟨T.setVm vm₁, locs, cells, slots⟩ argsL.toArray) :
    ∃ (v : Option Value) (vm₁ : Vm) (B : Pt), s.WarmedH vm₁ ∧ Stand p l e R s m args below meth c B.U B.locs B.cells B.slots ∧ Post ⟨T.setVm vm₁, locs, cells, slots⟩ argsL.toArray v B ∧
      ∀ target, Steps p.tables e below (B.U.setTop { g with pc := g.pc + 3, stack := v.toList ++ rest }) target → Steps p.tables e below (T.setTop g) target := by
  obtain ⟨mk, methM, cM, hnamed, hmethM, -, -, -, -, -, -, hsigM⟩ := Cond.codeWith_spec hcode
  have hstatic : methM.isStatic = true := Cond.static_spec hnamed hmethM hstat
  obtain ⟨kP, hkP, -⟩ := className_of_methodNamed hnamed
  have hinitP : kP.init = .initialized := Cond.initialized_spec (findClass_of_methodNamed hnamed) hkP hinit
  obtain ⟨vm₁, X₁, hstep₁⟩ := X.invokestatic hexec hown hlink hnamed hmethM hstatic hkP hinitP hy (g := g) hg (argsL := argsL) (rest := rest) (hlen _ hsigM) hstack hdg
  obtain ⟨v, B, X', hpost, hsteps⟩ := hK m meth c ⟨T.setVm vm₁, locs, cells, slots⟩ { g with stack := rest } (.invokestatic index) mk argsL.toArray X₁ hg hsize hdg hW (X₁.named hnamed) (hpre vm₁ X₁.warmed)
  exact ⟨v, vm₁, B, X₁.warmed, X', hpost, fun target h => hstep₁ _ fun acts => by rw [doInvoke_state]; exact hsteps.trans h⟩
theorem vx_runSW {y : MethodName} {bytes cc : ByteArray} {maxL nL mc ms n index : Nat} {ret : Option FieldType} {hh : List (Nat × Nat × Nat × Nat)} {ws : List Cond} {rm : Room} {Pc : Array Value → State → Prop} {Qc : Array Value → State → Outcome → State → Prop} {free : Addr → Prop} {Ts : List Cond} {own : String} {As rest : List Value} {g : JFrame}
    (S : CallFix p m c cc nL s args Ts own) (hM : Met l y ws rm Pc Qc mc ms free) (cw : vx_CSW R s args own index y bytes maxL ret hh ws rm mc ms n) (hp : PreS s H Pc As)
    (hg : g.method = m) (hn : As.length = n) (hsize : g.locals.size = nL) (hstack : g.stack = As.reverse ++ rest) (hW : 2 * g.monitorRoom + (rest.map fun v => v.category).sum ≤ 8) (hdg : decode cc g.pc = .ok (.invokestatic index, 3)) (hf : cells + mc ≤ R.cells ∧ slots + ms ≤ R.slots) :
    va_Run p l e R s m args below meth c H locs cells slots mc ms g rest (Qc As.toArray) (free) := by
  obtain ⟨⟨hrc, hrs, hfr, hlo, hws, hcw⟩, hcode, hini, hy, hlen, hl, hstt⟩ := cw
  have hK : Back l R p e below s args y 3 8 (PreOf R mc ms Pc) (PostOf Qc mc ms free) := va_backW (hh := hh) (bytes := bytes) (maxL := maxL) (ret := ret) hM hp.1 hrc hrs hfr hlo hws hcw (fun a' U hW => word_at hW (Or.inl (by first | rfl | simp [Cond.onTables, Cond.keeps, Cond.steady])) hini)
  obtain ⟨hx, hb, hml, ho, -⟩ := S
  intro T hT X
  obtain ⟨v, vm₁, ⟨U', l2, c2, s2⟩, hW₁, X', ⟨g', mk, t, L, e1, e2, hq, h1, hL, h2, h3⟩, st⟩ := vx_callSW X hx (hh := hh) (bytes := bytes) (maxL := maxL) (ret := ret) ho hl hstt hini hcode hy hK hg (hsize.trans hml.symm) (argsL := As) (rest := rest) (fun sig h => hn.trans (hlen sig h)) hstack hW (by rw [hb]; exact hdg)
    (fun vm₁ hW₁ => ⟨hf.1, hf.2, hp.2 (T.setVm vm₁) hT hW₁⟩)
  dsimp only [Pt.U, Pt.locs, Pt.cells, Pt.slots] at X' e1 e2 h1 h2 h3 st
  subst h1; subst h2; subst h3
  exact ⟨v, (T.setVm vm₁).calling g' mk As.toArray, t, U', L, hT, X', hL, e1, e2, hq, st⟩
/-- a thing of a world lies in the heap -/
theorem vx_lt {D : va_G} {cl : List vw_C} {ws : va_W} {H1 : Heap} (h : va_P D cl ws H1) {k : Nat} {q : Nat × va_E} (hk : ws[k]? = some q) : q.1 < H1.size := (h k q hk).lt
end VXS
/-! ===== END ===== -/
end
section
/-! ===== an exception caught by the first row of the method's table ===== -/
theorem ct_find {e : Env} {s : State} {f : JFrame} {a : Addr} {meth : Method} {code : Code} (hm : s.vm.method? f.method = some meth) (hc : meth.code = some code) {x : ExceptionTableEntry} {rest : List ExceptionTableEntry} (hsplit : code.exceptionTable.toList = x :: rest)
    (hx : covers x f.pc = true) (h0 : x.catchType ≠ 0) {k : ClassId} {cell : Cell} (hl : s.vm.ClassLinks e.platform f.method.cls x.catchType k) (hcell : s.heap[a]? = some cell) (hobj : ∀ q, cell.vm ≠ .statics q)
    (hk1 : ∃ q, s.vm.classes[cell.cls]? = some q) (hk2 : ∃ q, s.vm.classes[k]? = some q) (hfit : s.vm.assignable cell.cls k = true) (Q : Handler → Pre) (E : CtlPost) (d : Bool) (acts : List Action) :
    wp (findHandler f a) Q E e d acts s ↔ Q (.found x.handlerPc) d acts (s.setVm (s.vm.noted f.method.cls x.catchType (.cls k))) := by
  have hal : s.vm.Alike (s.vm.noted f.method.cls x.catchType (.cls k)) := (Vm.Alike.refl s.vm).noted _ _ _
  obtain ⟨g1, g2⟩ := (resolveClass_links e.toSetting hl).op (op := VmOp.resolveClass f.method.cls x.catchType) rfl
  obtain ⟨q1, hq1⟩ := hk1
  obtain ⟨q2, hq2⟩ := hk2
  obtain ⟨q3, hq3, -⟩ := hal.2.2 _ _ hq1
  obtain ⟨q4, hq4, -⟩ := hal.2.2 _ _ hq2
  have hfit2 : (s.vm.noted f.method.cls x.catchType (.cls k)).assignable cell.cls k = true := by rw [hal.assignable]; exact hfit
  rw [W.findHandler_eq hm hc, hsplit]
  simp only [covers] at hx
  simp [findHandler.go, hx, h0, g1, g2, hcell, hobj, hq3, hq4, hfit2, VmOp.dirties, VmOp.acts]
theorem ct_thr {e : Env} {s : State} {f : JFrame} {a : Addr} {r : List Frame} {pc : Nat} {vm' : Vm} (hfind : ∀ (Q : Handler → Pre) (E : CtlPost) (d : Bool) (acts : List Action), wp (findHandler f a) Q E e d acts s ↔ Q (.found pc) d acts (s.setVm vm')) :
    (stepThrowing e s a (.java f :: r)).1 = (s.setVm vm').setFrames (.java { f with pc := pc, stack := [.ref a] } :: r) := by
  simp only [stepThrowing, searchFrame, vmDo]
  generalize hr : Sem.go _ e false [] s = res
  obtain ⟨as, rfl, -⟩ := Sem.eq_ok_of hr (a := Handler.found pc) (s' := s.setVm vm') (acts' := []) (by simp [hfind])
  rfl
theorem ct_fr (u : State) (vm' : Vm) (F G : List Frame) : ((u.setFrames F).setVm vm').setFrames G = (u.setVm vm').setFrames G := by
  show ((u.setVm vm').setFrames F).setFrames G = (u.setVm vm').setFrames G
  rw [State.setFrames_setFrames]
section CT
variable {p : Program} {l : Launch} {e : Env} {R : Room} {s : State} {m : MethodId} {args : Array Value} {below : List Frame} {meth : Method} {c : Code} {H : Heap} {locs : List Loc} {cells slots : Nat} {Q : State → Prop}
theorem ct_catch {own name E : String} {ce : Cell} {q : Addr} {pc : Nat} {ls : Array Slot} {rest : List Value} (hown : s.vm.findClass own = some m.cls) {x : ExceptionTableEntry} {suf : List ExceptionTableEntry} (hsplit : c.exceptionTable.toList = x :: suf) (hx : covers x pc = true) (h0 : x.catchType ≠ 0)
    (hlink : (Cond.classLink own x.catchType name).before args s = true) (hcast : (Cond.castable E name).before args s = true) (hcell : H[q]? = some ce) (hv : ce.vm = .none) (hcl : s.vm.findClass E = some ce.cls)
    (kk : W p l e R s m args below meth c H locs cells slots Q (F0 m x.handlerPc ls [.ref q])) : vx_W p l e R s m args below meth c H locs cells slots Q (F0 m pc ls rest) q := by
  intro T hT X
  have hpl : e.platform.magicAccessors = ({} : Platform).magicAccessors := by rw [X.admits.platform]
  obtain ⟨c3, c4, hc3, hc4, hasg⟩ := Cond.castable_spec hcast
  cases Option.some.inj (hc3.symm.trans hcl)
  obtain ⟨c5, hc5, hcl5⟩ := Cond.classLink_spec hown hlink e.platform hpl
  cases Option.some.inj (hc4.symm.trans hc5)
  obtain ⟨dk, _, _, kt, hd, _, _, _, _, hkt, _, hopen⟩ := hcl5.here
  have hal := X.warmed.alike
  have hWn : s.WarmedH (T.vm.noted m.cls x.catchType (.cls c4)) := X.warmed.noted hd hopen (State.rightAt_cls hcl5)
  obtain ⟨k9, h9, -⟩ := Vm.findClass_spec hcl
  obtain ⟨k9', h9', -⟩ := hal.2.2 _ _ h9
  obtain ⟨kt', hkt', -⟩ := hal.2.2 _ _ hkt
  have hfit : T.vm.assignable ce.cls c4 = true := by rw [hal.assignable]; exact hasg
  obtain ⟨t, a1, b1⟩ := kk (T.setVm (T.vm.noted m.cls x.catchType (.cls c4))) hT (X.noted hWn)
  refine ⟨t, ?_, b1⟩
  have hfind := ct_find (e := e) (s := ((T.setTop (F0 m pc ls rest)).pushFrame (.throwing q))) (f := F0 m pc ls rest) (a := q) (meth := meth) (code := c) X.method' X.code hsplit hx h0 (k := c4) (cell := ce) (X.warmed.classLinks hcl5) (by show T.heap[q]? = some ce; rw [hT]; exact hcell) (fun k h => by rw [hv] at h; cases h) ⟨k9', h9'⟩ ⟨kt', hkt'⟩ hfit
  have hAt : At T (F0 m pc ls rest).method c below := X.here
  obtain ⟨hgo, hw⟩ := hAt.throwing q
  refine Steps.head hgo hw ?_
  rw [stepThread_throwing (frames_entered hAt.top _), ct_thr hfind]
  obtain ⟨g₀, hg⟩ := Option.isSome_iff_exists.mp hAt.top
  obtain ⟨r, hr⟩ := State.topJava?_eq_some.mp hg
  have hr' : (T.setVm (T.vm.noted m.cls x.catchType (.cls c4))).frames = .java g₀ :: r := hr
  rw [State.setTop_of_frames _ hr'] at a1
  rw [hr, List.tail_cons, State.pushFrame, ct_fr, State.setTop_of_frames _ hr, ct_fr]
  exact a1
end CT
end
section
def lk_E : String := "java/lang/IndexOutOfBoundsException"
def lk_names : List String := ["java/lang/RuntimeException", "java/lang/Exception"]
theorem lk_fit : Bundle.fit lk_E = true := by decide +kernel
theorem lk_fits : ∀ n ∈ lk_names, Bundle.fit n = true := by decide +kernel
theorem lk_ot : ∀ w ∈ Jvm.Cond.classLink RX11 159 lk_E :: Jvm.Cond.initialized lk_E :: vx_atS RX11 163 lk_E lk_names, vx_ot w = true := by decide +kernel
theorem lk_cw : av_in (6, 63) (.codeWith yL_look cL_look 5 (some .int) [(0, 10, 13, 13), (0, 10, 17, 15)]) = true := by decide +kernel
theorem lk_good : ∀ w ∈ (vx_atS RX11 163 lk_E lk_names).filter goodWord, w ∈ lw_tbl := by decide +kernel
end
section
/-! ===== look: it throws, the law's own method catches ===== -/
def lk_D : List MethodName := [⟨"java/lang/RuntimeException", "<init>", "(Ljava/lang/String;)V"⟩, ⟨"java/lang/Exception", "<init>", "(Ljava/lang/String;)V"⟩, ⟨"java/lang/Throwable", "<init>", "(Ljava/lang/String;)V"⟩]
def lk_B : List Jvm.Cond := Jvm.Cond.castable lk_E lk_E :: lk_D.map Jvm.Cond.declares
theorem lk_bad : ∀ w ∈ (vx_atS RX11 163 lk_E lk_names).filter (fun w => !goodWord w), w ∈ lk_B := by decide +kernel
def lk_F (A : Nat → Prop) (sa : Nat) (U : State) (H : Heap) : Prop := vk_R RX11 161 "no such gate" sa U ∧ vx_Zq Bundle.tN "UNASSIGNED_STACK" Bundle.steD A U H ∧ vx_Zq Bundle.tN "SUPPRESSED_SENTINEL" Bundle.listD A U H ∧ va_Nw (.castable lk_E lk_E) U ∧ ∀ n ∈ lk_D, va_Nw (.declares n) U
theorem lk_F_call {A : Nat → Prop} {sa : Nat} {s U : State} {H : Heap} {locs : List Loc} (h : lk_F A sa s s.heap) (hW : s.WarmedH U.vm) (hU : U.heap = H) (hS : va_S A s.heap H locs) : lk_F A sa U U.heap := by
  obtain ⟨h1, h2, h3, h4, h5⟩ := h
  subst hU
  exact ⟨h1.warm hW, (h2.moved hW.alike).kept hS.2.1, (h3.moved hW.alike).kept hS.2.1, va_Nw.warmC hW h4, fun n hn => va_Nw.warmD hW (h5 n hn)⟩
theorem lk_F_in {A : Nat → Prop} {sa : Nat} {U : State} (h : lk_F A sa U U.heap) (g : JFrame) (mk : MethodId) (a : Array Value) : lk_F A sa (U.calling g mk a) (U.calling g mk a).heap := by
  obtain ⟨h1, h2, h3, h4, h5⟩ := h
  have hvm : U.vm.Alike (U.calling g mk a).vm := Vm.Alike.refl U.vm
  exact ⟨vk_R.same (u := U) rfl h1, h2.moved hvm, h3.moved hvm, va_Nw.same (u := U) rfl rfl h4, fun n hn => va_Nw.same (u := U) rfl rfl (h5 n hn)⟩
theorem lk_start {b : Nat} {s : State} (hts : ∀ w ∈ lw_tbl, w.before #[Value.ref b] s = true) (hgv : (Jvm.Cond.and given_1 narrow_1).before #[Value.ref b] s = true) : ∃ sa, lk_F (fun q => s.heap.size ≤ q) sa s s.heap := by
  have hs := flat_of_before _ hgv
  have hA : ∀ a : Nat, a < s.heap.size → ¬ (fun q : Nat => s.heap.size ≤ q) a := fun a h => Nat.not_le.mpr h
  obtain ⟨a, c, cA, kA, q1, -⟩ := Cond.exactly_spec (args := #[Value.ref b]) (first := s) (o := none) (s := s) (idx := []) (t := Jvm.Term.string "SagGates" 161) (cls := "java/lang/String") (hs (.exactly (.string "SagGates" 161) "java/lang/String") (by decide +kernel))
  refine ⟨a, vk_R.of (hts _ (av_pt_in (k := 6) (List.mem_of_getElem? (i := 110) (by decide +kernel)))) q1, vx_Zqof (hts _ (av_pt_in (k := 6) (List.mem_of_getElem? (i := 97) (by decide +kernel)))) (hts (.initialized Bundle.tN) (av_pt_in (k := 1) (List.mem_of_getElem? (i := 19) (by decide +kernel)))) (hs _ (by decide +kernel)) hA, vx_Zqof (hts _ (av_pt_in (k := 6) (List.mem_of_getElem? (i := 99) (by decide +kernel)))) (hts (.initialized Bundle.tN) (av_pt_in (k := 1) (List.mem_of_getElem? (i := 19) (by decide +kernel)))) (hs _ (by decide +kernel)) hA, va_Nw.of rfl (hts _ (av_pt_in (k := 6) (List.mem_of_getElem? (i := 72) (by decide +kernel)))), fun n hn => ?_⟩
  have hm : ∀ n ∈ lk_D, Jvm.Cond.declares n ∈ lw_tbl := by decide +kernel
  exact va_Nw.of rfl (hts _ (hm n hn))
def op_look : List av_Q := [(0, .aload_n 0, 1, 0, 0, 0), (1, .iload_n 1, 1, 0, 0, 0), (2, .invokevirtual 155, 3, 36, 1, 11), (5, .ifCond .ne 13, 3, 0, 0, 0)]
def mt_look : av_M := ((RX11, yX11_look, cX11_look, 4, some .int), op_look, 10, 100, 9, 160)
set_option maxRecDepth 100000 in
theorem ok_look : ∀ q ∈ op_look, av_ok av_T vwCl mt_all mt_look q := av_zip_ok ok_mm (by decide) okj_all ok_o1 ok_o2 (hs := [[], [], [(5, 0)], []]) (by decide +kernel) (by decide +kernel)
def op_Llook : List av_Q := [(0, .aload_n 3, 1, 0, 0, 0), (1, .iconst 0, 1, 0, 0, 0), (2, .aload_n 0, 1, 0, 0, 0), (3, .iload_n 1, 1, 0, 0, 0), (4, .iload_n 2, 1, 0, 0, 0)]
def mt_Llook : av_M := ((RL, yL_look, cL_look, 5, some .int), op_Llook, 20, 200, 10, 220)
set_option maxRecDepth 100000 in
theorem ok_Llook : ∀ q ∈ op_Llook, av_ok av_T vwCl mt_all mt_Llook q := av_zip_ok ok_mm (by decide) okj_all ok_o1 ok_o2 (hs := [[], [], [], [], []]) (by decide +kernel) (by decide +kernel)
theorem okm_look : av_okM av_T mt_look := ⟨av_pt_T (k := 6) (i := 69) rfl rfl, rfl, av_in_ok (h := (1, 1)) (by decide +kernel), by decide +kernel, by decide +kernel, by decide +kernel⟩
def lk_isg (r : Option av_O) : Bool := match r with
  | some [(some v, h)] => av_vb v (av_i (0, 0)) && av_hb h hp_3
  | _ => false
theorem lk_isg_ok {r : Option av_O} (q : lk_isg r = true) : r = some [(some (av_i (0, 0)), hp_3)] := by
  unfold lk_isg at q
  split at q
  · simp only [Bool.and_eq_true] at q
    rw [av_vb_ok q.1, av_hb_ok q.2]
  · cases q
set_option maxRecDepth 1000000 in
theorem rn_gate : (av_cut (-2147483648) (lw_cuts 4)).all (fun b => lk_isg (av_run fk_all mt_all 100 (wd_bytes, none) 36 op_X11_isGate (0, av_ent 0 [av_r 0, av_i b], [], hp_3, 0, 0))) = true := by decide +kernel
section LK
variable {D : va_G} {cy : Nat → ClassId} {A : Nat → Prop} {sv : Nat → Value} {l : Launch}
def lk_Pre (D : va_G) (cy : Nat → ClassId) (A : Nat → Prop) (sv : Nat → Value) (sa : Nat) (ws : va_W) (vs : List Value) : Array Value → State → Prop :=
  va_Pc vs (fun U => va_P D vwCl ws U.heap ∧ va_K D vwCl (av_tys cy) U ∧ (∀ q, U.heap.size ≤ q → A q) ∧ av_SF A sv (wd_bytes, none) U U.heap ∧ lk_F A sa U U.heap)
theorem lk_blind {sa : Nat} {ws : va_W} {vs : List Value} : FrameBlind (lk_Pre D cy A sv sa ws vs) := by
  intro a U g mk hq
  obtain ⟨q0, q1, q2, q3, q4, q5⟩ := hq
  exact ⟨q0, q1, va_K.moved (u := U) (U := U.calling g mk a) (Vm.Alike.refl U.vm) q2, q3, av_SF_in q4 g mk a, lk_F_in q5 g mk a⟩
def lk_XC (D : va_G) (cy : Nat → ClassId) (A : Nat → Prop) (sv : Nat → Value) (as : List Nat) : String → State → State → Prop := fun E st t =>
  E = lk_E ∧ (∃ (as' : List Nat) (ws' : va_W), as <+: as' ∧ av_relH cy sv as' hp_3 ws' ∧ va_P D vwCl ws' t.heap ∧ va_D A ws') ∧ va_F A st t
theorem lk_met (hl : l.stackTraces = false) {sa : Nat} {b1 : Int × Int} (hb1 : b1 ∈ av_cut (-2147483648) (lw_cuts 4)) (hsv : ∀ j, sv j = .null ∨ ∃ a, sv j = .ref a) {as : List Nat} {ws : va_W} {vs : List Value} (hvs : av_relS sv as [av_r 0, av_i b1, av_i av_top] vs) (hH : av_relH cy sv as hp_3 ws) (hD : va_D A ws) :
    vx_Met l yX11_look (av_ws av_T mt_look) (av_rm mt_look) (lk_Pre D cy A sv sa ws vs) (fun _ _ _ _ => False) (lk_XC D cy A sv as) 10 100 A := by
  refine vx_ofW (cc := cX11_look) (maxL := 4) (ret := some .int) (by decide +kernel) rfl ?_
  intro p e s m args below meth c s₁ B hml htab hv
  obtain ⟨rfl, hP, hK, hA, hSF, hF⟩ := hv
  have hts0 := atoms_spec (ws := av_ws av_T mt_look) B.pre
  have hts : ∀ w ∈ av_T, w.before vs.toArray s = true := fun w hw => hts0 w (List.mem_cons_of_mem _ hw)
  have hown : s.vm.findClass RX11 = some m.cls := findClass_of_methodNamed B.named
  have C0 : av_Cx av_T vwCl D cy A sv (wd_bytes, none) mt_look p (headSpec (av_ws av_T mt_look) (av_rm mt_look)).room s m vs.toArray meth c :=
    ⟨B.exec, B.bytes, hml, hown, hts, B.returns, B.notSynchronized, (name_of_methodNamed B.named B.method).1, hK, hA, hSF, rfl, rfl, Nat.le_refl _, Nat.le_refl _⟩
  have hg : av_Good vwCl D cy A sv as 4 p l e (headSpec (av_ws av_T mt_look) (av_rm mt_look)).room s m vs.toArray below meth c (vx_MQ below (fun _ _ _ _ => False) (lk_XC D cy A sv as) vs.toArray s 10 100 A) (0, av_ent 0 [av_r 0, av_i b1, av_i av_top], [], hp_3, 0, 0) := by
    refine av_stp_ok (mt := mt_all) C0 cls_all lw_c4 lw_c5 lw_c100 ok_look 2 op_look _ (2, av_ent 0 [av_r 0, av_i b1, av_i av_top], [av_i b1, av_r 0], hp_3, 0, 0) rfl ok_look ?_
    have m1 : av_Met av_T vwCl D cy A sv l wd_bytes (mt_all 36) [av_r 0, av_i b1] hp_3 [(some (av_i (0, 0)), hp_3)] := av_MetRun (fuel := 100) hsv (lk_isg_ok (List.all_eq_true.mp rn_gate b1 hb1)) okm_X11_isGate rfl (Nat.le_of_ble_eq_true rfl)
    refine av_call_ok (q := (2, .invokevirtual 155, 3, 36, 1, 11)) (j := 36) (av := [av_r 0, av_i b1]) (stk := []) (mt := mt_all) C0 av_T_good lw_c100 (ok_look _ (List.mem_of_getElem? (i := 2) rfl)) rfl (by decide) (by rfl) (by rfl) m1 fun ov hov => ?_
    obtain rfl : ov = (some (av_i (0, 0)), hp_3) := by simpa using hov
    refine av_stp_ok (mt := mt_all) C0 cls_all lw_c4 lw_c5 lw_c100 ok_look 1 (op_look.drop 3) _ (8, av_ent 0 [av_r 0, av_i b1, av_i av_top], [], hp_3, 0, 0) rfl (fun q h => ok_look q (List.mem_of_mem_drop h)) ?_
    intro as' ws' H locs ls stv has hH' hP' hD' hS hL hst
    have := av_relS_nil hst
    subst this
    obtain ⟨f1, f2, f3, f4, f5⟩ := hF
    have hls : ls.size = c.maxLocals := by
      obtain ⟨lv, g, -⟩ := hL
      rw [hml]; exact g.1
    have hat : ∀ w ∈ vx_atS RX11 163 lk_E lk_names, w.before vs.toArray s = true := vx_hat (fun w hw => hts w (List.mem_filter.mpr ⟨lk_good w hw, (List.mem_filter.mp hw).2⟩)) lk_bad (fun w hw => by
      rcases List.mem_cons.mp hw with rfl | hw
      · exact va_Nw.use rfl f4
      · obtain ⟨n, hn, rfl⟩ := List.mem_map.mp hw
        exact va_Nw.use rfl (f5 n hn))
    exact vx_throwS (pc := 8) (ik := 159) (is := 161) (ic := 163) (names := lk_names) (cls := lk_E) (own := RX11) B.exec B.bytes hl hown lk_fit lk_fits (hts _ (av_in_ok (h := (6, 70)) (by decide +kernel))) (hts _ (av_in_ok (h := (1, 22)) (by decide +kernel))) f1 hat lk_ot f2 f3 hS hls (by decide +kernel) (by decide +kernel) (by decide +kernel) (by decide +kernel) (by decide +kernel)
      (fun x hx => absurd hx (fun q => htab x q)) (Nat.le_of_ble_eq_true rfl) (Nat.le_of_ble_eq_true rfl) (Nat.le_of_ble_eq_true rfl) (Nat.le_of_ble_eq_true rfl) B.notSynchronized
      (fun t _ h1 h2 => ⟨rfl, ⟨as', ws', has, hH', hP'.kept (fun k x hx => h2 x.1 ((hP' k x hx).lt)), hD'⟩, Nat.le_trans hS.1 h1, fun q q1 q2 => (h2 q (Nat.lt_of_lt_of_le q1 hS.1)).trans (hS.2.1 q q1 q2)⟩)
      hS.2.2 (Nat.le_of_ble_eq_true rfl) (Nat.le_of_ble_eq_true rfl)
  obtain ⟨g1, g2⟩ := av_ent_ok hsv 0 hvs rfl
  have hle := lv_entry vs (n := 4) (by rw [g2]; exact Nat.le_of_ble_eq_true rfl)
  rw [lg_entry_eq]
  exact hg as ws s.heap [] _ [] (List.prefix_refl _) hH hP hD va_S.rf ⟨_, hle, g1⟩ trivial
end LK
end
section
/-! ===== the law's steps to the call of look ===== -/
theorem lk_steps (b1 : Int × Int) : av_stp (wd_bytes, some (lw_row b1)) fk_all mt_L_law 13 (av_from 40 op_L_law) (40, lw_loc, [av_i (Int.ofNat 4, Int.ofNat 4)], hp_3, 150, 5612) = some (374, lw_loc, [av_r 149, av_i av_top, av_i b1, av_r 0], hp_3, 150, 5612) := by
  rfl
/-! ===== the law's own look: it catches and answers 1 ===== -/
section LK
variable {D : va_G} {cy : Nat → ClassId} {A : Nat → Prop} {sv : Nat → Value} {l : Launch}
abbrev lk_hh : List (Nat × Nat × Nat × Nat) := [(0, 10, 13, 13), (0, 10, 17, 15)]
def lk_ws : List Jvm.Cond := Jvm.Cond.codeWith yL_look cL_look 5 (some .int) lk_hh :: av_T
theorem lk_in {w : Jvm.Cond} (h : w ∈ av_T) : w ∈ av_T ∧ ((w.onTables && w.keeps) = true ∨ ∃ ty, w = .arrayClass ty) := av_T_good w h
theorem lk_good7 : GoodIn av_T (wsV RL 7 RX11 yX11_look (av_ws av_T mt_look)) := by
  intro w hw
  apply lk_in
  rcases List.mem_append.mp hw with hw | hw
  · simp only [List.mem_cons, List.not_mem_nil, or_false] at hw
    rcases hw with rfl | rfl | rfl | rfl
    · exact av_in_ok (h := (6, 66)) (by decide +kernel)
    · exact av_in_ok (h := (6, 67)) (by decide +kernel)
    · exact av_in_ok (h := (6, 68)) (by decide +kernel)
    · exact okm_look.2.2.1
  · rcases List.mem_cons.mp hw with rfl | hw
    · exact okm_look.1
    · exact hw
theorem lk_good39 : GoodIn av_T (va_wsS RL 39 yL_look lk_ws) := by
  intro w hw
  apply lk_in
  rcases List.mem_append.mp hw with hw | hw
  · simp only [List.mem_cons, List.not_mem_nil, or_false] at hw
    rcases hw with rfl | rfl | rfl
    · exact av_in_ok (h := (6, 61)) (by decide +kernel)
    · exact av_in_ok (h := (6, 62)) (by decide +kernel)
    · exact av_in_ok (h := (1, 0)) (by decide +kernel)
  · rcases List.mem_cons.mp hw with rfl | hw
    · exact av_in_ok lk_cw
    · exact hw
set_option maxHeartbeats 4000000 in
theorem lk_Lmet (hl : l.stackTraces = false) {sa : Nat} {b1 : Int × Int} (hb1 : b1 ∈ av_cut (-2147483648) (lw_cuts 4)) (hsv : ∀ j, sv j = .null ∨ ∃ a, sv j = .ref a) {as : List Nat} {ws : va_W} {vs : List Value} (hvs : av_relS sv as [av_r 0, av_i b1, av_i av_top, av_r 149] vs) (hH : av_relH cy sv as hp_3 ws) (hD : va_D A ws) :
    Met l yL_look lk_ws (av_rm mt_Llook) (lk_Pre D cy A sv sa ws vs) (av_Qc vwCl D cy A sv as [(some (av_i (1, 1)), hp_3)]) 20 200 A := by
  refine va_MetW (cc := cL_look) (maxL := 5) (ret := some .int) (hh := lk_hh) (by decide +kernel) rfl ?_
  intro p e s m args below meth c s₁ B hml hv
  obtain ⟨rfl, hP, hK, hA, hSF, hF⟩ := hv
  have hts0 := atoms_spec (ws := lk_ws) B.pre
  have htab : c.exceptionTable.toList = tableOf lk_hh := vx_table (x := yL_look) B (hts0 _ List.mem_cons_self)
  have hts : ∀ w ∈ av_T, w.before vs.toArray s = true := fun w hw => hts0 w (List.mem_cons_of_mem _ hw)
  have hown : s.vm.findClass RL = some m.cls := findClass_of_methodNamed B.named
  have C0 : av_Cx av_T vwCl D cy A sv (wd_bytes, none) mt_Llook p (headSpec lk_ws (av_rm mt_Llook)).room s m vs.toArray meth c :=
    ⟨B.exec, B.bytes, hml, hown, hts, B.returns, B.notSynchronized, (name_of_methodNamed B.named B.method).1, hK, hA, hSF, rfl, rfl, Nat.le_refl _, Nat.le_refl _⟩
  have hg : av_Good vwCl D cy A sv as 5 p l e (headSpec lk_ws (av_rm mt_Llook)).room s m vs.toArray below meth c (MQ below (av_Qc vwCl D cy A sv as [(some (av_i (1, 1)), hp_3)]) vs.toArray s 20 200 A) (0, av_ent 0 [av_r 0, av_i b1, av_i av_top, av_r 149], [], hp_3, 0, 0) := by
    refine av_stp_ok (mt := mt_all) C0 cls_all lw_c4 lw_c5 lw_c100 ok_Llook 5 op_Llook _ (5, av_ent 0 [av_r 0, av_i b1, av_i av_top, av_r 149], [av_i av_top, av_i b1, av_r 0, av_c (Int32.ofInt 0), av_r 149], hp_3, 0, 0) rfl ok_Llook ?_
    intro as' ws' H locs ls stv has hH' hP' hD' hS hL hst
    obtain ⟨y2, stv1, rfl, hy2, hst1⟩ := av_relS_cons hst
    obtain ⟨y1, stv2, rfl, hy1, hst2⟩ := av_relS_cons hst1
    obtain ⟨_, stv3, rfl, ⟨a0, ha0, rfl⟩, hst3⟩ := av_relS_cons hst2
    have hls : ls.size = 5 := by
      obtain ⟨lv, g, -⟩ := hL
      exact g.1
    have hmet := lk_met (D := D) (cy := cy) (A := A) (sv := sv) (l := l) hl (sa := sa) hb1 hsv (as := as') (ws := ws') (vs := [.ref a0, y1, y2]) ⟨⟨a0, ha0, rfl⟩, hy1, hy2, trivial⟩ hH' hD'
    have hk0 : hp_3[0]? = some (.inr (11, _)) := rfl
    obtain ⟨ad', en, e1, e2, hE⟩ := hH'.2.2 0 _ hk0
    cases ha0.symm.trans e1
    obtain ⟨fs, rfl, -, -⟩ := hE
    have hpre : ∀ U : State, U.heap = H → s.WarmedH U.vm → lk_Pre D cy A sv sa ws' [.ref a0, y1, y2] [.ref a0, y1, y2].toArray U := by
      intro U hU hW
      exact ⟨rfl, by rw [hU]; exact hP', va_K.moved hW.alike hK, fun q hq => hA q (Nat.le_trans hS.1 (by rw [← hU]; exact hq)), av_SF_call hSF hW hU hS, lk_F_call hF hW hU hS⟩
    have hwid := av_wid_ok hsv hst3
    have hr := vx_runV (p := p) (e := e) (below := below) (meth := meth) (locs := locs) (cells := 0) (slots := 0) (As := [y1, y2]) (rest := stv3) (C := RX11) (own := RL) (index := 7) (g := F0 m 5 ls (y2 :: y1 :: .ref a0 :: stv3)) ⟨B.exec, B.bytes, hml, hown, hts⟩ hmet (cwV (R := (headSpec lk_ws (av_rm mt_Llook)).room) 2 hts lk_good7 rfl rfl rfl (by decide +kernel) ⟨Nat.le_of_ble_eq_true rfl, Nat.le_of_ble_eq_true rfl⟩)
      ⟨lk_blind, va_recv hK hP' (ci := 11) (q0 := 0) rfl e2, hpre⟩ rfl rfl hls rfl (lv_room (by rw [hwid]; exact Nat.le_of_ble_eq_true rfl)) (show decode cL_look 5 = .ok (.invokevirtual 7, 3) by decide +kernel) ⟨Nat.le_of_ble_eq_true rfl, Nat.le_of_ble_eq_true rfl⟩
    intro T hT X
    rcases hr T hT X with ⟨v, st₀, t, T', L, h0, X', hLf, e1, e2, hno, st⟩ | ⟨q, st₀, t, T', L, E, ce, h0, X', hLf, e1, e2, ⟨rfl, ⟨as2, ws2, w1, w2, w3, w4⟩, hFr⟩, hce, hcv, hcl, st⟩
    · exact hno.elim
    · obtain ⟨k1, k2, k3⟩ := vx_keep h0 e1 hS (fun q _ h => h) (fun q h => h) hLf hFr
      obtain ⟨lv, g1, -⟩ := hL
      have hcat : vx_W p l e (headSpec lk_ws (av_rm mt_Llook)).room s m vs.toArray below meth c T'.heap (locs ++ L) (0 + 10) (0 + 100) (MQ below (av_Qc vwCl D cy A sv as [(some (av_i (1, 1)), hp_3)]) vs.toArray s 20 200 A) (F0 m 5 ls stv3) q := by
        refine ct_catch (own := RL) (name := lk_E) hown htab (by decide) (by decide) (hts _ (av_in_ok (h := (6, 64)) (by decide +kernel))) (va_Nw.use rfl hF.2.2.2.1) (by rw [e1]; exact hce) hcv hcl ?_
        refine lv_astore (pc := 13) (i := 4) (nL := 5) B.exec B.bytes (by decide +kernel) g1 (by decide) rfl (fun ls' _ => ?_)
        refine lv_iconst (n := 1) (v := 1) B.exec B.bytes (pc := 15) (by decide +kernel) (by decide) ?_
        refine W.widen (k := 20) (n := 200) (Nat.le_of_ble_eq_true rfl) (Nat.le_of_ble_eq_true rfl) ?_
        refine W.iret (pc := 16) B.exec B.bytes B.returns (fun t' ht' _ => ⟨⟨(some (av_i (1, 1)), hp_3), List.mem_singleton.mpr rfl, as2, ws2, some (.int 1), rfl, has.trans w1, ⟨⟨1, rfl, by decide, by decide⟩, trivial⟩, w2, by rw [ht', e1]; exact w3, w4⟩, k3.F ht'⟩) k3.2.2 (by decide +kernel) B.notSynchronized
      obtain ⟨t2, a1, b2⟩ := hcat T' rfl X'
      exact ⟨t2, st.trans a1, b2⟩
  obtain ⟨g1, g2⟩ := av_ent_ok hsv 0 hvs rfl
  have hle := lv_entry vs (n := 5) (by rw [g2]; exact Nat.le_of_ble_eq_true rfl)
  rw [lg_entry_eq]
  exact hg as ws s.heap [] _ [] (List.prefix_refl _) hH hP hD va_S.rf ⟨_, hle, g1⟩ trivial
variable {X : av_X} {p : Program} {e : Env} {s : State} {m : MethodId} {b0 : Nat} {below : List Frame} {meth : Method} {c : Code} {as0 : List Nat}
theorem lk_law (hl : l.stackTraces = false) {sa : Nat} {b1 : Int × Int} (hb1 : b1 ∈ av_cut (-2147483648) (lw_cuts 4)) (hF : lk_F (fun q => s.heap.size ≤ q) sa s s.heap) (C0 : av_Cx av_T vwCl D cy (fun q => s.heap.size ≤ q) sv (wd_bytes, some (lw_row b1)) mt_L_law p room_1 s m #[Value.ref b0] meth c) :
    av_Good vwCl D cy (fun q => s.heap.size ≤ q) sv as0 7 p l e room_1 s m #[Value.ref b0] below meth c (lw_Z below #[Value.ref b0] s) (40, lw_loc, [av_i (Int.ofNat 4, Int.ofNat 4)], hp_3, 150, 5612) := by
  have hsv := C0.2.2.2.2.2.2.2.2.2.2.1.1
  have k377 : av_Good vwCl D cy (fun q => s.heap.size ≤ q) sv as0 7 p l e room_1 s m #[Value.ref b0] below meth c (lw_Z below #[Value.ref b0] s) (377, lw_loc, [av_i (1, 1)], hp_3, 170, 5812) := lw_run (fuel := 5000) (sfx := av_from 377 op_L_law) C0 (fun q h => av_from_mem h) (List.all_eq_true.mp rn_4 b1 hb1)
  refine lw_stp (fuel := 13) (sfx := av_from 40 op_L_law) (S' := (374, lw_loc, [av_r 149, av_i av_top, av_i b1, av_r 0], hp_3, 150, 5612)) C0 (fun q h => av_from_mem h) (lk_steps b1) ?_
  obtain ⟨hx, hb, hml, hown, hts, hr, hlk, hnm, hK, hA, hSF, r1, r2, r3, r4⟩ := C0
  intro as ws H locs ls stv has hH hP hD hS hL hst
  obtain ⟨y3, stv1, rfl, hy3, hst1⟩ := av_relS_cons hst
  obtain ⟨y2, stv2, rfl, hy2, hst2⟩ := av_relS_cons hst1
  obtain ⟨y1, stv3, rfl, hy1, hst3⟩ := av_relS_cons hst2
  obtain ⟨y0, stv4, rfl, hy0, hst4⟩ := av_relS_cons hst3
  have := av_relS_nil hst4
  subst this
  have hls : ls.size = 7 := by
    obtain ⟨lv, g, -⟩ := hL
    exact g.1
  have hmet := lk_Lmet (D := D) (cy := cy) (A := fun q => s.heap.size ≤ q) (sv := sv) (l := l) hl (sa := sa) hb1 hsv (as := as) (ws := ws) (vs := [y0, y1, y2, y3]) ⟨hy0, hy1, hy2, hy3, trivial⟩ hH hD
  refine av_go_ok (vx_runSW (As := [y0, y1, y2, y3]) (rest := []) (own := RL) (index := 39) (hh := lk_hh) ⟨hx, hb, hml, hown, hts⟩ hmet (vx_cwSW (R := room_1) 4 hts lk_good39 rfl rfl rfl (by decide +kernel) ⟨Nat.le_of_ble_eq_true rfl, Nat.le_of_ble_eq_true rfl⟩) ⟨lk_blind, fun U hU hW => ⟨rfl, by rw [hU]; exact hP, va_K.moved hW.alike hK, fun q hq => hA q (Nat.le_trans hS.1 (by rw [← hU]; exact hq)), av_SF_call hSF hW hU hS, lk_F_call hF hW hU hS⟩⟩ rfl rfl hls rfl (lv_room (by decide)) (show decode cL_law 374 = .ok (.invokestatic 39, 3) by decide +kernel) ⟨Nat.le_of_ble_eq_true rfl, Nat.le_of_ble_eq_true rfl⟩) hS
    (fun ov hov as' ws' rv H1 locs1 c1 c2 c3 c4 c5 c6 => ?_)
  obtain rfl : ov = (some (av_i (1, 1)), hp_3) := by simpa using hov
  exact k377 as' ws' H1 locs1 ls (rv.toList ++ []) (has.trans c1) c3 c4 c5 c6 (av_relL_up c1 hL) (by rw [List.append_nil]; exact c2)
end LK
end
section
/-! ===== the law from its entry ===== -/
theorem av_cut_ok {x : Int} (hx : x ≤ 2147483647) : ∀ (l : List Int) (lo : Int), lo ≤ x → ∃ b ∈ av_cut lo l, b.1 ≤ x ∧ x ≤ b.2 := by
  intro l
  induction l with
  | nil => intro lo h; exact ⟨_, List.mem_singleton.mpr rfl, h, hx⟩
  | cons c l ih =>
    intro lo h
    by_cases hc : x < c
    · exact ⟨(lo, c - 1), List.mem_cons_self, h, by dsimp only; omega⟩
    · obtain ⟨b, h1, h2⟩ := ih c (by omega)
      exact ⟨b, List.mem_cons_of_mem _ h1, h2⟩
def lw_rowA (x : Int32) (b : Int × Int) : List av_V := [av_i (x.toInt, x.toInt), av_i b, av_i av_top, av_i av_top, av_i av_top, av_i av_top]
theorem lw_dnT {sv : Nat → Value} (x : Int32) : av_dn sv [] (av_i av_top) (.int x) := ⟨x, rfl, av_top_ok x⟩
theorem lw_dnB {sv : Nat → Value} {xs : Nat → Int32} {b : Int × Int} (h : b.1 ≤ (xs 1).toInt ∧ (xs 1).toInt ≤ b.2) : ∀ (k : Nat) (v : av_V), (lw_row b)[k]? = some v → av_dn sv [] v (.int (xs k)) := by
  intro k v hk
  match k, hk with
  | 0, hk => cases hk; exact lw_dnT _
  | 1, hk => cases hk; exact ⟨_, rfl, h⟩
  | 2, hk => cases hk; exact lw_dnT _
  | 3, hk => cases hk; exact lw_dnT _
  | 4, hk => cases hk; exact lw_dnT _
  | 5, hk => cases hk; exact lw_dnT _
  | k + 6, hk => exact absurd hk (by show ¬ ([] : List av_V)[k]? = some v; simp)
theorem lw_dnA {sv : Nat → Value} {xs : Nat → Int32} {b : Int × Int} (h : b.1 ≤ (xs 1).toInt ∧ (xs 1).toInt ≤ b.2) : ∀ (k : Nat) (v : av_V), (lw_rowA (xs 0) b)[k]? = some v → av_dn sv [] v (.int (xs k)) := by
  intro k v hk
  match k, hk with
  | 0, hk => cases hk; exact ⟨_, rfl, Int.le_refl _, Int.le_refl _⟩
  | 1, hk => cases hk; exact ⟨_, rfl, h⟩
  | 2, hk => cases hk; exact lw_dnT _
  | 3, hk => cases hk; exact lw_dnT _
  | 4, hk => cases hk; exact lw_dnT _
  | 5, hk => cases hk; exact lw_dnT _
  | k + 6, hk => exact absurd hk (by show ¬ ([] : List av_V)[k]? = some v; simp)
theorem lw_dnS {sv : Nat → Value} {xs : Nat → Int32} {L : Nat} : ∀ (k : Nat) (v : av_V), (List.replicate L (av_i av_top))[k]? = some v → av_dn sv [] v (.int (xs k)) := fun k v hk => by rw [av_rep hk]; exact lw_dnT _
theorem lw_sub23 : ∀ q ∈ av_from 23 op_L_law, q ∈ op_L_law := fun q h => av_from_mem h
theorem lw_sub40 : ∀ q ∈ av_from 40 op_L_law, q ∈ op_L_law := fun q h => av_from_mem h
theorem lw_sub377 : ∀ q ∈ av_from 377 op_L_law, q ∈ op_L_law := fun q h => av_from_mem h
set_option maxRecDepth 1000000 in
theorem rn_short : ∀ L, L < 6 → lw_ends (av_run fk_all mt_all 100 (wd_bytes, some (List.replicate L (av_i av_top))) 128 (av_from 23 op_L_law) (23, lw_loc, [], hp_3, 150, 5612)) = true := by decide +kernel
theorem lw_and {k : Nat} (x : Int32) (hk : k < 64) (h : x &&& 63 = nI k) : av_b2 (fun x y => x &&& y) (x.toInt, x.toInt) (63, 63) = (Int.ofNat k, Int.ofNat k) := by
  unfold av_b2
  have e1 : (decide ((x.toInt, x.toInt).1 = (x.toInt, x.toInt).2) && decide (((63 : Int), (63 : Int)).1 = ((63 : Int), (63 : Int)).2)) = true := by simp
  rw [e1, cond_true]
  dsimp only
  rw [Int32.ofInt_toInt]
  have e2 : Int32.ofInt 63 = 63 := by decide
  rw [e2, h, nI_toInt (by omega)]
  rfl
theorem rn_all : ∀ k, k < 64 → k ≠ 4 → (av_cut (-2147483648) (lw_cuts k)).all (lw_ck k) = true := by
  intro k hk h4
  match k, hk, h4 with
  | 0, _, _ => exact rn_0
  | 1, _, _ => exact rn_1
  | 2, _, _ => exact rn_2
  | 3, _, _ => exact rn_3
  | 4, _, h4 => exact absurd rfl h4
  | 5, _, _ => exact rn_5
  | 6, _, _ => exact rn_6
  | 7, _, _ => exact rn_7
  | 8, _, _ => exact rn_8
  | 9, _, _ => exact rn_9
  | 10, _, _ => exact rn_10
  | 11, _, _ => exact rn_11
  | 12, _, _ => exact rn_12
  | 13, _, _ => exact rn_13
  | 14, _, _ => exact rn_14
  | 15, _, _ => exact rn_15
  | 16, _, _ => exact rn_16
  | 17, _, _ => exact rn_17
  | 18, _, _ => exact rn_18
  | 19, _, _ => exact rn_19
  | 20, _, _ => exact rn_20
  | 21, _, _ => exact rn_21
  | 22, _, _ => exact rn_22
  | 23, _, _ => exact rn_23
  | 24, _, _ => exact rn_24
  | 25, _, _ => exact rn_25
  | 26, _, _ => exact rn_26
  | 27, _, _ => exact rn_27
  | 28, _, _ => exact rn_28
  | 29, _, _ => exact rn_29
  | 30, _, _ => exact rn_30
  | 31, _, _ => exact rn_31
  | 32, _, _ => exact rn_32
  | 33, _, _ => exact rn_33
  | 34, _, _ => exact rn_34
  | 35, _, _ => exact rn_35
  | 36, _, _ => exact rn_36
  | 37, _, _ => exact rn_37
  | 38, _, _ => exact rn_38
  | 39, _, _ => exact rn_39
  | 40, _, _ => exact rn_40
  | 41, _, _ => exact rn_41
  | 42, _, _ => exact rn_42
  | 43, _, _ => exact rn_43
  | 44, _, _ => exact rn_44
  | 45, _, _ => exact rn_45
  | 46, _, _ => exact rn_46
  | 47, _, _ => exact rn_47
  | 48, _, _ => exact rn_48
  | 49, _, _ => exact rn_49
  | 50, _, _ => exact rn_50
  | 51, _, _ => exact rn_51
  | 52, _, _ => exact rn_52
  | 53, _, _ => exact rn_53
  | 54, _, _ => exact rn_54
  | 55, _, _ => exact rn_55
  | 56, _, _ => exact rn_56
  | 57, _, _ => exact rn_57
  | 58, _, _ => exact rn_58
  | 59, _, _ => exact rn_59
  | 60, _, _ => exact rn_60
  | 61, _, _ => exact rn_61
  | 62, _, _ => exact rn_62
  | 63, _, _ => exact rn_63
  | k + 64, hk, _ => omega
def lw_d6 : Int × Int := av_b2 (fun x y => x - y) ((Int32.ofNat 6).toInt, (Int32.ofNat 6).toInt) ((Int8.ofInt 6).toInt32.toInt, (Int8.ofInt 6).toInt32.toInt)
theorem lw_d6_eq : lw_d6 = (0, 0) := by decide +kernel
set_option maxRecDepth 1000000 in
theorem lw_steps23 (x : Int32) (b : Int × Int) : av_stp (wd_bytes, some (lw_rowA x b)) fk_all mt_L_law 5 (av_from 23 op_L_law) (23, lw_loc, [], hp_3, 150, 5612) = some (30, lw_loc, [av_i lw_d6, av_i (0, 0)], hp_3, 150, 5612) := by rfl
set_option maxRecDepth 1000000 in
theorem lw_steps30 (x : Int32) (b : Int × Int) : av_stp (wd_bytes, some (lw_rowA x b)) fk_all mt_L_law 5 (av_from 30 op_L_law) (30, lw_loc, [av_i (0, 0), av_i (0, 0)], hp_3, 150, 5612) = some (39, lw_loc, [av_i (63, 63), av_i (x.toInt, x.toInt)], hp_3, 150, 5612) := by rfl
section LM
variable {D : va_G} {cy : Nat → ClassId} {sv : Nat → Value} {l : Launch} {p : Program} {e : Env} {s : State} {m : MethodId} {b : Nat} {below : List Frame} {meth : Method} {c : Code}
theorem lw_open {L : Nat} {xs : Nat → Int32} (hL : L ≤ 6) (hsv2 : sv 2 = .ref b)
    (mkC : ∀ ys : List av_V, ys.length = L → (∀ (k : Nat) (v : av_V), ys[k]? = some v → av_dn sv [] v (.int (xs k))) → av_Cx av_T vwCl D cy (fun q => s.heap.size ≤ q) sv (wd_bytes, some ys) mt_L_law p room_1 s m #[Value.ref b] meth c)
    (hlook : ∀ b1 ∈ av_cut (-2147483648) (lw_cuts 4), av_Cx av_T vwCl D cy (fun q => s.heap.size ≤ q) sv (wd_bytes, some (lw_row b1)) mt_L_law p room_1 s m #[Value.ref b] meth c → av_Good vwCl D cy (fun q => s.heap.size ≤ q) sv [] 7 p l e room_1 s m #[Value.ref b] below meth c (lw_Z below #[Value.ref b] s) (40, lw_loc, [av_i (Int.ofNat 4, Int.ofNat 4)], hp_3, 150, 5612)) :
    W p l e room_1 s m #[Value.ref b] below meth c s.heap [] 0 0 (lw_Z below #[Value.ref b] s) (entryFrame m ([Value.ref b] : List Value).toArray 7) := by
  have hg : av_Good vwCl D cy (fun q => s.heap.size ≤ q) sv [] 7 p l e room_1 s m #[Value.ref b] below meth c (lw_Z below #[Value.ref b] s) (0, [(0, av_s 2)], [], [], 0, 0) := by
    by_cases h6 : L < 6
    · have C := mkC (List.replicate L (av_i av_top)) (by simp) lw_dnS
      exact lw_make C rfl (lw_run C lw_sub23 (rn_short L h6))
    · have hL6 : L = 6 := by omega
      subst hL6
      obtain ⟨k, hk, hx0⟩ := pk_andE (xs 0) (m := 63) 6 (by decide)
      have hk : k < 64 := hk
      obtain ⟨b1, hb1, hb2⟩ := av_cut_ok (av_i32 (xs 1)).2 (lw_cuts k) (-2147483648) (av_i32 (xs 1)).1
      have CA := mkC (lw_rowA (xs 0) b1) rfl (lw_dnA hb2)
      have CB := mkC (lw_row b1) rfl (lw_dnB hb2)
      refine lw_make CA rfl ?_
      refine lw_stp CA lw_sub23 (lw_steps23 (xs 0) b1) ?_
      rw [lw_d6_eq]
      refine lw_stp CA (fun q h => av_from_mem h) (lw_steps30 (xs 0) b1) ?_
      refine av_bin_ok (mt := mt_all) (ins := .iand) (len := 1) (a := 0) (b := 0) (z := 0) (r := (Int.ofNat k, Int.ofNat k)) CA (ok_L_law_0 _ (List.mem_of_getElem? (i := 23) rfl)) rfl (by show some (av_b2 _ _ _) = _; rw [lw_and (xs 0) hk hx0]) ?_
      by_cases h4 : k = 4
      · subst h4
        exact hlook b1 hb1 CB
      · exact lw_run CB lw_sub40 (List.all_eq_true.mp (rn_all k hk h4) b1 hb1)
  rw [lg_entry_eq]
  have hl := lv_entry ([.ref b]) (n := 7) (Nat.le_of_ble_eq_true rfl)
  refine hg [] [] s.heap [] _ [] (List.prefix_refl _) ⟨rfl, rfl, fun k c hk => by simp at hk⟩ (fun k q h => by simp at h) ⟨fun i j p q h => by simp at h, fun k q h => by simp at h⟩ va_S.rf ⟨_, hl, fun q hq => ?_⟩ trivial
  obtain rfl : q = (0, av_s 2) := by simpa using hq
  exact ⟨.ref b, hsv2.symm, List.mem_cons_self⟩
end LM
end
section
/-- from the entry, for every script of at most 6 ints, the law comes to its end with true -/
theorem whole_start {p : Program} {e : Env} {s : State} {m : MethodId} {below : List Frame} {meth : Method} {c : Code} (l : Launch) (hl : l.stackTraces = false) {b L : Nat} {xs : Nat → Int32} (hL : L ≤ 6) (hnm : meth.name = x.name) (C0 : lw_At p s m meth c b L xs) : W p l e room_1 s m #[Value.ref b] below meth c s.heap [] 0 0 (lw_Z below #[Value.ref b] s) (entryFrame m ([Value.ref b] : List Value).toArray 7) := by
  obtain ⟨hx, hb, hr, hml, hown, hts, hX, hbl, hlocks, hgv⟩ := C0
  obtain ⟨D, cy, hK⟩ := st_K hts
  obtain ⟨sv, hsv2, hSF⟩ := st_SF hts hgv hX hbl
  obtain ⟨sa, hF⟩ := lk_start hts hgv
  exact lw_open (D := D) (cy := cy) (sv := sv) hL hsv2 (fun ys h1 h2 => ⟨hx, hb, hml, hown, fun w hw => hts w (st_in hw), hr, hlocks, hnm, hK, fun q h => h, hSF ys h1 h2, rfl, rfl, Nat.le_of_ble_eq_true rfl, Nat.le_of_ble_eq_true rfl⟩) (fun b1 hb1 CB => lk_law hl hb1 hF CB)
set_option maxHeartbeats 4000000 in
theorem lw_walk (l : Launch) (hl : l.stackTraces = false) (b : Addr) (xs : List Int32) : MetFree l x (headSpec (Jvm.Cond.code x code maxLocals ret :: tables_1) room_1) (lw_P b xs) (fun _ _ _ _ _ => True) lw_Q := by
  refine MetFree.of_bodyS (code := code) (maxLocals := maxLocals) (ret := ret) (by decide) ?_ ?_
  · intro args s m h hn
    obtain ⟨meth, c, h1, h2, h3, h4, h5, h6, -, -⟩ := Cond.code_spec hn (atoms_spec (ws := Jvm.Cond.code x code maxLocals ret :: tables_1) h _ List.mem_cons_self)
    exact ⟨meth, c, h1, h2, h3, h4, h5, h6⟩
  · intro p e s m args below meth c s₁ B hml0 hP _
    obtain ⟨rfl, hx, hbd, hgv⟩ := hP
    obtain ⟨scr, harrAt, hlist, hof, hsmall⟩ := hx
    obtain ⟨hcb, hkn, -, -⟩ := State.arrayAt?_spec harrAt
    have hown : s.vm.findClass R_law = some m.cls := findClass_of_methodNamed B.named
    have hts0 : ∀ c ∈ (Jvm.Cond.code x code maxLocals ret :: tables_1), c.before #[Value.ref b] s = true := atoms_spec (ws := Jvm.Cond.code x code maxLocals ret :: tables_1) B.pre
    have hts : ∀ w ∈ lw_tbl, w.before #[Value.ref b] s = true := k2_hts_sels lw_privs (fun w hw => hts0 w (List.mem_cons_of_mem _ hw)) lw_privs_ok
    have hml : c.maxLocals = 7 := B.maxLocals_eq (hts0 _ List.mem_cons_self)
    have X₀ : Stand p l e room_1 s m #[Value.ref b] below meth c s₁ [] 0 0 := Stand.of_body B
    have hh0 : s₁.heap = s.heap := by rw [B.state]; rfl
    have hsz : scr.slots.size = xs.length := by rw [← Array.length_toList, hlist, List.length_map]
    have hval : ∀ j : Nat, j < xs.length → scr.slots[j]? = some (.int (xs.getD j 0)) := fun j hj => by
      rw [← Array.getElem?_toList, hlist]
      simp [hj]
    have hbl : b < s.heap.size := (Array.getElem?_eq_some_iff.mp hcb).1
    have hX : va_X b xs.length (fun j => xs.getD j 0) s s.heap := ⟨scr, hcb, hof, hkn, hsz, hval⟩
    have K : W p l e room_1 s m #[Value.ref b] below meth c s₁.heap [] 0 0 (lw_Z below #[Value.ref b] s) (entryFrame m ([Value.ref b] : List Value).toArray 7) := by
      rw [hh0]
      exact whole_start l hl hbd (name_of_methodNamed B.named B.method).1 ⟨B.exec, B.bytes, B.returns, hml, hown, hts, hX, hbl, B.notSynchronized, hgv⟩
    obtain ⟨t, a1, o, b1, b2, b3⟩ := K s₁ rfl X₀
    exact ⟨t, o, a1, b1, b2, b3⟩
theorem lw_pre_spec {args : Array Value} {s : State} (h : (Jvm.Cond.and given_1 narrow_1).before args s = true) (hr : rest_1_c.before args s = true) : ∃ (b : Addr) (xs : List Int32), lw_P b xs args s := by
  have hs := flat_of_before _ h
  have hq := flat_of_before _ hr
  have hc : (Cond.count 1).before args s = true := hs _ (by decide +kernel)
  have harr : (Cond.arrayOf (.arg 0) .int).before args s = true := hs _ (by decide +kernel)
  have hle : (Cond.le (.length (.arg 0)) (.int 6)).before args s = true := hs _ (by decide +kernel)
  have hlen : (Cond.isInt (.length (.arg 0))).before args s = true := hq _ (by decide +kernel)
  have hall : (Cond.all (.arg 0) (.isInt (.elem (.arg 0) (.index 0)))).before args s = true := hq _ (by decide +kernel)
  obtain ⟨b, xs, hb, hx⟩ := State.ints_of_pre rfl harr hlen hall
  have hsm : xs.length < 2 ^ 31 := hx.choose_spec.2.2.2
  have hev : (Term.length (.arg 0)).eval args s none [] s = some (.int xs.length.toInt32) := hx.length_eval hb
  have hv := Cond.le_ints hev (show (Term.int 6).eval args s none [] s = some (.int 6) from rfl)
  have hd : xs.length.toInt32 ≤ 6 := by
    simpa [Cond.before, Cond.holds, hv] using hle
  have hN : xs.length ≤ 6 := (Int32.ofNat_le_ofNat hsm (by decide)).mp (show Int32.ofNat xs.length ≤ Int32.ofNat 6 from hd)
  exact ⟨b, xs, Cond.one_arg hc (show args[0]? = some (.ref b) from hb), hx, hN, h⟩
theorem lw_comes (l : Launch) (hl : l.stackTraces = false) : Comes l x (Jvm.Cond.code x code maxLocals ret :: tables_1) room_1 (fun tb e args s => Calls_1 tb e args s ∧ rest_1 tb e args s ∧ Pre_1 tb e args s)
    (fun _ _ args s o t => lw_Q args s o t) := by
  intro p e ha hc hk s m args below hf hfit hheap happ hpre
  obtain ⟨b, xs, hP⟩ := lw_pre_spec hpre.2.2 hpre.2.1
  obtain ⟨k, o, h1, h2, h3, hQ⟩ := lw_walk l hl b xs p e ha hc hk s m args below hf ((Spec.applies_iff_loose hf).mp happ).1 hP trivial
  exact ⟨k, o, h1, h2, h3, hQ⟩
theorem lw_frame {s t : State} {o : Outcome} {args : Array Value} (h : Framed s o t [] 600002 7302232) :
    Framed s o t (fieldLocs frame_1_writes args s ++ arrayLocs frame_1_arrays args s ++ staticLocs frame_1_statics s) 600002 7302232 := h
theorem lw_limb (L : Cond) (hL : ∀ (args : Array Value) (s t : State), L.after args s (.returned (some (.int 1))) t = true) :
    ArmFor flags0 classFile x code maxLocals ret World_1 tables_1 room_1 Calls_1 rest_1 Pre_1
      (fun tb e a s o t => postC L tb e a s o t ∧ Framed s o t (fieldLocs frame_1_writes a s ++ arrayLocs frame_1_arrays a s ++ staticLocs frame_1_statics s) 600002 7302232) := by
  intro l hfl _ _ p e ha hc hk s m args below hf hfit hheap happ hpre
  obtain ⟨k, o, h1, h2, h3, rfl, hF⟩ := lw_comes l (by unfold Launch.stackTraces; rw [hfl]; decide +kernel) p e ha hc hk s m args below hf hfit hheap happ hpre
  exact ⟨k, _, h1, h2, h3, hL args s _, lw_frame hF⟩
theorem i_vc : Claimed_1_1 ∧ Claimed_1_2 := ⟨lw_limb limb_1_1 (fun args s t => by simp [limb_1_1, Cond.after, Cond.holds, Cond.value]), lw_limb limb_1_2 (fun args s t => Cond.after_iff.mpr (by
  first | (rw [show limb_1_2 = Cond.eq .result (.int 1) from rfl, Cond.eq_ints (x := 1) (y := 1) rfl rfl]; simp; done) | (simp [limb_1_2, Cond.value, Term.eval]; done)))⟩
end
