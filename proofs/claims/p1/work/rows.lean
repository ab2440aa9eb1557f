section
-- ===== PART A: goes FIRST, ahead of the names: the tables' words, and 'selects' of the private methods out of them =====
/-- a private method of a class that the tables say can be made, by its rows of tables_1 -/
def lw_okq (q : MethodName × Nat) : Prop := (q.1.cls ≠ "java/lang/invoke/MethodHandle" ∧ q.1.cls ≠ "java/lang/invoke/VarHandle") ∧ Cond.instantiable q.1.cls q.2 ∈ tables_1 ∧ Cond.privateMethod q.1 ∈ tables_1 ∧ Cond.instanceMethod q.1 ∈ tables_1
theorem lw_p0 : lw_okq (⟨"SagGates", "putOnTape", "(I)V"⟩, 16) := ⟨⟨by decide +kernel, by decide +kernel⟩, List.mem_of_getElem? (i := 26) (by decide +kernel), List.mem_of_getElem? (i := 647) (by decide +kernel), List.mem_of_getElem? (i := 648) (by decide +kernel)⟩
theorem lw_p1 : lw_okq (⟨"SagGates$Tokens", "readLetters", "()V"⟩, 7) := ⟨⟨by decide +kernel, by decide +kernel⟩, List.mem_of_getElem? (i := 253) (by decide +kernel), List.mem_of_getElem? (i := 674) (by decide +kernel), List.mem_of_getElem? (i := 675) (by decide +kernel)⟩
theorem lw_p2 : lw_okq (⟨"SagGates$Tokens", "readDigits", "()V"⟩, 7) := ⟨⟨by decide +kernel, by decide +kernel⟩, List.mem_of_getElem? (i := 253) (by decide +kernel), List.mem_of_getElem? (i := 678) (by decide +kernel), List.mem_of_getElem? (i := 679) (by decide +kernel)⟩
theorem lw_p3 : lw_okq (⟨"SagGates$Tokens", "readSign", "(I)V"⟩, 7) := ⟨⟨by decide +kernel, by decide +kernel⟩, List.mem_of_getElem? (i := 253) (by decide +kernel), List.mem_of_getElem? (i := 683) (by decide +kernel), List.mem_of_getElem? (i := 684) (by decide +kernel)⟩
theorem lw_p4 : lw_okq (⟨"SagGates$Tokens", "takes", "(I)Z"⟩, 7) := ⟨⟨by decide +kernel, by decide +kernel⟩, List.mem_of_getElem? (i := 253) (by decide +kernel), List.mem_of_getElem? (i := 687) (by decide +kernel), List.mem_of_getElem? (i := 688) (by decide +kernel)⟩
theorem lw_p5 : lw_okq (⟨"SagGates$Reader", "readGround", "()V"⟩, 6) := ⟨⟨by decide +kernel, by decide +kernel⟩, List.mem_of_getElem? (i := 247) (by decide +kernel), List.mem_of_getElem? (i := 691) (by decide +kernel), List.mem_of_getElem? (i := 692) (by decide +kernel)⟩
theorem lw_p6 : lw_okq (⟨"SagGates$Reader", "fail", "(I)I"⟩, 6) := ⟨⟨by decide +kernel, by decide +kernel⟩, List.mem_of_getElem? (i := 247) (by decide +kernel), List.mem_of_getElem? (i := 695) (by decide +kernel), List.mem_of_getElem? (i := 696) (by decide +kernel)⟩
theorem lw_p7 : lw_okq (⟨"SagGates$Reader", "readNumber", "(II)I"⟩, 6) := ⟨⟨by decide +kernel, by decide +kernel⟩, List.mem_of_getElem? (i := 247) (by decide +kernel), List.mem_of_getElem? (i := 700) (by decide +kernel), List.mem_of_getElem? (i := 701) (by decide +kernel)⟩
theorem lw_p8 : lw_okq (⟨"SagGates$Reader", "readLaw", "()V"⟩, 6) := ⟨⟨by decide +kernel, by decide +kernel⟩, List.mem_of_getElem? (i := 247) (by decide +kernel), List.mem_of_getElem? (i := 704) (by decide +kernel), List.mem_of_getElem? (i := 705) (by decide +kernel)⟩
theorem lw_p9 : lw_okq (⟨"SagGates$Formula", "signOf", "()I"⟩, 8) := ⟨⟨by decide +kernel, by decide +kernel⟩, List.mem_of_getElem? (i := 338) (by decide +kernel), List.mem_of_getElem? (i := 720) (by decide +kernel), List.mem_of_getElem? (i := 721) (by decide +kernel)⟩
theorem lw_p10 : lw_okq (⟨"SagGates$Formula", "release", "(I)V"⟩, 8) := ⟨⟨by decide +kernel, by decide +kernel⟩, List.mem_of_getElem? (i := 338) (by decide +kernel), List.mem_of_getElem? (i := 728) (by decide +kernel), List.mem_of_getElem? (i := 729) (by decide +kernel)⟩
theorem lw_p11 : lw_okq (⟨"SagGates$Formula", "latestHeld", "()I"⟩, 8) := ⟨⟨by decide +kernel, by decide +kernel⟩, List.mem_of_getElem? (i := 338) (by decide +kernel), List.mem_of_getElem? (i := 732) (by decide +kernel), List.mem_of_getElem? (i := 733) (by decide +kernel)⟩
theorem lw_p12 : lw_okq (⟨"SagGates$Formula", "readValue", "()I"⟩, 8) := ⟨⟨by decide +kernel, by decide +kernel⟩, List.mem_of_getElem? (i := 338) (by decide +kernel), List.mem_of_getElem? (i := 743) (by decide +kernel), List.mem_of_getElem? (i := 744) (by decide +kernel)⟩
theorem lw_p13 : lw_okq (⟨"SagGates$Formula", "openParen", "()I"⟩, 8) := ⟨⟨by decide +kernel, by decide +kernel⟩, List.mem_of_getElem? (i := 338) (by decide +kernel), List.mem_of_getElem? (i := 747) (by decide +kernel), List.mem_of_getElem? (i := 748) (by decide +kernel)⟩
theorem lw_p14 : lw_okq (⟨"SagGates$Formula", "hold", "(I)V"⟩, 8) := ⟨⟨by decide +kernel, by decide +kernel⟩, List.mem_of_getElem? (i := 338) (by decide +kernel), List.mem_of_getElem? (i := 751) (by decide +kernel), List.mem_of_getElem? (i := 752) (by decide +kernel)⟩
theorem lw_p15 : lw_okq (⟨"SagGates$Formula", "holdKnot", "(I)I"⟩, 8) := ⟨⟨by decide +kernel, by decide +kernel⟩, List.mem_of_getElem? (i := 338) (by decide +kernel), List.mem_of_getElem? (i := 755) (by decide +kernel), List.mem_of_getElem? (i := 756) (by decide +kernel)⟩
def lw_privs_1 : List (MethodName × Nat) := [(⟨"SagGates", "putOnTape", "(I)V"⟩, 16), (⟨"SagGates$Tokens", "readLetters", "()V"⟩, 7), (⟨"SagGates$Tokens", "readDigits", "()V"⟩, 7), (⟨"SagGates$Tokens", "readSign", "(I)V"⟩, 7), (⟨"SagGates$Tokens", "takes", "(I)Z"⟩, 7), (⟨"SagGates$Reader", "readGround", "()V"⟩, 6), (⟨"SagGates$Reader", "fail", "(I)I"⟩, 6), (⟨"SagGates$Reader", "readNumber", "(II)I"⟩, 6), (⟨"SagGates$Reader", "readLaw", "()V"⟩, 6), (⟨"SagGates$Formula", "signOf", "()I"⟩, 8), (⟨"SagGates$Formula", "release", "(I)V"⟩, 8), (⟨"SagGates$Formula", "latestHeld", "()I"⟩, 8), (⟨"SagGates$Formula", "readValue", "()I"⟩, 8), (⟨"SagGates$Formula", "openParen", "()I"⟩, 8), (⟨"SagGates$Formula", "hold", "(I)V"⟩, 8), (⟨"SagGates$Formula", "holdKnot", "(I)I"⟩, 8)]
theorem lw_r1 : ∀ q ∈ lw_privs_1, lw_okq q := List.forall_mem_cons.mpr ⟨lw_p0, List.forall_mem_cons.mpr ⟨lw_p1, List.forall_mem_cons.mpr ⟨lw_p2, List.forall_mem_cons.mpr ⟨lw_p3, List.forall_mem_cons.mpr ⟨lw_p4, List.forall_mem_cons.mpr ⟨lw_p5, List.forall_mem_cons.mpr ⟨lw_p6, List.forall_mem_cons.mpr ⟨lw_p7, List.forall_mem_cons.mpr ⟨lw_p8, List.forall_mem_cons.mpr ⟨lw_p9, List.forall_mem_cons.mpr ⟨lw_p10, List.forall_mem_cons.mpr ⟨lw_p11, List.forall_mem_cons.mpr ⟨lw_p12, List.forall_mem_cons.mpr ⟨lw_p13, List.forall_mem_cons.mpr ⟨lw_p14, List.forall_mem_cons.mpr ⟨lw_p15, fun _ h => absurd h List.not_mem_nil⟩⟩⟩⟩⟩⟩⟩⟩⟩⟩⟩⟩⟩⟩⟩⟩
theorem lw_p16 : lw_okq (⟨"SagGates$Formula", "valueKnot", "()I"⟩, 8) := ⟨⟨by decide +kernel, by decide +kernel⟩, List.mem_of_getElem? (i := 338) (by decide +kernel), List.mem_of_getElem? (i := 759) (by decide +kernel), List.mem_of_getElem? (i := 760) (by decide +kernel)⟩
theorem lw_p17 : lw_okq (⟨"SagGates$Formula", "readJoint", "()I"⟩, 8) := ⟨⟨by decide +kernel, by decide +kernel⟩, List.mem_of_getElem? (i := 338) (by decide +kernel), List.mem_of_getElem? (i := 766) (by decide +kernel), List.mem_of_getElem? (i := 767) (by decide +kernel)⟩
theorem lw_p18 : lw_okq (⟨"SagGates$Reader", "readGate", "()V"⟩, 6) := ⟨⟨by decide +kernel, by decide +kernel⟩, List.mem_of_getElem? (i := 247) (by decide +kernel), List.mem_of_getElem? (i := 772) (by decide +kernel), List.mem_of_getElem? (i := 773) (by decide +kernel)⟩
theorem lw_p19 : lw_okq (⟨"SagGates$Reader", "readNewName", "([II)I"⟩, 6) := ⟨⟨by decide +kernel, by decide +kernel⟩, List.mem_of_getElem? (i := 247) (by decide +kernel), List.mem_of_getElem? (i := 776) (by decide +kernel), List.mem_of_getElem? (i := 777) (by decide +kernel)⟩
theorem lw_p20 : lw_okq (⟨"SagGates$Reader", "readPart", "(LSagGates$Told;)V"⟩, 6) := ⟨⟨by decide +kernel, by decide +kernel⟩, List.mem_of_getElem? (i := 247) (by decide +kernel), List.mem_of_getElem? (i := 784) (by decide +kernel), List.mem_of_getElem? (i := 785) (by decide +kernel)⟩
theorem lw_p21 : lw_okq (⟨"SagGates$Reader", "readBrace", "(LSagGates$Told;)V"⟩, 6) := ⟨⟨by decide +kernel, by decide +kernel⟩, List.mem_of_getElem? (i := 247) (by decide +kernel), List.mem_of_getElem? (i := 788) (by decide +kernel), List.mem_of_getElem? (i := 789) (by decide +kernel)⟩
theorem lw_p22 : lw_okq (⟨"SagGates$Reader", "readHas", "(LSagGates$Told;)V"⟩, 6) := ⟨⟨by decide +kernel, by decide +kernel⟩, List.mem_of_getElem? (i := 247) (by decide +kernel), List.mem_of_getElem? (i := 792) (by decide +kernel), List.mem_of_getElem? (i := 793) (by decide +kernel)⟩
theorem lw_p23 : lw_okq (⟨"SagGates$Reader", "readWork", "()V"⟩, 6) := ⟨⟨by decide +kernel, by decide +kernel⟩, List.mem_of_getElem? (i := 247) (by decide +kernel), List.mem_of_getElem? (i := 796) (by decide +kernel), List.mem_of_getElem? (i := 797) (by decide +kernel)⟩
theorem lw_p24 : lw_okq (⟨"SagGates$Reader", "readCause", "()V"⟩, 6) := ⟨⟨by decide +kernel, by decide +kernel⟩, List.mem_of_getElem? (i := 247) (by decide +kernel), List.mem_of_getElem? (i := 806) (by decide +kernel), List.mem_of_getElem? (i := 807) (by decide +kernel)⟩
theorem lw_p25 : lw_okq (⟨"SagGates$Reader", "readSemicolon", "()V"⟩, 6) := ⟨⟨by decide +kernel, by decide +kernel⟩, List.mem_of_getElem? (i := 247) (by decide +kernel), List.mem_of_getElem? (i := 810) (by decide +kernel), List.mem_of_getElem? (i := 811) (by decide +kernel)⟩
theorem lw_p26 : lw_okq (⟨"SagGates", "takeSpare", "()V"⟩, 16) := ⟨⟨by decide +kernel, by decide +kernel⟩, List.mem_of_getElem? (i := 26) (by decide +kernel), List.mem_of_getElem? (i := 814) (by decide +kernel), List.mem_of_getElem? (i := 815) (by decide +kernel)⟩
theorem lw_p27 : lw_okq (⟨"SagGates$Laws", "put", "(IJ)V"⟩, 5) := ⟨⟨by decide +kernel, by decide +kernel⟩, List.mem_of_getElem? (i := 391) (by decide +kernel), List.mem_of_getElem? (i := 893) (by decide +kernel), List.mem_of_getElem? (i := 894) (by decide +kernel)⟩
theorem lw_p28 : lw_okq (⟨"SagGates$Laws", "refresh", "(LSagGates$Plan;I)V"⟩, 5) := ⟨⟨by decide +kernel, by decide +kernel⟩, List.mem_of_getElem? (i := 391) (by decide +kernel), List.mem_of_getElem? (i := 910) (by decide +kernel), List.mem_of_getElem? (i := 911) (by decide +kernel)⟩
theorem lw_p29 : lw_okq (⟨"SagGates$Laws", "valueOf", "(I)J"⟩, 5) := ⟨⟨by decide +kernel, by decide +kernel⟩, List.mem_of_getElem? (i := 391) (by decide +kernel), List.mem_of_getElem? (i := 919) (by decide +kernel), List.mem_of_getElem? (i := 920) (by decide +kernel)⟩
theorem lw_p30 : lw_okq (⟨"SagGates$Laws", "join", "(IJJ)J"⟩, 5) := ⟨⟨by decide +kernel, by decide +kernel⟩, List.mem_of_getElem? (i := 391) (by decide +kernel), List.mem_of_getElem? (i := 923) (by decide +kernel), List.mem_of_getElem? (i := 924) (by decide +kernel)⟩
theorem lw_p31 : lw_okq (⟨"SagGates$Laws", "bounded", "(J)J"⟩, 5) := ⟨⟨by decide +kernel, by decide +kernel⟩, List.mem_of_getElem? (i := 391) (by decide +kernel), List.mem_of_getElem? (i := 927) (by decide +kernel), List.mem_of_getElem? (i := 928) (by decide +kernel)⟩
def lw_privs_2 : List (MethodName × Nat) := [(⟨"SagGates$Formula", "valueKnot", "()I"⟩, 8), (⟨"SagGates$Formula", "readJoint", "()I"⟩, 8), (⟨"SagGates$Reader", "readGate", "()V"⟩, 6), (⟨"SagGates$Reader", "readNewName", "([II)I"⟩, 6), (⟨"SagGates$Reader", "readPart", "(LSagGates$Told;)V"⟩, 6), (⟨"SagGates$Reader", "readBrace", "(LSagGates$Told;)V"⟩, 6), (⟨"SagGates$Reader", "readHas", "(LSagGates$Told;)V"⟩, 6), (⟨"SagGates$Reader", "readWork", "()V"⟩, 6), (⟨"SagGates$Reader", "readCause", "()V"⟩, 6), (⟨"SagGates$Reader", "readSemicolon", "()V"⟩, 6), (⟨"SagGates", "takeSpare", "()V"⟩, 16), (⟨"SagGates$Laws", "put", "(IJ)V"⟩, 5), (⟨"SagGates$Laws", "refresh", "(LSagGates$Plan;I)V"⟩, 5), (⟨"SagGates$Laws", "valueOf", "(I)J"⟩, 5), (⟨"SagGates$Laws", "join", "(IJJ)J"⟩, 5), (⟨"SagGates$Laws", "bounded", "(J)J"⟩, 5)]
theorem lw_r2 : ∀ q ∈ lw_privs_2, lw_okq q := List.forall_mem_cons.mpr ⟨lw_p16, List.forall_mem_cons.mpr ⟨lw_p17, List.forall_mem_cons.mpr ⟨lw_p18, List.forall_mem_cons.mpr ⟨lw_p19, List.forall_mem_cons.mpr ⟨lw_p20, List.forall_mem_cons.mpr ⟨lw_p21, List.forall_mem_cons.mpr ⟨lw_p22, List.forall_mem_cons.mpr ⟨lw_p23, List.forall_mem_cons.mpr ⟨lw_p24, List.forall_mem_cons.mpr ⟨lw_p25, List.forall_mem_cons.mpr ⟨lw_p26, List.forall_mem_cons.mpr ⟨lw_p27, List.forall_mem_cons.mpr ⟨lw_p28, List.forall_mem_cons.mpr ⟨lw_p29, List.forall_mem_cons.mpr ⟨lw_p30, List.forall_mem_cons.mpr ⟨lw_p31, fun _ h => absurd h List.not_mem_nil⟩⟩⟩⟩⟩⟩⟩⟩⟩⟩⟩⟩⟩⟩⟩⟩
theorem lw_p32 : lw_okq (⟨"SagGates$Laws", "times", "(JJ)J"⟩, 5) := ⟨⟨by decide +kernel, by decide +kernel⟩, List.mem_of_getElem? (i := 391) (by decide +kernel), List.mem_of_getElem? (i := 933) (by decide +kernel), List.mem_of_getElem? (i := 934) (by decide +kernel)⟩
theorem lw_p33 : lw_okq (⟨"SagGates$Laws", "by", "(JJ)J"⟩, 5) := ⟨⟨by decide +kernel, by decide +kernel⟩, List.mem_of_getElem? (i := 391) (by decide +kernel), List.mem_of_getElem? (i := 940) (by decide +kernel), List.mem_of_getElem? (i := 941) (by decide +kernel)⟩
theorem lw_p34 : lw_okq (⟨"SagGates", "isGate", "(I)Z"⟩, 16) := ⟨⟨by decide +kernel, by decide +kernel⟩, List.mem_of_getElem? (i := 26) (by decide +kernel), List.mem_of_getElem? (i := 961) (by decide +kernel), List.mem_of_getElem? (i := 962) (by decide +kernel)⟩
theorem lw_p35 : lw_okq (⟨"SagGates$Undone", "dropEarliest", "()V"⟩, 3) := ⟨⟨by decide +kernel, by decide +kernel⟩, List.mem_of_getElem? (i := 419) (by decide +kernel), List.mem_of_getElem? (i := 991) (by decide +kernel), List.mem_of_getElem? (i := 992) (by decide +kernel)⟩
theorem lw_p36 : lw_okq (⟨"SagGates", "holds", "(IIII)Z"⟩, 16) := ⟨⟨by decide +kernel, by decide +kernel⟩, List.mem_of_getElem? (i := 26) (by decide +kernel), List.mem_of_getElem? (i := 1034) (by decide +kernel), List.mem_of_getElem? (i := 1035) (by decide +kernel)⟩
theorem lw_p37 : lw_okq (⟨"SagGates", "dropWithBrace", "(III)I"⟩, 16) := ⟨⟨by decide +kernel, by decide +kernel⟩, List.mem_of_getElem? (i := 26) (by decide +kernel), List.mem_of_getElem? (i := 1042) (by decide +kernel), List.mem_of_getElem? (i := 1043) (by decide +kernel)⟩
theorem lw_p38 : lw_okq (⟨"SagGates$Notes", "findStruck", "()V"⟩, 11) := ⟨⟨by decide +kernel, by decide +kernel⟩, List.mem_of_getElem? (i := 511) (by decide +kernel), List.mem_of_getElem? (i := 1101) (by decide +kernel), List.mem_of_getElem? (i := 1102) (by decide +kernel)⟩
theorem lw_p39 : lw_okq (⟨"SagGates$Trials", "record", "(I)V"⟩, 3) := ⟨⟨by decide +kernel, by decide +kernel⟩, List.mem_of_getElem? (i := 554) (by decide +kernel), List.mem_of_getElem? (i := 1114) (by decide +kernel), List.mem_of_getElem? (i := 1115) (by decide +kernel)⟩
theorem lw_p40 : lw_okq (⟨"SagGates$Trials", "recorded", "(II)I"⟩, 3) := ⟨⟨by decide +kernel, by decide +kernel⟩, List.mem_of_getElem? (i := 554) (by decide +kernel), List.mem_of_getElem? (i := 1159) (by decide +kernel), List.mem_of_getElem? (i := 1160) (by decide +kernel)⟩
theorem lw_p41 : lw_okq (⟨"SagGates", "unlatchedWeeks", "(III)I"⟩, 16) := ⟨⟨by decide +kernel, by decide +kernel⟩, List.mem_of_getElem? (i := 26) (by decide +kernel), List.mem_of_getElem? (i := 1217) (by decide +kernel), List.mem_of_getElem? (i := 1218) (by decide +kernel)⟩
theorem lw_p42 : lw_okq (⟨"SagGates$Turns", "sumOf", "(II)I"⟩, 4) := ⟨⟨by decide +kernel, by decide +kernel⟩, List.mem_of_getElem? (i := 574) (by decide +kernel), List.mem_of_getElem? (i := 1229) (by decide +kernel), List.mem_of_getElem? (i := 1230) (by decide +kernel)⟩
theorem lw_p43 : lw_okq (⟨"SagGates", "costOfAllDone", "()I"⟩, 16) := ⟨⟨by decide +kernel, by decide +kernel⟩, List.mem_of_getElem? (i := 26) (by decide +kernel), List.mem_of_getElem? (i := 1258) (by decide +kernel), List.mem_of_getElem? (i := 1259) (by decide +kernel)⟩
theorem lw_p44 : lw_okq (⟨"java/lang/Throwable", "fillInStackTrace", "(I)Ljava/lang/Throwable;"⟩, 6) := ⟨⟨by decide +kernel, by decide +kernel⟩, List.mem_of_getElem? (i := 1308) (by decide +kernel), List.mem_of_getElem? (i := 1306) (by decide +kernel), List.mem_of_getElem? (i := 1307) (by decide +kernel)⟩
theorem lw_p45 : lw_okq (⟨"SagGatesModel", "plain", "()V"⟩, 69) := ⟨⟨by decide +kernel, by decide +kernel⟩, List.mem_of_getElem? (i := 1354) (by decide +kernel), List.mem_of_getElem? (i := 1360) (by decide +kernel), List.mem_of_getElem? (i := 1361) (by decide +kernel)⟩
theorem lw_p46 : lw_okq (⟨"SagGatesModel", "keepText", "()V"⟩, 69) := ⟨⟨by decide +kernel, by decide +kernel⟩, List.mem_of_getElem? (i := 1354) (by decide +kernel), List.mem_of_getElem? (i := 1364) (by decide +kernel), List.mem_of_getElem? (i := 1365) (by decide +kernel)⟩
theorem lw_p47 : lw_okq (⟨"SagGatesModel", "begins", "(I)V"⟩, 69) := ⟨⟨by decide +kernel, by decide +kernel⟩, List.mem_of_getElem? (i := 1354) (by decide +kernel), List.mem_of_getElem? (i := 1371) (by decide +kernel), List.mem_of_getElem? (i := 1372) (by decide +kernel)⟩
def lw_privs_3 : List (MethodName × Nat) := [(⟨"SagGates$Laws", "times", "(JJ)J"⟩, 5), (⟨"SagGates$Laws", "by", "(JJ)J"⟩, 5), (⟨"SagGates", "isGate", "(I)Z"⟩, 16), (⟨"SagGates$Undone", "dropEarliest", "()V"⟩, 3), (⟨"SagGates", "holds", "(IIII)Z"⟩, 16), (⟨"SagGates", "dropWithBrace", "(III)I"⟩, 16), (⟨"SagGates$Notes", "findStruck", "()V"⟩, 11), (⟨"SagGates$Trials", "record", "(I)V"⟩, 3), (⟨"SagGates$Trials", "recorded", "(II)I"⟩, 3), (⟨"SagGates", "unlatchedWeeks", "(III)I"⟩, 16), (⟨"SagGates$Turns", "sumOf", "(II)I"⟩, 4), (⟨"SagGates", "costOfAllDone", "()I"⟩, 16), (⟨"java/lang/Throwable", "fillInStackTrace", "(I)Ljava/lang/Throwable;"⟩, 6), (⟨"SagGatesModel", "plain", "()V"⟩, 69), (⟨"SagGatesModel", "keepText", "()V"⟩, 69), (⟨"SagGatesModel", "begins", "(I)V"⟩, 69)]
theorem lw_r3 : ∀ q ∈ lw_privs_3, lw_okq q := List.forall_mem_cons.mpr ⟨lw_p32, List.forall_mem_cons.mpr ⟨lw_p33, List.forall_mem_cons.mpr ⟨lw_p34, List.forall_mem_cons.mpr ⟨lw_p35, List.forall_mem_cons.mpr ⟨lw_p36, List.forall_mem_cons.mpr ⟨lw_p37, List.forall_mem_cons.mpr ⟨lw_p38, List.forall_mem_cons.mpr ⟨lw_p39, List.forall_mem_cons.mpr ⟨lw_p40, List.forall_mem_cons.mpr ⟨lw_p41, List.forall_mem_cons.mpr ⟨lw_p42, List.forall_mem_cons.mpr ⟨lw_p43, List.forall_mem_cons.mpr ⟨lw_p44, List.forall_mem_cons.mpr ⟨lw_p45, List.forall_mem_cons.mpr ⟨lw_p46, List.forall_mem_cons.mpr ⟨lw_p47, fun _ h => absurd h List.not_mem_nil⟩⟩⟩⟩⟩⟩⟩⟩⟩⟩⟩⟩⟩⟩⟩⟩
theorem lw_p48 : lw_okq (⟨"SagGatesModel", "token", "()V"⟩, 69) := ⟨⟨by decide +kernel, by decide +kernel⟩, List.mem_of_getElem? (i := 1354) (by decide +kernel), List.mem_of_getElem? (i := 1598) (by decide +kernel), List.mem_of_getElem? (i := 1599) (by decide +kernel)⟩
theorem lw_p49 : lw_okq (⟨"SagGatesModel", "isSmall", "(I)Z"⟩, 69) := ⟨⟨by decide +kernel, by decide +kernel⟩, List.mem_of_getElem? (i := 1354) (by decide +kernel), List.mem_of_getElem? (i := 1602) (by decide +kernel), List.mem_of_getElem? (i := 1603) (by decide +kernel)⟩
theorem lw_p50 : lw_okq (⟨"SagGatesModel", "wordAt", "(II)I"⟩, 69) := ⟨⟨by decide +kernel, by decide +kernel⟩, List.mem_of_getElem? (i := 1354) (by decide +kernel), List.mem_of_getElem? (i := 1606) (by decide +kernel), List.mem_of_getElem? (i := 1607) (by decide +kernel)⟩
theorem lw_p51 : lw_okq (⟨"SagGatesModel", "packed", "(II)I"⟩, 69) := ⟨⟨by decide +kernel, by decide +kernel⟩, List.mem_of_getElem? (i := 1354) (by decide +kernel), List.mem_of_getElem? (i := 1610) (by decide +kernel), List.mem_of_getElem? (i := 1611) (by decide +kernel)⟩
theorem lw_p52 : lw_okq (⟨"SagGatesModel", "isDigit", "(I)Z"⟩, 69) := ⟨⟨by decide +kernel, by decide +kernel⟩, List.mem_of_getElem? (i := 1354) (by decide +kernel), List.mem_of_getElem? (i := 1614) (by decide +kernel), List.mem_of_getElem? (i := 1615) (by decide +kernel)⟩
theorem lw_p53 : lw_okq (⟨"SagGatesModel", "signToken", "()V"⟩, 69) := ⟨⟨by decide +kernel, by decide +kernel⟩, List.mem_of_getElem? (i := 1354) (by decide +kernel), List.mem_of_getElem? (i := 1618) (by decide +kernel), List.mem_of_getElem? (i := 1619) (by decide +kernel)⟩
theorem lw_p54 : lw_okq (⟨"SagGatesModel", "lineRead", "()Z"⟩, 69) := ⟨⟨by decide +kernel, by decide +kernel⟩, List.mem_of_getElem? (i := 1354) (by decide +kernel), List.mem_of_getElem? (i := 1622) (by decide +kernel), List.mem_of_getElem? (i := 1623) (by decide +kernel)⟩
theorem lw_p55 : lw_okq (⟨"SagGatesModel", "wrong", "(I)Z"⟩, 69) := ⟨⟨by decide +kernel, by decide +kernel⟩, List.mem_of_getElem? (i := 1354) (by decide +kernel), List.mem_of_getElem? (i := 1626) (by decide +kernel), List.mem_of_getElem? (i := 1627) (by decide +kernel)⟩
theorem lw_p56 : lw_okq (⟨"SagGatesModel", "groundLine", "()Z"⟩, 69) := ⟨⟨by decide +kernel, by decide +kernel⟩, List.mem_of_getElem? (i := 1354) (by decide +kernel), List.mem_of_getElem? (i := 1630) (by decide +kernel), List.mem_of_getElem? (i := 1631) (by decide +kernel)⟩
theorem lw_p57 : lw_okq (⟨"SagGatesModel", "numbers", "([IIIII)Z"⟩, 69) := ⟨⟨by decide +kernel, by decide +kernel⟩, List.mem_of_getElem? (i := 1354) (by decide +kernel), List.mem_of_getElem? (i := 1634) (by decide +kernel), List.mem_of_getElem? (i := 1635) (by decide +kernel)⟩
theorem lw_p58 : lw_okq (⟨"SagGatesModel", "number", "(II)Z"⟩, 69) := ⟨⟨by decide +kernel, by decide +kernel⟩, List.mem_of_getElem? (i := 1354) (by decide +kernel), List.mem_of_getElem? (i := 1638) (by decide +kernel), List.mem_of_getElem? (i := 1639) (by decide +kernel)⟩
theorem lw_p59 : lw_okq (⟨"SagGatesModel", "lawLine", "()Z"⟩, 69) := ⟨⟨by decide +kernel, by decide +kernel⟩, List.mem_of_getElem? (i := 1354) (by decide +kernel), List.mem_of_getElem? (i := 1645) (by decide +kernel), List.mem_of_getElem? (i := 1646) (by decide +kernel)⟩
theorem lw_p60 : lw_okq (⟨"SagGatesModel", "sumRead", "()Z"⟩, 69) := ⟨⟨by decide +kernel, by decide +kernel⟩, List.mem_of_getElem? (i := 1354) (by decide +kernel), List.mem_of_getElem? (i := 1649) (by decide +kernel), List.mem_of_getElem? (i := 1650) (by decide +kernel)⟩
theorem lw_p61 : lw_okq (⟨"SagGatesModel", "isSign", "(I)Z"⟩, 69) := ⟨⟨by decide +kernel, by decide +kernel⟩, List.mem_of_getElem? (i := 1354) (by decide +kernel), List.mem_of_getElem? (i := 1653) (by decide +kernel), List.mem_of_getElem? (i := 1654) (by decide +kernel)⟩
theorem lw_p62 : lw_okq (⟨"SagGatesModel", "leafRead", "()Z"⟩, 69) := ⟨⟨by decide +kernel, by decide +kernel⟩, List.mem_of_getElem? (i := 1354) (by decide +kernel), List.mem_of_getElem? (i := 1657) (by decide +kernel), List.mem_of_getElem? (i := 1658) (by decide +kernel)⟩
theorem lw_p63 : lw_okq (⟨"SagGatesModel", "waitsFor", "(I)V"⟩, 69) := ⟨⟨by decide +kernel, by decide +kernel⟩, List.mem_of_getElem? (i := 1354) (by decide +kernel), List.mem_of_getElem? (i := 1661) (by decide +kernel), List.mem_of_getElem? (i := 1662) (by decide +kernel)⟩
def lw_privs_4 : List (MethodName × Nat) := [(⟨"SagGatesModel", "token", "()V"⟩, 69), (⟨"SagGatesModel", "isSmall", "(I)Z"⟩, 69), (⟨"SagGatesModel", "wordAt", "(II)I"⟩, 69), (⟨"SagGatesModel", "packed", "(II)I"⟩, 69), (⟨"SagGatesModel", "isDigit", "(I)Z"⟩, 69), (⟨"SagGatesModel", "signToken", "()V"⟩, 69), (⟨"SagGatesModel", "lineRead", "()Z"⟩, 69), (⟨"SagGatesModel", "wrong", "(I)Z"⟩, 69), (⟨"SagGatesModel", "groundLine", "()Z"⟩, 69), (⟨"SagGatesModel", "numbers", "([IIIII)Z"⟩, 69), (⟨"SagGatesModel", "number", "(II)Z"⟩, 69), (⟨"SagGatesModel", "lawLine", "()Z"⟩, 69), (⟨"SagGatesModel", "sumRead", "()Z"⟩, 69), (⟨"SagGatesModel", "isSign", "(I)Z"⟩, 69), (⟨"SagGatesModel", "leafRead", "()Z"⟩, 69), (⟨"SagGatesModel", "waitsFor", "(I)V"⟩, 69)]
theorem lw_r4 : ∀ q ∈ lw_privs_4, lw_okq q := List.forall_mem_cons.mpr ⟨lw_p48, List.forall_mem_cons.mpr ⟨lw_p49, List.forall_mem_cons.mpr ⟨lw_p50, List.forall_mem_cons.mpr ⟨lw_p51, List.forall_mem_cons.mpr ⟨lw_p52, List.forall_mem_cons.mpr ⟨lw_p53, List.forall_mem_cons.mpr ⟨lw_p54, List.forall_mem_cons.mpr ⟨lw_p55, List.forall_mem_cons.mpr ⟨lw_p56, List.forall_mem_cons.mpr ⟨lw_p57, List.forall_mem_cons.mpr ⟨lw_p58, List.forall_mem_cons.mpr ⟨lw_p59, List.forall_mem_cons.mpr ⟨lw_p60, List.forall_mem_cons.mpr ⟨lw_p61, List.forall_mem_cons.mpr ⟨lw_p62, List.forall_mem_cons.mpr ⟨lw_p63, fun _ h => absurd h List.not_mem_nil⟩⟩⟩⟩⟩⟩⟩⟩⟩⟩⟩⟩⟩⟩⟩⟩
theorem lw_p64 : lw_okq (⟨"SagGatesModel", "isKey", "(I)Z"⟩, 69) := ⟨⟨by decide +kernel, by decide +kernel⟩, List.mem_of_getElem? (i := 1354) (by decide +kernel), List.mem_of_getElem? (i := 1665) (by decide +kernel), List.mem_of_getElem? (i := 1666) (by decide +kernel)⟩
theorem lw_p65 : lw_okq (⟨"SagGatesModel", "isCounted", "()Z"⟩, 69) := ⟨⟨by decide +kernel, by decide +kernel⟩, List.mem_of_getElem? (i := 1354) (by decide +kernel), List.mem_of_getElem? (i := 1669) (by decide +kernel), List.mem_of_getElem? (i := 1670) (by decide +kernel)⟩
theorem lw_p66 : lw_okq (⟨"SagGatesModel", "grown", "(III)V"⟩, 69) := ⟨⟨by decide +kernel, by decide +kernel⟩, List.mem_of_getElem? (i := 1354) (by decide +kernel), List.mem_of_getElem? (i := 1673) (by decide +kernel), List.mem_of_getElem? (i := 1674) (by decide +kernel)⟩
theorem lw_p67 : lw_okq (⟨"SagGatesModel", "signs", "()Z"⟩, 69) := ⟨⟨by decide +kernel, by decide +kernel⟩, List.mem_of_getElem? (i := 1354) (by decide +kernel), List.mem_of_getElem? (i := 1677) (by decide +kernel), List.mem_of_getElem? (i := 1678) (by decide +kernel)⟩
theorem lw_p68 : lw_okq (⟨"SagGatesModel", "bind", "(I)V"⟩, 69) := ⟨⟨by decide +kernel, by decide +kernel⟩, List.mem_of_getElem? (i := 1354) (by decide +kernel), List.mem_of_getElem? (i := 1681) (by decide +kernel), List.mem_of_getElem? (i := 1682) (by decide +kernel)⟩
theorem lw_p69 : lw_okq (⟨"SagGatesModel", "dropHeld", "()I"⟩, 69) := ⟨⟨by decide +kernel, by decide +kernel⟩, List.mem_of_getElem? (i := 1354) (by decide +kernel), List.mem_of_getElem? (i := 1688) (by decide +kernel), List.mem_of_getElem? (i := 1689) (by decide +kernel)⟩
theorem lw_p70 : lw_okq (⟨"SagGatesModel", "gateLine", "()Z"⟩, 69) := ⟨⟨by decide +kernel, by decide +kernel⟩, List.mem_of_getElem? (i := 1354) (by decide +kernel), List.mem_of_getElem? (i := 1692) (by decide +kernel), List.mem_of_getElem? (i := 1693) (by decide +kernel)⟩
theorem lw_p71 : lw_okq (⟨"SagGatesModel", "newName", "([III)Z"⟩, 69) := ⟨⟨by decide +kernel, by decide +kernel⟩, List.mem_of_getElem? (i := 1354) (by decide +kernel), List.mem_of_getElem? (i := 1696) (by decide +kernel), List.mem_of_getElem? (i := 1697) (by decide +kernel)⟩
theorem lw_p72 : lw_okq (⟨"SagGatesModel", "hasWord", "()I"⟩, 69) := ⟨⟨by decide +kernel, by decide +kernel⟩, List.mem_of_getElem? (i := 1354) (by decide +kernel), List.mem_of_getElem? (i := 1703) (by decide +kernel), List.mem_of_getElem? (i := 1704) (by decide +kernel)⟩
theorem lw_p73 : lw_okq (⟨"SagGatesModel", "hasRead", "(II)Z"⟩, 69) := ⟨⟨by decide +kernel, by decide +kernel⟩, List.mem_of_getElem? (i := 1354) (by decide +kernel), List.mem_of_getElem? (i := 1710) (by decide +kernel), List.mem_of_getElem? (i := 1711) (by decide +kernel)⟩
theorem lw_p74 : lw_okq (⟨"SagGatesModel", "hooksRead", "(I)Z"⟩, 69) := ⟨⟨by decide +kernel, by decide +kernel⟩, List.mem_of_getElem? (i := 1354) (by decide +kernel), List.mem_of_getElem? (i := 1714) (by decide +kernel), List.mem_of_getElem? (i := 1715) (by decide +kernel)⟩
theorem lw_p75 : lw_okq (⟨"SagGatesModel", "signed", "(I)Z"⟩, 69) := ⟨⟨by decide +kernel, by decide +kernel⟩, List.mem_of_getElem? (i := 1354) (by decide +kernel), List.mem_of_getElem? (i := 1718) (by decide +kernel), List.mem_of_getElem? (i := 1719) (by decide +kernel)⟩
theorem lw_p76 : lw_okq (⟨"SagGatesModel", "causeRead", "(I)Z"⟩, 69) := ⟨⟨by decide +kernel, by decide +kernel⟩, List.mem_of_getElem? (i := 1354) (by decide +kernel), List.mem_of_getElem? (i := 1722) (by decide +kernel), List.mem_of_getElem? (i := 1723) (by decide +kernel)⟩
theorem lw_p77 : lw_okq (⟨"SagGatesModel", "workLine", "()Z"⟩, 69) := ⟨⟨by decide +kernel, by decide +kernel⟩, List.mem_of_getElem? (i := 1354) (by decide +kernel), List.mem_of_getElem? (i := 1726) (by decide +kernel), List.mem_of_getElem? (i := 1727) (by decide +kernel)⟩
theorem lw_p78 : lw_okq (⟨"SagGatesModel", "workWord", "()I"⟩, 69) := ⟨⟨by decide +kernel, by decide +kernel⟩, List.mem_of_getElem? (i := 1354) (by decide +kernel), List.mem_of_getElem? (i := 1730) (by decide +kernel), List.mem_of_getElem? (i := 1731) (by decide +kernel)⟩
theorem lw_p79 : lw_okq (⟨"SagGatesModel", "causeLine", "()Z"⟩, 69) := ⟨⟨by decide +kernel, by decide +kernel⟩, List.mem_of_getElem? (i := 1354) (by decide +kernel), List.mem_of_getElem? (i := 1737) (by decide +kernel), List.mem_of_getElem? (i := 1738) (by decide +kernel)⟩
def lw_privs_5 : List (MethodName × Nat) := [(⟨"SagGatesModel", "isKey", "(I)Z"⟩, 69), (⟨"SagGatesModel", "isCounted", "()Z"⟩, 69), (⟨"SagGatesModel", "grown", "(III)V"⟩, 69), (⟨"SagGatesModel", "signs", "()Z"⟩, 69), (⟨"SagGatesModel", "bind", "(I)V"⟩, 69), (⟨"SagGatesModel", "dropHeld", "()I"⟩, 69), (⟨"SagGatesModel", "gateLine", "()Z"⟩, 69), (⟨"SagGatesModel", "newName", "([III)Z"⟩, 69), (⟨"SagGatesModel", "hasWord", "()I"⟩, 69), (⟨"SagGatesModel", "hasRead", "(II)Z"⟩, 69), (⟨"SagGatesModel", "hooksRead", "(I)Z"⟩, 69), (⟨"SagGatesModel", "signed", "(I)Z"⟩, 69), (⟨"SagGatesModel", "causeRead", "(I)Z"⟩, 69), (⟨"SagGatesModel", "workLine", "()Z"⟩, 69), (⟨"SagGatesModel", "workWord", "()I"⟩, 69), (⟨"SagGatesModel", "causeLine", "()Z"⟩, 69)]
theorem lw_r5 : ∀ q ∈ lw_privs_5, lw_okq q := List.forall_mem_cons.mpr ⟨lw_p64, List.forall_mem_cons.mpr ⟨lw_p65, List.forall_mem_cons.mpr ⟨lw_p66, List.forall_mem_cons.mpr ⟨lw_p67, List.forall_mem_cons.mpr ⟨lw_p68, List.forall_mem_cons.mpr ⟨lw_p69, List.forall_mem_cons.mpr ⟨lw_p70, List.forall_mem_cons.mpr ⟨lw_p71, List.forall_mem_cons.mpr ⟨lw_p72, List.forall_mem_cons.mpr ⟨lw_p73, List.forall_mem_cons.mpr ⟨lw_p74, List.forall_mem_cons.mpr ⟨lw_p75, List.forall_mem_cons.mpr ⟨lw_p76, List.forall_mem_cons.mpr ⟨lw_p77, List.forall_mem_cons.mpr ⟨lw_p78, List.forall_mem_cons.mpr ⟨lw_p79, fun _ h => absurd h List.not_mem_nil⟩⟩⟩⟩⟩⟩⟩⟩⟩⟩⟩⟩⟩⟩⟩⟩
theorem lw_p80 : lw_okq (⟨"SagGatesModel", "isGate", "(I)Z"⟩, 69) := ⟨⟨by decide +kernel, by decide +kernel⟩, List.mem_of_getElem? (i := 1354) (by decide +kernel), List.mem_of_getElem? (i := 1753) (by decide +kernel), List.mem_of_getElem? (i := 1754) (by decide +kernel)⟩
theorem lw_p81 : lw_okq (⟨"SagGatesModel", "fails", "(I)I"⟩, 69) := ⟨⟨by decide +kernel, by decide +kernel⟩, List.mem_of_getElem? (i := 1354) (by decide +kernel), List.mem_of_getElem? (i := 1757) (by decide +kernel), List.mem_of_getElem? (i := 1758) (by decide +kernel)⟩
theorem lw_p82 : lw_okq (⟨"SagGatesModel", "loads", "(I)V"⟩, 69) := ⟨⟨by decide +kernel, by decide +kernel⟩, List.mem_of_getElem? (i := 1354) (by decide +kernel), List.mem_of_getElem? (i := 1761) (by decide +kernel), List.mem_of_getElem? (i := 1762) (by decide +kernel)⟩
theorem lw_p83 : lw_okq (⟨"SagGatesModel", "spanOf", "(I)I"⟩, 69) := ⟨⟨by decide +kernel, by decide +kernel⟩, List.mem_of_getElem? (i := 1354) (by decide +kernel), List.mem_of_getElem? (i := 1765) (by decide +kernel), List.mem_of_getElem? (i := 1766) (by decide +kernel)⟩
theorem lw_p84 : lw_okq (⟨"SagGatesModel", "pullOf", "(I)I"⟩, 69) := ⟨⟨by decide +kernel, by decide +kernel⟩, List.mem_of_getElem? (i := 1354) (by decide +kernel), List.mem_of_getElem? (i := 1769) (by decide +kernel), List.mem_of_getElem? (i := 1770) (by decide +kernel)⟩
theorem lw_p85 : lw_okq (⟨"SagGatesModel", "firmOf", "(I)I"⟩, 69) := ⟨⟨by decide +kernel, by decide +kernel⟩, List.mem_of_getElem? (i := 1354) (by decide +kernel), List.mem_of_getElem? (i := 1781) (by decide +kernel), List.mem_of_getElem? (i := 1782) (by decide +kernel)⟩
theorem lw_p86 : lw_okq (⟨"SagGatesModel", "goesOn", "(II)V"⟩, 69) := ⟨⟨by decide +kernel, by decide +kernel⟩, List.mem_of_getElem? (i := 1354) (by decide +kernel), List.mem_of_getElem? (i := 1789) (by decide +kernel), List.mem_of_getElem? (i := 1790) (by decide +kernel)⟩
theorem lw_p87 : lw_okq (⟨"SagGatesModel", "goes", "(II)V"⟩, 69) := ⟨⟨by decide +kernel, by decide +kernel⟩, List.mem_of_getElem? (i := 1354) (by decide +kernel), List.mem_of_getElem? (i := 1793) (by decide +kernel), List.mem_of_getElem? (i := 1794) (by decide +kernel)⟩
theorem lw_p88 : lw_okq (⟨"SagGatesModel", "layNames", "(III)V"⟩, 69) := ⟨⟨by decide +kernel, by decide +kernel⟩, List.mem_of_getElem? (i := 1354) (by decide +kernel), List.mem_of_getElem? (i := 1797) (by decide +kernel), List.mem_of_getElem? (i := 1798) (by decide +kernel)⟩
theorem lw_p89 : lw_okq (⟨"SagGatesModel", "dropOf", "(I)I"⟩, 69) := ⟨⟨by decide +kernel, by decide +kernel⟩, List.mem_of_getElem? (i := 1354) (by decide +kernel), List.mem_of_getElem? (i := 1801) (by decide +kernel), List.mem_of_getElem? (i := 1802) (by decide +kernel)⟩
theorem lw_p90 : lw_okq (⟨"SagGatesModel", "partOf", "(II)I"⟩, 69) := ⟨⟨by decide +kernel, by decide +kernel⟩, List.mem_of_getElem? (i := 1354) (by decide +kernel), List.mem_of_getElem? (i := 1805) (by decide +kernel), List.mem_of_getElem? (i := 1806) (by decide +kernel)⟩
theorem lw_p91 : lw_okq (⟨"SagGatesModel", "lawOf", "(I)J"⟩, 69) := ⟨⟨by decide +kernel, by decide +kernel⟩, List.mem_of_getElem? (i := 1354) (by decide +kernel), List.mem_of_getElem? (i := 1809) (by decide +kernel), List.mem_of_getElem? (i := 1810) (by decide +kernel)⟩
theorem lw_p92 : lw_okq (⟨"SagGatesModel", "valueOf", "(I)J"⟩, 69) := ⟨⟨by decide +kernel, by decide +kernel⟩, List.mem_of_getElem? (i := 1354) (by decide +kernel), List.mem_of_getElem? (i := 1813) (by decide +kernel), List.mem_of_getElem? (i := 1814) (by decide +kernel)⟩
theorem lw_p93 : lw_okq (⟨"SagGatesModel", "bounded", "(J)J"⟩, 69) := ⟨⟨by decide +kernel, by decide +kernel⟩, List.mem_of_getElem? (i := 1354) (by decide +kernel), List.mem_of_getElem? (i := 1817) (by decide +kernel), List.mem_of_getElem? (i := 1818) (by decide +kernel)⟩
theorem lw_p94 : lw_okq (⟨"SagGatesModel", "times", "(JJ)J"⟩, 69) := ⟨⟨by decide +kernel, by decide +kernel⟩, List.mem_of_getElem? (i := 1354) (by decide +kernel), List.mem_of_getElem? (i := 1823) (by decide +kernel), List.mem_of_getElem? (i := 1824) (by decide +kernel)⟩
theorem lw_p95 : lw_okq (⟨"SagGatesModel", "isLatched", "(I)Z"⟩, 69) := ⟨⟨by decide +kernel, by decide +kernel⟩, List.mem_of_getElem? (i := 1354) (by decide +kernel), List.mem_of_getElem? (i := 1841) (by decide +kernel), List.mem_of_getElem? (i := 1842) (by decide +kernel)⟩
def lw_privs_6 : List (MethodName × Nat) := [(⟨"SagGatesModel", "isGate", "(I)Z"⟩, 69), (⟨"SagGatesModel", "fails", "(I)I"⟩, 69), (⟨"SagGatesModel", "loads", "(I)V"⟩, 69), (⟨"SagGatesModel", "spanOf", "(I)I"⟩, 69), (⟨"SagGatesModel", "pullOf", "(I)I"⟩, 69), (⟨"SagGatesModel", "firmOf", "(I)I"⟩, 69), (⟨"SagGatesModel", "goesOn", "(II)V"⟩, 69), (⟨"SagGatesModel", "goes", "(II)V"⟩, 69), (⟨"SagGatesModel", "layNames", "(III)V"⟩, 69), (⟨"SagGatesModel", "dropOf", "(I)I"⟩, 69), (⟨"SagGatesModel", "partOf", "(II)I"⟩, 69), (⟨"SagGatesModel", "lawOf", "(I)J"⟩, 69), (⟨"SagGatesModel", "valueOf", "(I)J"⟩, 69), (⟨"SagGatesModel", "bounded", "(J)J"⟩, 69), (⟨"SagGatesModel", "times", "(JJ)J"⟩, 69), (⟨"SagGatesModel", "isLatched", "(I)Z"⟩, 69)]
theorem lw_r6 : ∀ q ∈ lw_privs_6, lw_okq q := List.forall_mem_cons.mpr ⟨lw_p80, List.forall_mem_cons.mpr ⟨lw_p81, List.forall_mem_cons.mpr ⟨lw_p82, List.forall_mem_cons.mpr ⟨lw_p83, List.forall_mem_cons.mpr ⟨lw_p84, List.forall_mem_cons.mpr ⟨lw_p85, List.forall_mem_cons.mpr ⟨lw_p86, List.forall_mem_cons.mpr ⟨lw_p87, List.forall_mem_cons.mpr ⟨lw_p88, List.forall_mem_cons.mpr ⟨lw_p89, List.forall_mem_cons.mpr ⟨lw_p90, List.forall_mem_cons.mpr ⟨lw_p91, List.forall_mem_cons.mpr ⟨lw_p92, List.forall_mem_cons.mpr ⟨lw_p93, List.forall_mem_cons.mpr ⟨lw_p94, List.forall_mem_cons.mpr ⟨lw_p95, fun _ h => absurd h List.not_mem_nil⟩⟩⟩⟩⟩⟩⟩⟩⟩⟩⟩⟩⟩⟩⟩⟩
theorem lw_p96 : lw_okq (⟨"SagGatesModel", "does", "(I)V"⟩, 69) := ⟨⟨by decide +kernel, by decide +kernel⟩, List.mem_of_getElem? (i := 1354) (by decide +kernel), List.mem_of_getElem? (i := 1853) (by decide +kernel), List.mem_of_getElem? (i := 1854) (by decide +kernel)⟩
theorem lw_p97 : lw_okq (⟨"SagGatesModel", "costOf", "(I)I"⟩, 69) := ⟨⟨by decide +kernel, by decide +kernel⟩, List.mem_of_getElem? (i := 1354) (by decide +kernel), List.mem_of_getElem? (i := 1874) (by decide +kernel), List.mem_of_getElem? (i := 1875) (by decide +kernel)⟩
theorem lw_p98 : lw_okq (⟨"SagGatesModel", "dropBy", "(III)I"⟩, 69) := ⟨⟨by decide +kernel, by decide +kernel⟩, List.mem_of_getElem? (i := 1354) (by decide +kernel), List.mem_of_getElem? (i := 1882) (by decide +kernel), List.mem_of_getElem? (i := 1883) (by decide +kernel)⟩
theorem lw_p99 : lw_okq (⟨"SagGatesModel", "fitting", "(I)I"⟩, 69) := ⟨⟨by decide +kernel, by decide +kernel⟩, List.mem_of_getElem? (i := 1354) (by decide +kernel), List.mem_of_getElem? (i := 1917) (by decide +kernel), List.mem_of_getElem? (i := 1918) (by decide +kernel)⟩
theorem lw_p100 : lw_okq (⟨"SagGatesModel", "layCounts", "()V"⟩, 69) := ⟨⟨by decide +kernel, by decide +kernel⟩, List.mem_of_getElem? (i := 1354) (by decide +kernel), List.mem_of_getElem? (i := 1921) (by decide +kernel), List.mem_of_getElem? (i := 1922) (by decide +kernel)⟩
theorem lw_p101 : lw_okq (⟨"SagGatesModel", "knownMany", "()I"⟩, 69) := ⟨⟨by decide +kernel, by decide +kernel⟩, List.mem_of_getElem? (i := 1354) (by decide +kernel), List.mem_of_getElem? (i := 1925) (by decide +kernel), List.mem_of_getElem? (i := 1926) (by decide +kernel)⟩
theorem lw_p102 : lw_okq (⟨"SagGatesModel", "isFit", "(II)Z"⟩, 69) := ⟨⟨by decide +kernel, by decide +kernel⟩, List.mem_of_getElem? (i := 1354) (by decide +kernel), List.mem_of_getElem? (i := 1929) (by decide +kernel), List.mem_of_getElem? (i := 1930) (by decide +kernel)⟩
theorem lw_p103 : lw_okq (⟨"SagGatesModel", "beginsBy", "(II)V"⟩, 69) := ⟨⟨by decide +kernel, by decide +kernel⟩, List.mem_of_getElem? (i := 1354) (by decide +kernel), List.mem_of_getElem? (i := 1933) (by decide +kernel), List.mem_of_getElem? (i := 1934) (by decide +kernel)⟩
theorem lw_p104 : lw_okq (⟨"SagGatesModel", "isSo", "(II)Z"⟩, 69) := ⟨⟨by decide +kernel, by decide +kernel⟩, List.mem_of_getElem? (i := 1354) (by decide +kernel), List.mem_of_getElem? (i := 1937) (by decide +kernel), List.mem_of_getElem? (i := 1938) (by decide +kernel)⟩
theorem lw_p105 : lw_okq (⟨"SagGatesModel", "valueNow", "(II)I"⟩, 69) := ⟨⟨by decide +kernel, by decide +kernel⟩, List.mem_of_getElem? (i := 1354) (by decide +kernel), List.mem_of_getElem? (i := 1941) (by decide +kernel), List.mem_of_getElem? (i := 1942) (by decide +kernel)⟩
theorem lw_p106 : lw_okq (⟨"SagGatesModel", "weightOf", "(I)I"⟩, 69) := ⟨⟨by decide +kernel, by decide +kernel⟩, List.mem_of_getElem? (i := 1354) (by decide +kernel), List.mem_of_getElem? (i := 1949) (by decide +kernel), List.mem_of_getElem? (i := 1950) (by decide +kernel)⟩
theorem lw_p107 : lw_okq (⟨"SagGatesModel", "heaviest", "(III)I"⟩, 69) := ⟨⟨by decide +kernel, by decide +kernel⟩, List.mem_of_getElem? (i := 1354) (by decide +kernel), List.mem_of_getElem? (i := 1960) (by decide +kernel), List.mem_of_getElem? (i := 1961) (by decide +kernel)⟩
theorem lw_p108 : lw_okq (⟨"SagGatesModel", "isAngle", "(I)Z"⟩, 69) := ⟨⟨by decide +kernel, by decide +kernel⟩, List.mem_of_getElem? (i := 1354) (by decide +kernel), List.mem_of_getElem? (i := 1968) (by decide +kernel), List.mem_of_getElem? (i := 1969) (by decide +kernel)⟩
theorem lw_p109 : lw_okq (⟨"SagGatesModel", "lowOf", "(II)I"⟩, 69) := ⟨⟨by decide +kernel, by decide +kernel⟩, List.mem_of_getElem? (i := 1354) (by decide +kernel), List.mem_of_getElem? (i := 1972) (by decide +kernel), List.mem_of_getElem? (i := 1973) (by decide +kernel)⟩
theorem lw_p110 : lw_okq (⟨"SagGatesModel", "shutsFrom", "(I)I"⟩, 69) := ⟨⟨by decide +kernel, by decide +kernel⟩, List.mem_of_getElem? (i := 1354) (by decide +kernel), List.mem_of_getElem? (i := 1984) (by decide +kernel), List.mem_of_getElem? (i := 1985) (by decide +kernel)⟩
theorem lw_p111 : lw_okq (⟨"SagGatesModel", "aboveOf", "(II)I"⟩, 69) := ⟨⟨by decide +kernel, by decide +kernel⟩, List.mem_of_getElem? (i := 1354) (by decide +kernel), List.mem_of_getElem? (i := 1992) (by decide +kernel), List.mem_of_getElem? (i := 1993) (by decide +kernel)⟩
def lw_privs_7 : List (MethodName × Nat) := [(⟨"SagGatesModel", "does", "(I)V"⟩, 69), (⟨"SagGatesModel", "costOf", "(I)I"⟩, 69), (⟨"SagGatesModel", "dropBy", "(III)I"⟩, 69), (⟨"SagGatesModel", "fitting", "(I)I"⟩, 69), (⟨"SagGatesModel", "layCounts", "()V"⟩, 69), (⟨"SagGatesModel", "knownMany", "()I"⟩, 69), (⟨"SagGatesModel", "isFit", "(II)Z"⟩, 69), (⟨"SagGatesModel", "beginsBy", "(II)V"⟩, 69), (⟨"SagGatesModel", "isSo", "(II)Z"⟩, 69), (⟨"SagGatesModel", "valueNow", "(II)I"⟩, 69), (⟨"SagGatesModel", "weightOf", "(I)I"⟩, 69), (⟨"SagGatesModel", "heaviest", "(III)I"⟩, 69), (⟨"SagGatesModel", "isAngle", "(I)Z"⟩, 69), (⟨"SagGatesModel", "lowOf", "(II)I"⟩, 69), (⟨"SagGatesModel", "shutsFrom", "(I)I"⟩, 69), (⟨"SagGatesModel", "aboveOf", "(II)I"⟩, 69)]
theorem lw_r7 : ∀ q ∈ lw_privs_7, lw_okq q := List.forall_mem_cons.mpr ⟨lw_p96, List.forall_mem_cons.mpr ⟨lw_p97, List.forall_mem_cons.mpr ⟨lw_p98, List.forall_mem_cons.mpr ⟨lw_p99, List.forall_mem_cons.mpr ⟨lw_p100, List.forall_mem_cons.mpr ⟨lw_p101, List.forall_mem_cons.mpr ⟨lw_p102, List.forall_mem_cons.mpr ⟨lw_p103, List.forall_mem_cons.mpr ⟨lw_p104, List.forall_mem_cons.mpr ⟨lw_p105, List.forall_mem_cons.mpr ⟨lw_p106, List.forall_mem_cons.mpr ⟨lw_p107, List.forall_mem_cons.mpr ⟨lw_p108, List.forall_mem_cons.mpr ⟨lw_p109, List.forall_mem_cons.mpr ⟨lw_p110, List.forall_mem_cons.mpr ⟨lw_p111, fun _ h => absurd h List.not_mem_nil⟩⟩⟩⟩⟩⟩⟩⟩⟩⟩⟩⟩⟩⟩⟩⟩
theorem lw_p112 : lw_okq (⟨"SagGatesModel", "opensTo", "(I)I"⟩, 69) := ⟨⟨by decide +kernel, by decide +kernel⟩, List.mem_of_getElem? (i := 1354) (by decide +kernel), List.mem_of_getElem? (i := 2002) (by decide +kernel), List.mem_of_getElem? (i := 2003) (by decide +kernel)⟩
theorem lw_p113 : lw_okq (⟨"SagGatesModel", "sumBy", "(I)I"⟩, 69) := ⟨⟨by decide +kernel, by decide +kernel⟩, List.mem_of_getElem? (i := 1354) (by decide +kernel), List.mem_of_getElem? (i := 2017) (by decide +kernel), List.mem_of_getElem? (i := 2018) (by decide +kernel)⟩
theorem lw_p114 : lw_okq (⟨"SagGatesModel", "weekOfAll", "(I)I"⟩, 69) := ⟨⟨by decide +kernel, by decide +kernel⟩, List.mem_of_getElem? (i := 1354) (by decide +kernel), List.mem_of_getElem? (i := 2021) (by decide +kernel), List.mem_of_getElem? (i := 2022) (by decide +kernel)⟩
def lw_privs_8 : List (MethodName × Nat) := [(⟨"SagGatesModel", "opensTo", "(I)I"⟩, 69), (⟨"SagGatesModel", "sumBy", "(I)I"⟩, 69), (⟨"SagGatesModel", "weekOfAll", "(I)I"⟩, 69)]
theorem lw_r8 : ∀ q ∈ lw_privs_8, lw_okq q := List.forall_mem_cons.mpr ⟨lw_p112, List.forall_mem_cons.mpr ⟨lw_p113, List.forall_mem_cons.mpr ⟨lw_p114, fun _ h => absurd h List.not_mem_nil⟩⟩⟩
def lw_privs : List (MethodName × Nat) := lw_privs_1 ++ (lw_privs_2 ++ (lw_privs_3 ++ (lw_privs_4 ++ (lw_privs_5 ++ (lw_privs_6 ++ (lw_privs_7 ++ (lw_privs_8)))))))
def lw_tbl : List Cond := k2_sels lw_privs ++ tables_1
theorem lw_privs_ok : ∀ q ∈ lw_privs, lw_okq q := by
  show ∀ q ∈ lw_privs_1 ++ (lw_privs_2 ++ (lw_privs_3 ++ (lw_privs_4 ++ (lw_privs_5 ++ (lw_privs_6 ++ (lw_privs_7 ++ (lw_privs_8))))))), lw_okq q
  exact List.forall_mem_append.mpr ⟨lw_r1, List.forall_mem_append.mpr ⟨lw_r2, List.forall_mem_append.mpr ⟨lw_r3, List.forall_mem_append.mpr ⟨lw_r4, List.forall_mem_append.mpr ⟨lw_r5, List.forall_mem_append.mpr ⟨lw_r6, List.forall_mem_append.mpr ⟨lw_r7, lw_r8⟩⟩⟩⟩⟩⟩⟩
end
section
/-! ===== BEGIN words of one list among another's, by their places ===== -/
theorem goodIn_r {big : List Cond} (ws : List Cond) (ps : List Nat) (hp : ws = ps.filterMap (fun i => big[i]?)) (h : ws.all goodWord = true) : GoodIn big ws := by
  intro w hw
  have h1 := List.all_eq_true.mp h w hw
  rw [hp] at hw
  obtain ⟨i, -, hi⟩ := List.mem_filterMap.mp hw
  have hm : w ∈ big := by first | exact List.mem_of_getElem? hi | exact List.getElem?_mem hi
  exact ⟨hm, good_of_word h1⟩
theorem goodIn_app {big a b : List Cond} (ha : GoodIn big a) (hb : GoodIn big b) : GoodIn big (a ++ b) := fun w h => (List.mem_append.mp h).elim (ha w) (hb w)
theorem goodIn_ca {big a b : List Cond} {c : Cond} (ha : GoodIn big (c :: a)) (hb : GoodIn big b) : GoodIn big (c :: (a ++ b)) := fun w h => (List.mem_cons.mp h).elim (fun e => ha w (List.mem_cons.mpr (Or.inl e))) (fun h => (List.mem_append.mp h).elim (fun h => ha w (List.mem_cons.mpr (Or.inr h))) (hb w))
theorem goodIn_sub {big ws : List Cond} (hm : ∀ w ∈ ws, w ∈ big) (h : ws.all goodWord = true) : GoodIn big ws := fun w hw => ⟨hm w hw, good_of_word (List.all_eq_true.mp h w hw)⟩
/-! ===== END ===== -/
def RX0 : String := "SagGates$Formula"
def TX0 : u_T := fun k => match k with
  | 0 => ("SagGates$Formula", "tokens", "LSagGates$Tokens;", true)
  | 1 => ("SagGates$Formula", "held", "[I", true)
  | 2 => ("SagGates$Formula", "heldCount", "I", false)
  | 3 => ("SagGates$Formula", "open", "I", false)
  | 4 => ("SagGates$Formula", "names", "I", false)
  | 5 => ("SagGates$Formula", "wantsValue", "Z", false)
  | 6 => ("SagGates$Formula", "mayNot", "Z", false)
  | _ => ("SagGates$Formula", "plan", "LSagGates$Plan;", false)
def tyX0 : Nat → FieldType := fun k => match k with
  | 0 => .object "SagGates$Tokens"
  | 1 => .array .int
  | 2 => .int
  | 3 => .int
  | 4 => .int
  | 5 => .boolean
  | 6 => .boolean
  | _ => .object "SagGates$Plan"
abbrev wsX00 : List Cond := u_ws RX0 TX0 8
theorem nmX0 : ∀ a, a < 8 → ∀ b, b < 8 → a ≠ b → (TX0 a).2.1 ≠ (TX0 b).2.1 := by decide +kernel
theorem tyX0_ok : ∀ k, k < 8 → parseFieldDescriptor (TX0 k).2.2.1 = some (tyX0 k) := by decide +kernel
abbrev cX0_init : ByteArray := prog_2_method_1_code
def yX0_init : MethodName := ⟨RX0, "<init>", "(LSagGates$Tokens;LSagGates$Plan;)V"⟩
def RX1 : String := "SagGates$Gate"
def TX1 : u_T := fun k => match k with
  | 0 => ("SagGates$Gate", "told", "LSagGates$Told;", false)
  | 1 => ("SagGates$Gate", "lean", "I", false)
  | 2 => ("SagGates$Gate", "square", "I", false)
  | 3 => ("SagGates$Gate", "hooks", "I", false)
  | 4 => ("SagGates$Gate", "lift", "I", false)
  | 5 => ("SagGates$Gate", "deep", "I", false)
  | 6 => ("SagGates$Gate", "brace", "I", false)
  | 7 => ("SagGates$Gate", "wheel", "I", false)
  | 8 => ("SagGates$Gate", "stones", "I", false)
  | 9 => ("SagGates$Gate", "child", "I", false)
  | 10 => ("SagGates$Gate", "done", "I", false)
  | 11 => ("SagGates$Gate", "causes", "I", false)
  | 12 => ("SagGates$Gate", "leanMore", "I", false)
  | 13 => ("SagGates$Gate", "openMore", "I", false)
  | 14 => ("SagGates$Gate", "bendMore", "I", false)
  | 15 => ("SagGates$Gate", "out", "I", false)
  | _ => ("SagGates$Gate", "aside", "I", false)
def tyX1 : Nat → FieldType := fun k => match k with
  | 0 => .object "SagGates$Told"
  | 1 => .int
  | 2 => .int
  | 3 => .int
  | 4 => .int
  | 5 => .int
  | 6 => .int
  | 7 => .int
  | 8 => .int
  | 9 => .int
  | 10 => .int
  | 11 => .int
  | 12 => .int
  | 13 => .int
  | 14 => .int
  | 15 => .int
  | _ => .int
abbrev wsX10 : List Cond := u_ws RX1 TX1 17
theorem nmX1 : ∀ a, a < 17 → ∀ b, b < 17 → a ≠ b → (TX1 a).2.1 ≠ (TX1 b).2.1 := by decide +kernel
theorem tyX1_ok : ∀ k, k < 17 → parseFieldDescriptor (TX1 k).2.2.1 = some (tyX1 k) := by decide +kernel
abbrev cX1_init : ByteArray := prog_3_method_1_code
def yX1_init : MethodName := ⟨RX1, "<init>", "(LSagGates$Told;)V"⟩
abbrev cX1_begin : ByteArray := prog_3_method_2_code
def yX1_begin : MethodName := ⟨RX1, "begin", "(LSagGates$Plan;I)V"⟩
abbrev cX1_setCauses : ByteArray := prog_3_method_3_code
def yX1_setCauses : MethodName := ⟨RX1, "setCauses", "(LSagGates$Plan;I)V"⟩
abbrev cX1_copy : ByteArray := prog_3_method_4_code
def yX1_copy : MethodName := ⟨RX1, "copy", "(LSagGates$Gate;)V"⟩
def RX2 : String := "SagGates$Laws"
def TX2 : u_T := fun k => match k with
  | 0 => ("SagGates$Laws", "values", "[J", true)
  | 1 => ("SagGates$Laws", "stack", "[J", true)
  | 2 => ("SagGates$Laws", "growth", "[I", true)
  | 3 => ("SagGates$Laws", "stale", "I", false)
  | _ => ("SagGates$Laws", "error", "Z", false)
def tyX2 : Nat → FieldType := fun k => match k with
  | 0 => .array .long
  | 1 => .array .long
  | 2 => .array .int
  | 3 => .int
  | _ => .boolean
abbrev wsX20 : List Cond := u_ws RX2 TX2 5
theorem nmX2 : ∀ a, a < 5 → ∀ b, b < 5 → a ≠ b → (TX2 a).2.1 ≠ (TX2 b).2.1 := by decide +kernel
theorem tyX2_ok : ∀ k, k < 5 → parseFieldDescriptor (TX2 k).2.2.1 = some (tyX2 k) := by decide +kernel
abbrev cX2_init : ByteArray := prog_4_method_1_code
def yX2_init : MethodName := ⟨RX2, "<init>", "()V"⟩
abbrev cX2_forget : ByteArray := prog_4_method_2_code
def yX2_forget : MethodName := ⟨RX2, "forget", "()V"⟩
def RX3 : String := "SagGates$Notes"
def TX3 : u_T := fun k => match k with
  | 0 => ("SagGates$Notes", "gates", "[I", true)
  | 1 => ("SagGates$Notes", "weeks", "[I", true)
  | 2 => ("SagGates$Notes", "whats", "[I", true)
  | 3 => ("SagGates$Notes", "lows", "[I", true)
  | 4 => ("SagGates$Notes", "highs", "[I", true)
  | 5 => ("SagGates$Notes", "strikes", "[I", true)
  | 6 => ("SagGates$Notes", "struck", "[Z", true)
  | 7 => ("SagGates$Notes", "picked", "[I", true)
  | 8 => ("SagGates$Notes", "pickedCount", "I", false)
  | 9 => ("SagGates$Notes", "count", "I", false)
  | _ => ("SagGates$Notes", "knownBy", "I", false)
def tyX3 : Nat → FieldType := fun k => match k with
  | 0 => .array .int
  | 1 => .array .int
  | 2 => .array .int
  | 3 => .array .int
  | 4 => .array .int
  | 5 => .array .int
  | 6 => .array .boolean
  | 7 => .array .int
  | 8 => .int
  | 9 => .int
  | _ => .int
abbrev wsX30 : List Cond := u_ws RX3 TX3 11
theorem nmX3 : ∀ a, a < 11 → ∀ b, b < 11 → a ≠ b → (TX3 a).2.1 ≠ (TX3 b).2.1 := by decide +kernel
theorem tyX3_ok : ∀ k, k < 11 → parseFieldDescriptor (TX3 k).2.2.1 = some (tyX3 k) := by decide +kernel
abbrev cX3_init : ByteArray := prog_5_method_1_code
def yX3_init : MethodName := ⟨RX3, "<init>", "()V"⟩
abbrev cX3_clear : ByteArray := prog_5_method_2_code
def yX3_clear : MethodName := ⟨RX3, "clear", "()V"⟩
abbrev cX3_knownCount : ByteArray := prog_5_method_3_code
def yX3_knownCount : MethodName := ⟨RX3, "knownCount", "()I"⟩
def RX4 : String := "SagGates$Plan"
def TX4 : u_T := fun k => match k with
  | 0 => ("SagGates$Plan", "ground", "[I", true)
  | 1 => ("SagGates$Plan", "code", "[I", true)
  | 2 => ("SagGates$Plan", "coded", "I", false)
  | 3 => ("SagGates$Plan", "knots", "I", false)
  | 4 => ("SagGates$Plan", "lawFrom", "[I", true)
  | 5 => ("SagGates$Plan", "lawTo", "[I", true)
  | 6 => ("SagGates$Plan", "lawNames", "[I", true)
  | 7 => ("SagGates$Plan", "gates", "[LSagGates$Told;", true)
  | 8 => ("SagGates$Plan", "gateNames", "[I", true)
  | 9 => ("SagGates$Plan", "gateCount", "I", false)
  | 10 => ("SagGates$Plan", "workNames", "[I", true)
  | 11 => ("SagGates$Plan", "workCosts", "[I", true)
  | 12 => ("SagGates$Plan", "workKinds", "[I", true)
  | 13 => ("SagGates$Plan", "workNumbers", "[I", true)
  | 14 => ("SagGates$Plan", "workCount", "I", false)
  | 15 => ("SagGates$Plan", "causeNames", "[I", true)
  | 16 => ("SagGates$Plan", "causeWeights", "[I", true)
  | 17 => ("SagGates$Plan", "causeKinds", "[I", true)
  | 18 => ("SagGates$Plan", "causeNumbers", "[I", true)
  | _ => ("SagGates$Plan", "causeCount", "I", false)
def tyX4 : Nat → FieldType := fun k => match k with
  | 0 => .array .int
  | 1 => .array .int
  | 2 => .int
  | 3 => .int
  | 4 => .array .int
  | 5 => .array .int
  | 6 => .array .int
  | 7 => .array (.object "SagGates$Told")
  | 8 => .array .int
  | 9 => .int
  | 10 => .array .int
  | 11 => .array .int
  | 12 => .array .int
  | 13 => .array .int
  | 14 => .int
  | 15 => .array .int
  | 16 => .array .int
  | 17 => .array .int
  | 18 => .array .int
  | _ => .int
abbrev wsX40 : List Cond := u_ws RX4 TX4 20
theorem nmX4 : ∀ a, a < 20 → ∀ b, b < 20 → a ≠ b → (TX4 a).2.1 ≠ (TX4 b).2.1 := by decide +kernel
theorem tyX4_ok : ∀ k, k < 20 → parseFieldDescriptor (TX4 k).2.2.1 = some (tyX4 k) := by decide +kernel
abbrev cX4_init : ByteArray := prog_6_method_1_code
def yX4_init : MethodName := ⟨RX4, "<init>", "()V"⟩
abbrev cX4_clear : ByteArray := prog_6_method_2_code
def yX4_clear : MethodName := ⟨RX4, "clear", "()V"⟩
abbrev cX4_isWork : ByteArray := prog_6_method_3_code
def yX4_isWork : MethodName := ⟨RX4, "isWork", "(I)Z"⟩
abbrev cX4_firmIn : ByteArray := prog_6_method_6_code
def yX4_firmIn : MethodName := ⟨RX4, "firmIn", "(I)I"⟩
abbrev cX4_moreBy : ByteArray := prog_6_method_9_code
def yX4_moreBy : MethodName := ⟨RX4, "moreBy", "(II)I"⟩
def RX5 : String := "SagGates$Reader"
def TX5 : u_T := fun k => match k with
  | 0 => ("SagGates$Reader", "tokens", "LSagGates$Tokens;", true)
  | 1 => ("SagGates$Reader", "formula", "LSagGates$Formula;", true)
  | 2 => ("SagGates$Reader", "plan", "LSagGates$Plan;", false)
  | 3 => ("SagGates$Reader", "groundTold", "Z", false)
  | 4 => ("SagGates$Reader", "fault", "I", false)
  | _ => ("SagGates$Reader", "place", "I", false)
def tyX5 : Nat → FieldType := fun k => match k with
  | 0 => .object "SagGates$Tokens"
  | 1 => .object "SagGates$Formula"
  | 2 => .object "SagGates$Plan"
  | 3 => .boolean
  | 4 => .int
  | _ => .int
abbrev wsX50 : List Cond := u_ws RX5 TX5 6
theorem nmX5 : ∀ a, a < 6 → ∀ b, b < 6 → a ≠ b → (TX5 a).2.1 ≠ (TX5 b).2.1 := by decide +kernel
theorem tyX5_ok : ∀ k, k < 6 → parseFieldDescriptor (TX5 k).2.2.1 = some (tyX5 k) := by decide +kernel
abbrev cX5_init : ByteArray := prog_7_method_1_code
def yX5_init : MethodName := ⟨RX5, "<init>", "([BLSagGates$Plan;)V"⟩
abbrev cX5_readText : ByteArray := prog_7_method_2_code
def yX5_readText : MethodName := ⟨RX5, "readText", "(LSagGates$Plan;I)I"⟩
def RX6 : String := "SagGates$Tokens"
def TX6 : u_T := fun k => match k with
  | 0 => ("SagGates$Tokens", "bytes", "[B", true)
  | 1 => ("SagGates$Tokens", "words", "[I", true)
  | 2 => ("SagGates$Tokens", "length", "I", false)
  | 3 => ("SagGates$Tokens", "at", "I", false)
  | 4 => ("SagGates$Tokens", "kind", "I", false)
  | 5 => ("SagGates$Tokens", "place", "I", false)
  | _ => ("SagGates$Tokens", "value", "I", false)
def tyX6 : Nat → FieldType := fun k => match k with
  | 0 => .array .byte
  | 1 => .array .int
  | 2 => .int
  | 3 => .int
  | 4 => .int
  | 5 => .int
  | _ => .int
abbrev wsX60 : List Cond := u_ws RX6 TX6 7
theorem nmX6 : ∀ a, a < 7 → ∀ b, b < 7 → a ≠ b → (TX6 a).2.1 ≠ (TX6 b).2.1 := by decide +kernel
theorem tyX6_ok : ∀ k, k < 7 → parseFieldDescriptor (TX6 k).2.2.1 = some (tyX6 k) := by decide +kernel
abbrev cX6_init : ByteArray := prog_8_method_1_code
def yX6_init : MethodName := ⟨RX6, "<init>", "([B)V"⟩
abbrev cX6_letterBits : ByteArray := prog_8_method_2_code
def yX6_letterBits : MethodName := ⟨RX6, "letterBits", "(II)I"⟩
abbrev cX6_begin : ByteArray := prog_8_method_3_code
def yX6_begin : MethodName := ⟨RX6, "begin", "(I)V"⟩
abbrev cX6_step : ByteArray := prog_8_method_4_code
def yX6_step : MethodName := ⟨RX6, "step", "()V"⟩
def RX7 : String := "SagGates$Told"
def TX7 : u_T := fun k => match k with
  | 0 => ("SagGates$Told", "length", "I", false)
  | 1 => ("SagGates$Told", "height", "I", false)
  | 2 => ("SagGates$Told", "weight", "I", false)
  | 3 => ("SagGates$Told", "lower", "I", false)
  | 4 => ("SagGates$Told", "upper", "I", false)
  | 5 => ("SagGates$Told", "out", "I", false)
  | 6 => ("SagGates$Told", "aside", "I", false)
  | 7 => ("SagGates$Told", "deep", "I", false)
  | 8 => ("SagGates$Told", "thick", "I", false)
  | 9 => ("SagGates$Told", "brace", "I", false)
  | 10 => ("SagGates$Told", "mayRise", "I", false)
  | 11 => ("SagGates$Told", "mayDrop", "I", false)
  | 12 => ("SagGates$Told", "child", "I", false)
  | 13 => ("SagGates$Told", "gap", "I", false)
  | 14 => ("SagGates$Told", "causes", "I", false)
  | 15 => ("SagGates$Told", "parts", "I", false)
  | _ => ("SagGates$Told", "rise", "[I", true)
def tyX7 : Nat → FieldType := fun k => match k with
  | 0 => .int
  | 1 => .int
  | 2 => .int
  | 3 => .int
  | 4 => .int
  | 5 => .int
  | 6 => .int
  | 7 => .int
  | 8 => .int
  | 9 => .int
  | 10 => .int
  | 11 => .int
  | 12 => .int
  | 13 => .int
  | 14 => .int
  | 15 => .int
  | _ => .array .int
abbrev wsX70 : List Cond := u_ws RX7 TX7 17
theorem nmX7 : ∀ a, a < 17 → ∀ b, b < 17 → a ≠ b → (TX7 a).2.1 ≠ (TX7 b).2.1 := by decide +kernel
theorem tyX7_ok : ∀ k, k < 17 → parseFieldDescriptor (TX7 k).2.2.1 = some (tyX7 k) := by decide +kernel
abbrev cX7_init : ByteArray := prog_9_method_1_code
def yX7_init : MethodName := ⟨RX7, "<init>", "()V"⟩
abbrev cX7_clear : ByteArray := prog_9_method_2_code
def yX7_clear : MethodName := ⟨RX7, "clear", "()V"⟩
abbrev cX7_setHeight : ByteArray := prog_9_method_3_code
def yX7_setHeight : MethodName := ⟨RX7, "setHeight", "(I)V"⟩
def RX8 : String := "SagGates$Trials"
def TX8 : u_T := fun k => match k with
  | 0 => ("SagGates$Trials", "behind", "[I", true)
  | 1 => ("SagGates$Trials", "run", "LSagGates$Gate;", true)
  | _ => ("SagGates$Trials", "fitting", "I", false)
def tyX8 : Nat → FieldType := fun k => match k with
  | 0 => .array .int
  | 1 => .object "SagGates$Gate"
  | _ => .int
abbrev wsX80 : List Cond := u_ws RX8 TX8 3
theorem nmX8 : ∀ a, a < 3 → ∀ b, b < 3 → a ≠ b → (TX8 a).2.1 ≠ (TX8 b).2.1 := by decide +kernel
theorem tyX8_ok : ∀ k, k < 3 → parseFieldDescriptor (TX8 k).2.2.1 = some (tyX8 k) := by decide +kernel
abbrev cX8_init : ByteArray := prog_10_method_1_code
def yX8_init : MethodName := ⟨RX8, "<init>", "(LSagGates$Told;)V"⟩
def RX9 : String := "SagGates$Turns"
def TX9 : u_T := fun k => match k with
  | 0 => ("SagGates$Turns", "costs", "[I", true)
  | 1 => ("SagGates$Turns", "order", "[I", true)
  | 2 => ("SagGates$Turns", "best", "[I", true)
  | _ => ("SagGates$Turns", "leastSum", "I", false)
def tyX9 : Nat → FieldType := fun k => match k with
  | 0 => .array .int
  | 1 => .array .int
  | 2 => .array .int
  | _ => .int
abbrev wsX90 : List Cond := u_ws RX9 TX9 4
theorem nmX9 : ∀ a, a < 4 → ∀ b, b < 4 → a ≠ b → (TX9 a).2.1 ≠ (TX9 b).2.1 := by decide +kernel
theorem tyX9_ok : ∀ k, k < 4 → parseFieldDescriptor (TX9 k).2.2.1 = some (tyX9 k) := by decide +kernel
abbrev cX9_init : ByteArray := prog_11_method_1_code
def yX9_init : MethodName := ⟨RX9, "<init>", "()V"⟩
def RX10 : String := "SagGates$Undone"
def TX10 : u_T := fun k => match k with
  | 0 => ("SagGates$Undone", "before", "[LSagGates$Gate;", true)
  | 1 => ("SagGates$Undone", "numbers", "[I", true)
  | _ => ("SagGates$Undone", "count", "I", false)
def tyX10 : Nat → FieldType := fun k => match k with
  | 0 => .array (.object "SagGates$Gate")
  | 1 => .array .int
  | _ => .int
abbrev wsX100 : List Cond := u_ws RX10 TX10 3
theorem nmX10 : ∀ a, a < 3 → ∀ b, b < 3 → a ≠ b → (TX10 a).2.1 ≠ (TX10 b).2.1 := by decide +kernel
theorem tyX10_ok : ∀ k, k < 3 → parseFieldDescriptor (TX10 k).2.2.1 = some (tyX10 k) := by decide +kernel
abbrev cX10_init : ByteArray := prog_12_method_1_code
def yX10_init : MethodName := ⟨RX10, "<init>", "(LSagGates$Told;)V"⟩
abbrev cX10_clear : ByteArray := prog_12_method_2_code
def yX10_clear : MethodName := ⟨RX10, "clear", "()V"⟩
def RX11 : String := "SagGates"
def TX11 : u_T := fun k => match k with
  | 0 => ("SagGates", "tape", "[B", true)
  | 1 => ("SagGates", "taped", "I", false)
  | 2 => ("SagGates", "plan", "LSagGates$Plan;", false)
  | 3 => ("SagGates", "spare", "LSagGates$Plan;", false)
  | 4 => ("SagGates", "reader", "LSagGates$Reader;", true)
  | 5 => ("SagGates", "laws", "LSagGates$Laws;", true)
  | 6 => ("SagGates", "untold", "LSagGates$Told;", true)
  | 7 => ("SagGates", "gates", "[LSagGates$Gate;", true)
  | 8 => ("SagGates", "next", "I", false)
  | 9 => ("SagGates", "image", "[LSagGates$Gate;", true)
  | 10 => ("SagGates", "imageNext", "I", false)
  | 11 => ("SagGates", "undone", "LSagGates$Undone;", true)
  | 12 => ("SagGates", "notes", "LSagGates$Notes;", true)
  | 13 => ("SagGates", "trials", "LSagGates$Trials;", true)
  | 14 => ("SagGates", "trial", "LSagGates$Gate;", true)
  | _ => ("SagGates", "turns", "LSagGates$Turns;", true)
def tyX11 : Nat → FieldType := fun k => match k with
  | 0 => .array .byte
  | 1 => .int
  | 2 => .object "SagGates$Plan"
  | 3 => .object "SagGates$Plan"
  | 4 => .object "SagGates$Reader"
  | 5 => .object "SagGates$Laws"
  | 6 => .object "SagGates$Told"
  | 7 => .array (.object "SagGates$Gate")
  | 8 => .int
  | 9 => .array (.object "SagGates$Gate")
  | 10 => .int
  | 11 => .object "SagGates$Undone"
  | 12 => .object "SagGates$Notes"
  | 13 => .object "SagGates$Trials"
  | 14 => .object "SagGates$Gate"
  | _ => .object "SagGates$Turns"
abbrev wsX110 : List Cond := u_ws RX11 TX11 16
theorem nmX11 : ∀ a, a < 16 → ∀ b, b < 16 → a ≠ b → (TX11 a).2.1 ≠ (TX11 b).2.1 := by decide +kernel
theorem tyX11_ok : ∀ k, k < 16 → parseFieldDescriptor (TX11 k).2.2.1 = some (tyX11 k) := by decide +kernel
abbrev cX11_init : ByteArray := prog_1_method_1_code
def yX11_init : MethodName := ⟨RX11, "<init>", "()V"⟩
abbrev cX11_feed : ByteArray := prog_1_method_2_code
def yX11_feed : MethodName := ⟨RX11, "feed", "(IIIII)I"⟩
abbrev cX11_putOnTape : ByteArray := prog_1_method_3_code
def yX11_putOnTape : MethodName := ⟨RX11, "putOnTape", "(I)V"⟩
abbrev cX11_text : ByteArray := prog_1_method_4_code
def yX11_text : MethodName := ⟨RX11, "text", "(I)I"⟩
abbrev cX11_takeSpare : ByteArray := prog_1_method_5_code
def yX11_takeSpare : MethodName := ⟨RX11, "takeSpare", "()V"⟩
abbrev cX11_fault : ByteArray := prog_1_method_6_code
def yX11_fault : MethodName := ⟨RX11, "fault", "(I)I"⟩
abbrev cX11_named : ByteArray := prog_1_method_7_code
def yX11_named : MethodName := ⟨RX11, "named", "(II)I"⟩
abbrev cX11_placeOf : ByteArray := prog_1_method_8_code
def yX11_placeOf : MethodName := ⟨RX11, "placeOf", "(I[II)I"⟩
abbrev cX11_isGate : ByteArray := prog_1_method_9_code
def yX11_isGate : MethodName := ⟨RX11, "isGate", "(I)Z"⟩
abbrev cX11_isAhead : ByteArray := prog_1_method_11_code
def yX11_isAhead : MethodName := ⟨RX11, "isAhead", "(I)Z"⟩
abbrev cX11_isWeek : ByteArray := prog_1_method_13_code
def yX11_isWeek : MethodName := ⟨RX11, "isWeek", "(I)Z"⟩
abbrev cX11_look : ByteArray := prog_1_method_14_code
def yX11_look : MethodName := ⟨RX11, "look", "(II)I"⟩
abbrev cX11_works : ByteArray := prog_1_method_15_code
def yX11_works : MethodName := ⟨RX11, "works", "(II)I"⟩
abbrev cX11_firm : ByteArray := prog_1_method_16_code
def yX11_firm : MethodName := ⟨RX11, "firm", "(I)I"⟩
abbrev cX11_weeks : ByteArray := prog_1_method_17_code
def yX11_weeks : MethodName := ⟨RX11, "weeks", "(I)I"⟩
abbrev cX11_sags : ByteArray := prog_1_method_18_code
def yX11_sags : MethodName := ⟨RX11, "sags", "(II)I"⟩
abbrev cX11_latched : ByteArray := prog_1_method_19_code
def yX11_latched : MethodName := ⟨RX11, "latched", "(I)I"⟩
abbrev cX11_gives : ByteArray := prog_1_method_20_code
def yX11_gives : MethodName := ⟨RX11, "gives", "(I)I"⟩
abbrev cX11_work : ByteArray := prog_1_method_21_code
def yX11_work : MethodName := ⟨RX11, "work", "(II)Z"⟩
abbrev cX11_undo : ByteArray := prog_1_method_22_code
def yX11_undo : MethodName := ⟨RX11, "undo", "()I"⟩
abbrev cX11_lasts : ByteArray := prog_1_method_23_code
def yX11_lasts : MethodName := ⟨RX11, "lasts", "(II)I"⟩
abbrev cX11_least : ByteArray := prog_1_method_24_code
def yX11_least : MethodName := ⟨RX11, "least", "(IIII)I"⟩
abbrev cX11_way : ByteArray := prog_1_method_26_code
def yX11_way : MethodName := ⟨RX11, "way", "(II)I"⟩
abbrev cX11_enough : ByteArray := prog_1_method_28_code
def yX11_enough : MethodName := ⟨RX11, "enough", "(III)I"⟩
abbrev cX11_bears : ByteArray := prog_1_method_29_code
def yX11_bears : MethodName := ⟨RX11, "bears", "(III)I"⟩
abbrev cX11_knock : ByteArray := prog_1_method_30_code
def yX11_knock : MethodName := ⟨RX11, "knock", "(II)J"⟩
abbrev cX11_measure : ByteArray := prog_1_method_31_code
def yX11_measure : MethodName := ⟨RX11, "measure", "(IIIII)I"⟩
abbrev cX11_strike : ByteArray := prog_1_method_32_code
def yX11_strike : MethodName := ⟨RX11, "strike", "(I)I"⟩
abbrev cX11_known : ByteArray := prog_1_method_33_code
def yX11_known : MethodName := ⟨RX11, "known", "(I)Z"⟩
abbrev cX11_fits : ByteArray := prog_1_method_34_code
def yX11_fits : MethodName := ⟨RX11, "fits", "(I)I"⟩
abbrev cX11_odds : ByteArray := prog_1_method_35_code
def yX11_odds : MethodName := ⟨RX11, "odds", "(III)I"⟩
abbrev cX11_test : ByteArray := prog_1_method_36_code
def yX11_test : MethodName := ⟨RX11, "test", "(II)I"⟩
abbrev cX11_low : ByteArray := prog_1_method_37_code
def yX11_low : MethodName := ⟨RX11, "low", "(II)I"⟩
abbrev cX11_rest : ByteArray := prog_1_method_38_code
def yX11_rest : MethodName := ⟨RX11, "rest", "(I)I"⟩
abbrev cX11_shuts : ByteArray := prog_1_method_39_code
def yX11_shuts : MethodName := ⟨RX11, "shuts", "(I)I"⟩
abbrev cX11_above : ByteArray := prog_1_method_40_code
def yX11_above : MethodName := ⟨RX11, "above", "(II)I"⟩
abbrev cX11_opens : ByteArray := prog_1_method_41_code
def yX11_opens : MethodName := ⟨RX11, "opens", "(I)I"⟩
abbrev cX11_stand : ByteArray := prog_1_method_42_code
def yX11_stand : MethodName := ⟨RX11, "stand", "(III)I"⟩
abbrev cX11_first : ByteArray := prog_1_method_43_code
def yX11_first : MethodName := ⟨RX11, "first", "(II)I"⟩
abbrev cX11_wind : ByteArray := prog_1_method_45_code
def yX11_wind : MethodName := ⟨RX11, "wind", "(IIIII)I"⟩
abbrev cX11_keep : ByteArray := prog_1_method_46_code
def yX11_keep : MethodName := ⟨RX11, "keep", "()I"⟩
abbrev cX11_back : ByteArray := prog_1_method_47_code
def yX11_back : MethodName := ⟨RX11, "back", "()I"⟩
abbrev cX11_count : ByteArray := prog_1_method_48_code
def yX11_count : MethodName := ⟨RX11, "count", "(I)I"⟩
abbrev cX11_costOfAllDone : ByteArray := prog_1_method_49_code
def yX11_costOfAllDone : MethodName := ⟨RX11, "costOfAllDone", "()I"⟩
def RX12 : String := "SagGatesModel"
def TX12 : u_T := fun k => match k with
  | 0 => ("SagGatesModel", "tape", "[I", true)
  | 1 => ("SagGatesModel", "tapeSize", "I", false)
  | 2 => ("SagGatesModel", "thrown", "I", false)
  | 3 => ("SagGatesModel", "words", "[I", true)
  | 4 => ("SagGatesModel", "fault", "I", false)
  | 5 => ("SagGatesModel", "faultPlace", "I", false)
  | 6 => ("SagGatesModel", "stop", "I", false)
  | 7 => ("SagGatesModel", "next", "I", false)
  | 8 => ("SagGatesModel", "kind", "I", false)
  | 9 => ("SagGatesModel", "which", "I", false)
  | 10 => ("SagGatesModel", "at", "I", false)
  | 11 => ("SagGatesModel", "got", "I", false)
  | 12 => ("SagGatesModel", "gates", "I", false)
  | 13 => ("SagGatesModel", "works", "I", false)
  | 14 => ("SagGatesModel", "causes", "I", false)
  | 15 => ("SagGatesModel", "knots", "I", false)
  | 16 => ("SagGatesModel", "gatesRead", "I", false)
  | 17 => ("SagGatesModel", "worksRead", "I", false)
  | 18 => ("SagGatesModel", "causesRead", "I", false)
  | 19 => ("SagGatesModel", "knotsRead", "I", false)
  | 20 => ("SagGatesModel", "groundTold", "Z", false)
  | 21 => ("SagGatesModel", "ground", "[I", true)
  | 22 => ("SagGatesModel", "lawFirst", "[I", true)
  | 23 => ("SagGatesModel", "lawLast", "[I", true)
  | 24 => ("SagGatesModel", "lawTold", "[Z", true)
  | 25 => ("SagGatesModel", "gateName", "[I", true)
  | 26 => ("SagGatesModel", "gateHas", "[I", true)
  | 27 => ("SagGatesModel", "rise", "[I", true)
  | 28 => ("SagGatesModel", "workName", "[I", true)
  | 29 => ("SagGatesModel", "workHas", "[I", true)
  | 30 => ("SagGatesModel", "causeName", "[I", true)
  | 31 => ("SagGatesModel", "causeHas", "[I", true)
  | 32 => ("SagGatesModel", "knot", "[I", true)
  | 33 => ("SagGatesModel", "part", "[I", true)
  | 34 => ("SagGatesModel", "other", "[I", true)
  | 35 => ("SagGatesModel", "wait", "[I", true)
  | 36 => ("SagGatesModel", "held", "[I", true)
  | 37 => ("SagGatesModel", "waits", "I", false)
  | 38 => ("SagGatesModel", "helds", "I", false)
  | 39 => ("SagGatesModel", "brackets", "I", false)
  | 40 => ("SagGatesModel", "counted", "I", false)
  | 41 => ("SagGatesModel", "wants", "Z", false)
  | 42 => ("SagGatesModel", "mayNot", "Z", false)
  | 43 => ("SagGatesModel", "week", "I", false)
  | 44 => ("SagGatesModel", "state", "[I", true)
  | 45 => ("SagGatesModel", "now", "[I", true)
  | 46 => ("SagGatesModel", "names", "[J", true)
  | 47 => ("SagGatesModel", "value", "[J", true)
  | 48 => ("SagGatesModel", "isError", "Z", false)
  | 49 => ("SagGatesModel", "grows", "[J", true)
  | 50 => ("SagGatesModel", "undos", "I", false)
  | 51 => ("SagGatesModel", "undo", "[I", true)
  | 52 => ("SagGatesModel", "measures", "I", false)
  | 53 => ("SagGatesModel", "seenBy", "I", false)
  | 54 => ("SagGatesModel", "readGate", "[I", true)
  | 55 => ("SagGatesModel", "readWeek", "[I", true)
  | 56 => ("SagGatesModel", "readWhat", "[I", true)
  | 57 => ("SagGatesModel", "readLow", "[I", true)
  | 58 => ("SagGatesModel", "readHigh", "[I", true)
  | 59 => ("SagGatesModel", "counts", "[Z", true)
  | 60 => ("SagGatesModel", "tells", "[I", true)
  | 61 => ("SagGatesModel", "cosines", "[I", true)
  | 62 => ("SagGatesModel", "sines", "[I", true)
  | 63 => ("SagGatesModel", "order", "[I", true)
  | 64 => ("SagGatesModel", "bestOrder", "[I", true)
  | 65 => ("SagGatesModel", "tried", "[I", true)
  | 66 => ("SagGatesModel", "hasImage", "Z", false)
  | 67 => ("SagGatesModel", "keptWeek", "I", false)
  | _ => ("SagGatesModel", "keptState", "[I", true)
def tyX12 : Nat → FieldType := fun k => match k with
  | 0 => .array .int
  | 1 => .int
  | 2 => .int
  | 3 => .array .int
  | 4 => .int
  | 5 => .int
  | 6 => .int
  | 7 => .int
  | 8 => .int
  | 9 => .int
  | 10 => .int
  | 11 => .int
  | 12 => .int
  | 13 => .int
  | 14 => .int
  | 15 => .int
  | 16 => .int
  | 17 => .int
  | 18 => .int
  | 19 => .int
  | 20 => .boolean
  | 21 => .array .int
  | 22 => .array .int
  | 23 => .array .int
  | 24 => .array .boolean
  | 25 => .array .int
  | 26 => .array .int
  | 27 => .array .int
  | 28 => .array .int
  | 29 => .array .int
  | 30 => .array .int
  | 31 => .array .int
  | 32 => .array .int
  | 33 => .array .int
  | 34 => .array .int
  | 35 => .array .int
  | 36 => .array .int
  | 37 => .int
  | 38 => .int
  | 39 => .int
  | 40 => .int
  | 41 => .boolean
  | 42 => .boolean
  | 43 => .int
  | 44 => .array .int
  | 45 => .array .int
  | 46 => .array .long
  | 47 => .array .long
  | 48 => .boolean
  | 49 => .array .long
  | 50 => .int
  | 51 => .array .int
  | 52 => .int
  | 53 => .int
  | 54 => .array .int
  | 55 => .array .int
  | 56 => .array .int
  | 57 => .array .int
  | 58 => .array .int
  | 59 => .array .boolean
  | 60 => .array .int
  | 61 => .array .int
  | 62 => .array .int
  | 63 => .array .int
  | 64 => .array .int
  | 65 => .array .int
  | 66 => .boolean
  | 67 => .int
  | _ => .array .int
abbrev wsX120 : List Cond := u_ws RX12 TX12 69
theorem nmX12 : ∀ a, a < 69 → ∀ b, b < 69 → a ≠ b → (TX12 a).2.1 ≠ (TX12 b).2.1 := by decide +kernel
theorem tyX12_ok : ∀ k, k < 69 → parseFieldDescriptor (TX12 k).2.2.1 = some (tyX12 k) := by decide +kernel
abbrev cX12_init : ByteArray := prog_14_method_1_code
def yX12_init : MethodName := ⟨RX12, "<init>", "()V"⟩
abbrev cX12_thrown : ByteArray := prog_14_method_2_code
def yX12_thrown : MethodName := ⟨RX12, "thrown", "()I"⟩
abbrev cX12_feed : ByteArray := prog_14_method_3_code
def yX12_feed : MethodName := ⟨RX12, "feed", "(IIIII)I"⟩
abbrev cX12_isIn : ByteArray := prog_14_method_4_code
def yX12_isIn : MethodName := ⟨RX12, "isIn", "(III)Z"⟩
abbrev cX12_token : ByteArray := prog_14_method_11_code
def yX12_token : MethodName := ⟨RX12, "token", "()V"⟩
abbrev cX12_plain : ByteArray := prog_14_method_19_code
def yX12_plain : MethodName := ⟨RX12, "plain", "()V"⟩
abbrev cX12_copies : ByteArray := prog_14_method_20_code
def yX12_copies : MethodName := ⟨RX12, "copies", "([II)V"⟩
abbrev cX12_keepText : ByteArray := prog_14_method_21_code
def yX12_keepText : MethodName := ⟨RX12, "keepText", "()V"⟩
abbrev cX12_find : ByteArray := prog_14_method_22_code
def yX12_find : MethodName := ⟨RX12, "find", "([IIII)I"⟩
abbrev cX12_text : ByteArray := prog_14_method_36_code
def yX12_text : MethodName := ⟨RX12, "text", "(I)I"⟩
abbrev cX12_fault : ByteArray := prog_14_method_37_code
def yX12_fault : MethodName := ⟨RX12, "fault", "(I)I"⟩
abbrev cX12_named : ByteArray := prog_14_method_38_code
def yX12_named : MethodName := ⟨RX12, "named", "(II)I"⟩
abbrev cX12_lays : ByteArray := prog_14_method_48_code
def yX12_lays : MethodName := ⟨RX12, "lays", "([II[II)V"⟩
abbrev cX12_begins : ByteArray := prog_14_method_49_code
def yX12_begins : MethodName := ⟨RX12, "begins", "(I)V"⟩
abbrev cX12_firmOf : ByteArray := prog_14_method_55_code
def yX12_firmOf : MethodName := ⟨RX12, "firmOf", "(I)I"⟩
abbrev cX12_isGate : ByteArray := prog_14_method_64_code
def yX12_isGate : MethodName := ⟨RX12, "isGate", "(I)Z"⟩
abbrev cX12_fails : ByteArray := prog_14_method_65_code
def yX12_fails : MethodName := ⟨RX12, "fails", "(I)I"⟩
abbrev cX12_look : ByteArray := prog_14_method_66_code
def yX12_look : MethodName := ⟨RX12, "look", "(II)I"⟩
abbrev cX12_works : ByteArray := prog_14_method_67_code
def yX12_works : MethodName := ⟨RX12, "works", "(II)I"⟩
abbrev cX12_firm : ByteArray := prog_14_method_68_code
def yX12_firm : MethodName := ⟨RX12, "firm", "(I)I"⟩
abbrev cX12_weeks : ByteArray := prog_14_method_69_code
def yX12_weeks : MethodName := ⟨RX12, "weeks", "(I)I"⟩
abbrev cX12_sags : ByteArray := prog_14_method_70_code
def yX12_sags : MethodName := ⟨RX12, "sags", "(II)I"⟩
abbrev cX12_latched : ByteArray := prog_14_method_72_code
def yX12_latched : MethodName := ⟨RX12, "latched", "(I)I"⟩
abbrev cX12_gives : ByteArray := prog_14_method_73_code
def yX12_gives : MethodName := ⟨RX12, "gives", "(I)I"⟩
abbrev cX12_work : ByteArray := prog_14_method_75_code
def yX12_work : MethodName := ⟨RX12, "work", "(II)Z"⟩
abbrev cX12_undo : ByteArray := prog_14_method_76_code
def yX12_undo : MethodName := ⟨RX12, "undo", "()I"⟩
abbrev cX12_lasts : ByteArray := prog_14_method_78_code
def yX12_lasts : MethodName := ⟨RX12, "lasts", "(II)I"⟩
abbrev cX12_least : ByteArray := prog_14_method_80_code
def yX12_least : MethodName := ⟨RX12, "least", "(IIII)I"⟩
abbrev cX12_way : ByteArray := prog_14_method_82_code
def yX12_way : MethodName := ⟨RX12, "way", "(II)I"⟩
abbrev cX12_enough : ByteArray := prog_14_method_83_code
def yX12_enough : MethodName := ⟨RX12, "enough", "(III)I"⟩
abbrev cX12_bears : ByteArray := prog_14_method_84_code
def yX12_bears : MethodName := ⟨RX12, "bears", "(III)I"⟩
abbrev cX12_knock : ByteArray := prog_14_method_85_code
def yX12_knock : MethodName := ⟨RX12, "knock", "(II)J"⟩
abbrev cX12_measure : ByteArray := prog_14_method_86_code
def yX12_measure : MethodName := ⟨RX12, "measure", "(IIIII)I"⟩
abbrev cX12_strike : ByteArray := prog_14_method_87_code
def yX12_strike : MethodName := ⟨RX12, "strike", "(I)I"⟩
abbrev cX12_known : ByteArray := prog_14_method_88_code
def yX12_known : MethodName := ⟨RX12, "known", "(I)Z"⟩
abbrev cX12_knownMany : ByteArray := prog_14_method_89_code
def yX12_knownMany : MethodName := ⟨RX12, "knownMany", "()I"⟩
abbrev cX12_fits : ByteArray := prog_14_method_96_code
def yX12_fits : MethodName := ⟨RX12, "fits", "(I)I"⟩
abbrev cX12_odds : ByteArray := prog_14_method_99_code
def yX12_odds : MethodName := ⟨RX12, "odds", "(III)I"⟩
abbrev cX12_test : ByteArray := prog_14_method_101_code
def yX12_test : MethodName := ⟨RX12, "test", "(II)I"⟩
abbrev cX12_low : ByteArray := prog_14_method_104_code
def yX12_low : MethodName := ⟨RX12, "low", "(II)I"⟩
abbrev cX12_rest : ByteArray := prog_14_method_105_code
def yX12_rest : MethodName := ⟨RX12, "rest", "(I)I"⟩
abbrev cX12_shuts : ByteArray := prog_14_method_107_code
def yX12_shuts : MethodName := ⟨RX12, "shuts", "(I)I"⟩
abbrev cX12_above : ByteArray := prog_14_method_109_code
def yX12_above : MethodName := ⟨RX12, "above", "(II)I"⟩
abbrev cX12_opens : ByteArray := prog_14_method_111_code
def yX12_opens : MethodName := ⟨RX12, "opens", "(I)I"⟩
abbrev cX12_stand : ByteArray := prog_14_method_112_code
def yX12_stand : MethodName := ⟨RX12, "stand", "(III)I"⟩
abbrev cX12_first : ByteArray := prog_14_method_116_code
def yX12_first : MethodName := ⟨RX12, "first", "(II)I"⟩
abbrev cX12_wind : ByteArray := prog_14_method_117_code
def yX12_wind : MethodName := ⟨RX12, "wind", "(IIIII)I"⟩
abbrev cX12_keep : ByteArray := prog_14_method_118_code
def yX12_keep : MethodName := ⟨RX12, "keep", "()I"⟩
abbrev cX12_back : ByteArray := prog_14_method_119_code
def yX12_back : MethodName := ⟨RX12, "back", "()I"⟩
abbrev cX12_count : ByteArray := prog_14_method_120_code
def yX12_count : MethodName := ⟨RX12, "count", "(I)I"⟩
def RJx145de : String := "java/io/Serializable"
def TJx145de : u_T := fun k => match k with
  | _ => ("", "", "", false)
def tyJx145de : Nat → FieldType := fun k => match k with
  | _ => .int
theorem nmJx145de : ∀ a, a < 0 → ∀ b, b < 0 → a ≠ b → (TJx145de a).2.1 ≠ (TJx145de b).2.1 := by decide +kernel
theorem tyJx145de_ok : ∀ k, k < 0 → parseFieldDescriptor (TJx145de k).2.2.1 = some (tyJx145de k) := by decide +kernel
def RJx9f9b0 : String := "java/lang/CharSequence"
def TJx9f9b0 : u_T := fun k => match k with
  | _ => ("", "", "", false)
def tyJx9f9b0 : Nat → FieldType := fun k => match k with
  | _ => .int
theorem nmJx9f9b0 : ∀ a, a < 0 → ∀ b, b < 0 → a ≠ b → (TJx9f9b0 a).2.1 ≠ (TJx9f9b0 b).2.1 := by decide +kernel
theorem tyJx9f9b0_ok : ∀ k, k < 0 → parseFieldDescriptor (TJx9f9b0 k).2.2.1 = some (tyJx9f9b0 k) := by decide +kernel
def RJxb160c : String := "java/lang/Comparable"
def TJxb160c : u_T := fun k => match k with
  | _ => ("", "", "", false)
def tyJxb160c : Nat → FieldType := fun k => match k with
  | _ => .int
theorem nmJxb160c : ∀ a, a < 0 → ∀ b, b < 0 → a ≠ b → (TJxb160c a).2.1 ≠ (TJxb160c b).2.1 := by decide +kernel
theorem tyJxb160c_ok : ∀ k, k < 0 → parseFieldDescriptor (TJxb160c k).2.2.1 = some (tyJxb160c k) := by decide +kernel
def RJ6 : String := "java/lang/Integer"
def TJ6 : u_T := fun k => match k with
  | _ => ("", "", "", false)
def tyJ6 : Nat → FieldType := fun k => match k with
  | _ => .int
theorem nmJ6 : ∀ a, a < 0 → ∀ b, b < 0 → a ≠ b → (TJ6 a).2.1 ≠ (TJ6 b).2.1 := by decide +kernel
theorem tyJ6_ok : ∀ k, k < 0 → parseFieldDescriptor (TJ6 k).2.2.1 = some (tyJ6 k) := by decide +kernel
def RJ9 : String := "java/lang/Math"
def TJ9 : u_T := fun k => match k with
  | _ => ("", "", "", false)
def tyJ9 : Nat → FieldType := fun k => match k with
  | _ => .int
theorem nmJ9 : ∀ a, a < 0 → ∀ b, b < 0 → a ≠ b → (TJ9 a).2.1 ≠ (TJ9 b).2.1 := by decide +kernel
theorem tyJ9_ok : ∀ k, k < 0 → parseFieldDescriptor (TJ9 k).2.2.1 = some (tyJ9 k) := by decide +kernel
abbrev cJ9_max_7cf53 : ByteArray := prog_21_method_65_code
def yJ9_max_7cf53 : MethodName := ⟨RJ9, "max", "(II)I"⟩
abbrev cJ9_min_7cf53 : ByteArray := prog_21_method_69_code
def yJ9_min_7cf53 : MethodName := ⟨RJ9, "min", "(II)I"⟩
def RJ0 : String := "java/lang/String"
def TJ0 : u_T := fun k => match k with
  | _ => ("", "", "", false)
def tyJ0 : Nat → FieldType := fun k => match k with
  | _ => .int
theorem nmJ0 : ∀ a, a < 0 → ∀ b, b < 0 → a ≠ b → (TJ0 a).2.1 ≠ (TJ0 b).2.1 := by decide +kernel
theorem tyJ0_ok : ∀ k, k < 0 → parseFieldDescriptor (TJ0 k).2.2.1 = some (tyJ0 k) := by decide +kernel
abbrev cJ0_length_8abf5 : ByteArray := prog_23_method_54_code
def yJ0_length_8abf5 : MethodName := ⟨RJ0, "length", "()I"⟩
abbrev cJ0_charAt_5068e : ByteArray := prog_23_method_56_code
def yJ0_charAt_5068e : MethodName := ⟨RJ0, "charAt", "(I)C"⟩
abbrev cJ0_coder_7d493 : ByteArray := prog_23_method_152_code
def yJ0_coder_7d493 : MethodName := ⟨RJ0, "coder", "()B"⟩
abbrev cJ0_isLatin1_aae02 : ByteArray := prog_23_method_154_code
def yJ0_isLatin1_aae02 : MethodName := ⟨RJ0, "isLatin1", "()Z"⟩
abbrev cJ0_checkIndex_df160 : ByteArray := prog_23_method_155_code
def yJ0_checkIndex_df160 : MethodName := ⟨RJ0, "checkIndex", "(II)V"⟩
def RJ1 : String := "java/lang/StringLatin1"
def TJ1 : u_T := fun k => match k with
  | _ => ("", "", "", false)
def tyJ1 : Nat → FieldType := fun k => match k with
  | _ => .int
theorem nmJ1 : ∀ a, a < 0 → ∀ b, b < 0 → a ≠ b → (TJ1 a).2.1 ≠ (TJ1 b).2.1 := by decide +kernel
theorem tyJ1_ok : ∀ k, k < 0 → parseFieldDescriptor (TJ1 k).2.2.1 = some (tyJ1 k) := by decide +kernel
abbrev cJ1_charAt_3b067 : ByteArray := prog_24_method_2_code
def yJ1_charAt_3b067 : MethodName := ⟨RJ1, "charAt", "([BI)C"⟩
def RJ2 : String := "java/lang/StringUTF16"
def TJ2 : u_T := fun k => match k with
  | _ => ("", "", "", false)
def tyJ2 : Nat → FieldType := fun k => match k with
  | _ => .int
theorem nmJ2 : ∀ a, a < 0 → ∀ b, b < 0 → a ≠ b → (TJ2 a).2.1 ≠ (TJ2 b).2.1 := by decide +kernel
theorem tyJ2_ok : ∀ k, k < 0 → parseFieldDescriptor (TJ2 k).2.2.1 = some (tyJ2 k) := by decide +kernel
def RJxfd54e : String := "java/lang/constant/Constable"
def TJxfd54e : u_T := fun k => match k with
  | _ => ("", "", "", false)
def tyJxfd54e : Nat → FieldType := fun k => match k with
  | _ => .int
theorem nmJxfd54e : ∀ a, a < 0 → ∀ b, b < 0 → a ≠ b → (TJxfd54e a).2.1 ≠ (TJxfd54e b).2.1 := by decide +kernel
theorem tyJxfd54e_ok : ∀ k, k < 0 → parseFieldDescriptor (TJxfd54e k).2.2.1 = some (tyJxfd54e k) := by decide +kernel
def RJx3cf43 : String := "java/lang/constant/ConstantDesc"
def TJx3cf43 : u_T := fun k => match k with
  | _ => ("", "", "", false)
def tyJx3cf43 : Nat → FieldType := fun k => match k with
  | _ => .int
theorem nmJx3cf43 : ∀ a, a < 0 → ∀ b, b < 0 → a ≠ b → (TJx3cf43 a).2.1 ≠ (TJx3cf43 b).2.1 := by decide +kernel
theorem tyJx3cf43_ok : ∀ k, k < 0 → parseFieldDescriptor (TJx3cf43 k).2.2.1 = some (tyJx3cf43 k) := by decide +kernel
def RJ3 : String := "jdk/internal/util/Preconditions"
def TJ3 : u_T := fun k => match k with
  | _ => ("", "", "", false)
def tyJ3 : Nat → FieldType := fun k => match k with
  | _ => .int
theorem nmJ3 : ∀ a, a < 0 → ∀ b, b < 0 → a ≠ b → (TJ3 a).2.1 ≠ (TJ3 b).2.1 := by decide +kernel
theorem tyJ3_ok : ∀ k, k < 0 → parseFieldDescriptor (TJ3 k).2.2.1 = some (tyJ3 k) := by decide +kernel
abbrev cJ3_checkIndex_8e157 : ByteArray := prog_30_method_11_code
def yJ3_checkIndex_8e157 : MethodName := ⟨RJ3, "checkIndex", "(IILjava/util/function/BiFunction;)I"⟩
def RL : String := "SagGatesLaw"
abbrev cL_look : ByteArray := method_3_code
def yL_look : MethodName := ⟨RL, "look", "(LSagGates;II[J)I"⟩
abbrev cL_law : ByteArray := code
def yL_law : MethodName := ⟨RL, "law", "([I)Z"⟩
abbrev vwCl : List vw_C := [(RX0, TX0, 8), (RX1, TX1, 17), (RX2, TX2, 5), (RX3, TX3, 11), (RX4, TX4, 20), (RX5, TX5, 6), (RX6, TX6, 7), (RX7, TX7, 17), (RX8, TX8, 3), (RX9, TX9, 4), (RX10, TX10, 3), (RX11, TX11, 16), (RX12, TX12, 69)]
end
section
/-! ===== an evaluator of bytecode over intervals: abstract values, cells, frames; what it says of the machine is proved in the next parts ===== -/
abbrev av_V : Type := Option Nat ⊕ ((Int × Int) ⊕ ((Int × Int) ⊕ Nat))
abbrev av_C : Type := (Nat × List av_V) ⊕ (Nat × List av_V)
abbrev av_H : Type := List av_C
abbrev av_Q : Type := Nat × Instr × Nat × Nat × Nat × Int
abbrev av_L : Type := List (Nat × av_V)
abbrev av_S : Type := Nat × av_L × List av_V × av_H × Nat × Nat
abbrev av_M : Type := (String × MethodName × ByteArray × Nat × Option FieldType) × List av_Q × Nat × Nat × Nat × Nat
abbrev av_i (a : Int × Int) : av_V := .inr (.inl a)
abbrev av_l (a : Int × Int) : av_V := .inr (.inr (.inl a))
abbrev av_r (k : Nat) : av_V := .inl (some k)
abbrev av_s (j : Nat) : av_V := .inr (.inr (.inr j))
def av_top : Int × Int := (-2147483648, 2147483647)
def av_c (x : Int32) : av_V := av_i (x.toInt, x.toInt)
def av_b2 (f : Int32 → Int32 → Int32) (a b : Int × Int) : Int × Int :=
  bif decide (a.1 = a.2) && decide (b.1 = b.2) then ((f (Int32.ofInt a.1) (Int32.ofInt b.1)).toInt, (f (Int32.ofInt a.1) (Int32.ofInt b.1)).toInt) else av_top
def av_u1 (f : Int32 → Int32) (a : Int × Int) : Int × Int :=
  bif decide (a.1 = a.2) then ((f (Int32.ofInt a.1)).toInt, (f (Int32.ofInt a.1)).toInt) else av_top
def av_mul (a b : Int × Int) : Int × Int :=
  bif decide (b.1 = b.2) && (decide (0 ≤ a.1) && (decide (0 ≤ b.1) && (decide (a.1 < a.2) && decide (a.2 * b.1 ≤ 2147483647)))) then (a.1 * b.1, a.2 * b.1) else av_b2 (fun x y => x * y) a b
def av_div (a b : Int × Int) : Option (Int × Int) :=
  bif decide (b.1 = b.2) && (decide (0 < b.1) && (decide (0 ≤ a.1) && decide (a.1 < a.2))) then some (0, a.2) else
  bif decide (b.1 = b.2) && (decide (a.1 = a.2) && !decide (b.1 = 0)) then some (av_b2 (fun x y => x / y) a b) else none
def av_rem (a b : Int × Int) : Option (Int × Int) :=
  bif decide (b.1 = b.2) && (decide (0 < b.1) && (decide (0 ≤ a.1) && decide (a.1 < a.2))) then some (0, b.1 - 1) else
  bif decide (b.1 = b.2) && (decide (a.1 = a.2) && !decide (b.1 = 0)) then some (av_b2 (fun x y => x - x / y * y) a b) else none
/-- binary operations on ints -/
def av_bin (q : Instr) : Option ((Int × Int) → (Int × Int) → Option (Int × Int)) := match q with
  | .iadd => some fun a b => some (av_b2 (fun x y => x + y) a b)
  | .isub => some fun a b => some (av_b2 (fun x y => x - y) a b)
  | .imul => some fun a b => some (av_mul a b)
  | .iand => some fun a b => some (av_b2 (fun x y => x &&& y) a b)
  | .ior => some fun a b => some (av_b2 (fun x y => x ||| y) a b)
  | .ishl => some fun a b => some (av_b2 (fun x y => x <<< (y &&& 31)) a b)
  | .ishr => some fun a b => some (av_b2 (fun x y => x >>> (y &&& 31)) a b)
  | .iushr => some fun a b => some (av_b2 (fun x y => (x.toUInt32 >>> (y.toUInt32 &&& Int32.toUInt32 31)).toInt32) a b)
  | .idiv => some av_div
  | .irem => some av_rem
  | _ => none
/-- what is pushed -/
def av_push (q : av_Q) : Option av_V := match q.2.1 with
  | .iconst n => some (av_c (Int32.ofInt n))
  | .bipush n => some (av_c (Int8.ofInt n).toInt32)
  | .sipush n => some (av_c (Int16.ofInt n).toInt32)
  | .ldc _ => some (bif q.2.2.2.1 == 0 then av_c (Int32.ofInt q.2.2.2.2.2) else av_s 0)
  | .ldc_w _ => some (av_c (Int32.ofInt q.2.2.2.2.2))
  | .ldc2_w _ => some (av_l ((Int64.ofInt q.2.2.2.2.2).toInt, (Int64.ofInt q.2.2.2.2.2).toInt))
  | .getstatic _ => some (bif q.2.2.2.1 == 0 then av_c 1 else av_s 3)
  | _ => none
def av_load (q : Instr) : Option (Nat × Nat) := match q with
  | .iload_n k => some (k.val, 1)
  | .iload k => some (k, 1)
  | .aload_n k => some (k.val, 2)
  | .aload k => some (k, 2)
  | _ => none
/-- 1: the local i gets an int; 2: a reference -/
def av_store (q : Instr) : Option (Nat × Nat) := match q with
  | .istore_n k => some (k.val, 1)
  | .istore k => some (k, 1)
  | .astore_n k => some (k.val, 2)
  | .astore k => some (k, 2)
  | _ => none
def av_isI : av_V → Bool
  | .inr (.inl _) => true
  | _ => false
def av_isL : av_V → Bool
  | .inr (.inr (.inl _)) => true
  | _ => false
def av_isR : av_V → Bool
  | .inl (some _) => true
  | _ => false
def av_isA : av_V → Bool
  | .inl _ => true
  | .inr (.inr (.inr _)) => true
  | _ => false
def av_get (L : av_L) (i : Nat) : Option av_V := (L.find? (fun q => q.1 == i)).map Prod.snd
def av_set (L : av_L) (i : Nat) (v : av_V) : av_L := (i, v) :: L.filter (fun q => !(q.1 == i) && !(q.1 + 1 == i && av_isL q.2))
/-- always, never, or not known -/
def av_lt (a b : Int × Int) : Option Bool := bif decide (a.2 < b.1) then some true else bif decide (b.2 ≤ a.1) then some false else none
def av_eq (a b : Int × Int) : Option Bool := bif decide (a.1 = a.2) && (decide (b.1 = b.2) && decide (a.1 = b.1)) then some true else bif decide (a.2 < b.1) || decide (b.2 < a.1) then some false else none
def av_cmp (c : Jvm.ClassFile.Cond) (a b : Int × Int) : Option Bool := match c with
  | .lt => av_lt a b
  | .ge => (av_lt a b).map not
  | .gt => av_lt b a
  | .le => (av_lt b a).map not
  | .eq => av_eq a b
  | .ne => (av_eq a b).map not
def av_tgt (pc : Nat) (off : Int) : Nat := ((pc : Int) + off).toNat
def av_jmp (pc : Nat) (off : Int) : Bool := decide (((pc : Int) + off) = ((((pc : Int) + off).toNat : Nat) : Int))
def av_br (r : Option Bool) (t f : av_S) : List av_S := match r with
  | some true => [t]
  | some false => [f]
  | none => [t, f]
/-- does the value fit a place of this kind: 0 int, 1 byte, 2 boolean, 3 long, 4 and on references -/
def av_fit (t : Nat) (v : av_V) : Bool := match t, v with
  | 0, .inr (.inl _) => true
  | 1, .inr (.inl a) => decide (-128 ≤ a.1) && decide (a.2 ≤ 127)
  | 2, .inr (.inl a) => decide (0 ≤ a.1) && decide (a.2 ≤ 1)
  | 3, .inr (.inr (.inl _)) => true
  | 4, .inl _ => true
  | _, _ => false
/-- the hull of intervals -/
def av_hull : List av_V → Option (Int × Int)
  | [] => some (2147483647, -2147483648)
  | x :: l => match x, av_hull l with
    | .inr (.inl a), some b => some (bif decide (a.1 ≤ b.1) then a.1 else b.1, bif decide (a.2 ≤ b.2) then b.2 else a.2)
    | _, _ => none
/-- reading an array's element: kind t is wanted -/
def av_rd (xs : List av_V) (i : Int × Int) : Option av_V :=
  bif decide (0 ≤ i.1) && decide (i.2 < (xs.length : Int)) then
    bif decide (i.1 = i.2) then xs[i.1.toNat]? else (av_hull ((xs.drop i.1.toNat).take ((i.2 - i.1).toNat + 1))).map av_i
  else none
def av_dfl (t : Nat) : av_V := match t with
  | 3 => av_l (0, 0)
  | 4 => .inl none
  | 5 => .inl none
  | _ => av_i (0, 0)
/-- what an array's element may be: 0 int, 1 byte, 2 boolean, 3 long, 4 and 5 references -/
def av_ldk (q : Instr) : Option Nat := match q with
  | .iaload => some 0
  | .baload => some 1
  | .laload => some 3
  | .aaload => some 4
  | _ => none
def av_stk (q : Instr) : Option Nat := match q with
  | .iastore => some 0
  | .bastore => some 1
  | .aastore => some 4
  | _ => none
/-- static rows: the bytes of the text (1) and the script (2) -/
abbrev av_X : Type := List av_V × Option (List av_V)
def av_row (X : av_X) (j : Nat) : Option (List av_V) := match j with
  | 1 => some X.1
  | 2 => X.2
  | _ => none
/-- the kinds of the fields of a class's objects -/
abbrev av_F : Type := List (List Nat)
def av_one (X : av_X) (F : av_F) (q : av_Q) (S : av_S) : Option (List av_S) :=
  let pc := S.1
  let L := S.2.1
  let st := S.2.2.1
  let h := S.2.2.2.1
  let c := S.2.2.2.2.1
  let n := S.2.2.2.2.2
  let nx := pc + q.2.2.1
  match av_push q with
  | some v => some [(nx, L, v :: st, h, c, n)]
  | none =>
  match av_load q.2.1 with
  | some (i, k) => match av_get L i with
    | some v => bif (bif k == 1 then av_isI v else av_isA v) then some [(nx, L, v :: st, h, c, n)] else none
    | none => none
  | none =>
  match av_store q.2.1 with
  | some (i, k) => match st with
    | v :: st => bif (bif k == 1 then av_isI v else av_isR v) then some [(nx, av_set L i v, st, h, c, n)] else none
    | _ => none
  | none =>
  match av_bin q.2.1 with
  | some f => match st with
    | .inr (.inl b) :: .inr (.inl a) :: st => (f a b).map fun r => [(nx, L, av_i r :: st, h, c, n)]
    | _ => none
  | none =>
  match av_ldk q.2.1 with
  | some t => match st with
    | .inr (.inl i) :: .inl (some k) :: st => match h[k]? with
      | some (.inl (t', xs)) => bif t' == t || (t == 1 && t' == 2) || (t == 4 && t' == 5) then (av_rd xs i).map fun v => [(nx, L, v :: st, h, c, n)] else none
      | _ => none
    | .inr (.inl i) :: .inr (.inr (.inr j)) :: st => match av_row X j with
      | some xs => bif t + j == 2 then (av_rd xs i).map fun v => [(nx, L, v :: st, h, c, n)] else none
      | none => none
    | _ => none
  | none =>
  match av_stk q.2.1 with
  | some t => match st with
    | v :: .inr (.inl i) :: .inl (some k) :: st => match h[k]? with
      | some (.inl (t', xs)) => bif (t' == t || (t == 1 && t' == 2) || (t == 4 && t' == 5)) && (decide (i.1 = i.2) && (decide (0 ≤ i.1) && (decide (i.1 < (xs.length : Int)) && bif t == 4 then (match v with
          | .inl (some j) => match h[j]? with
            | some (.inr (ci, _)) => ci == (bif t' == 4 then 1 else 7)
            | _ => false
          | _ => false) else av_fit t' v)))
          then some [(nx, L, st, h.set k (.inl (t', xs.set i.1.toNat v)), c, n)] else none
      | _ => none
    | _ => none
  | none =>
  match q.2.1 with
  | .getfield _ => match st with
    | .inl (some k) :: st => match h[k]? with
      | some (.inr (ci, fs)) => bif ci == q.2.2.2.1 then (fs[q.2.2.2.2.1]?).map fun v => [(nx, L, v :: st, h, c, n)] else none
      | _ => none
    | .inr (.inr (.inr 0)) :: st => bif q.2.2.2.1 == 100 then some [(nx, L, (bif q.2.2.2.2.1 == 0 then av_s 1 else av_c 0) :: st, h, c, n)] else none
    | _ => none
  | .putfield _ => match st with
    | v :: .inl (some k) :: st => match h[k]? with
      | some (.inr (ci, fs)) => bif ci == q.2.2.2.1 && (decide (q.2.2.2.2.1 < fs.length) && av_fit q.2.2.2.2.2.toNat v) then some [(nx, L, st, h.set k (.inr (ci, fs.set q.2.2.2.2.1 v)), c, n)] else none
      | _ => none
    | _ => none
  | .iinc i z => match av_get L i with
    | some (.inr (.inl a)) => some [(nx, av_set L i (av_i (av_b2 (fun x y => x + y) a (z, z))), st, h, c, n)]
    | _ => none
  | .goto off => bif av_jmp pc off then some [(av_tgt pc off, L, st, h, c, n)] else none
  | .if_icmp o off => match st with
    | .inr (.inl b) :: .inr (.inl a) :: st => bif av_jmp pc off then some (av_br (av_cmp o a b) (av_tgt pc off, L, st, h, c, n) (nx, L, st, h, c, n)) else none
    | _ => none
  | .ifCond o off => match st with
    | .inr (.inl a) :: st => bif av_jmp pc off then some (av_br (av_cmp o a (0, 0)) (av_tgt pc off, L, st, h, c, n) (nx, L, st, h, c, n)) else none
    | _ => none
  | .dup => match st with
    | v :: st => bif !av_isL v then some [(nx, L, v :: v :: st, h, c, n)] else none
    | _ => none
  | .pop => match st with
    | v :: st => bif !av_isL v then some [(nx, L, st, h, c, n)] else none
    | _ => none
  | .dup2 => match st with
    | v :: w :: st => bif !av_isL v && !av_isL w then some [(nx, L, v :: w :: v :: w :: st, h, c, n)] else none
    | _ => none
  | .arraylength => match st with
    | .inl (some k) :: st => match h[k]? with
      | some (.inl (_, xs)) => some [(nx, L, av_c (Int32.ofNat xs.length) :: st, h, c, n)]
      | _ => none
    | .inr (.inr (.inr j)) :: st => (av_row X j).map fun xs => [(nx, L, av_c (Int32.ofNat xs.length) :: st, h, c, n)]
    | _ => none
  | .i2c => match st with
    | .inr (.inl a) :: st => some [(nx, L, av_i (av_u1 (fun x => (x.toUInt32 % 65536).toInt32) a) :: st, h, c, n)]
    | _ => none
  | .i2b => match st with
    | .inr (.inl a) :: st => some [(nx, L, av_i (bif decide (a.1 = a.2) then av_u1 (fun x => x.toInt8.toInt32) a else (-128, 127)) :: st, h, c, n)]
    | _ => none
  | .lcmp => match st with
    | .inr (.inr (.inl b)) :: .inr (.inr (.inl a)) :: st => bif decide (a.1 = a.2) && (decide (b.1 = b.2) && decide (a.1 = b.1)) then some [(nx, L, av_c 0 :: st, h, c, n)] else none
    | _ => none
  | .tableswitch d lo hi offs => match st with
    | .inr (.inl a) :: st => bif decide (a.2 < lo) || decide (hi < a.1) then (bif av_jmp pc d then some [(av_tgt pc d, L, st, h, c, n)] else none) else
      bif decide (a.1 = a.2) && (decide (lo ≤ a.1) && decide (a.1 ≤ hi)) then (match offs[(a.1 - lo).toNat]? with
        | some off => bif av_jmp pc off then some [(av_tgt pc off, L, st, h, c, n)] else none
        | none => none) else none
    | _ => none
  | _ => none
/-- what makes cells -/
def av_mk (mc ms : Nat) (F : av_F) (q : av_Q) (S : av_S) : Option av_S :=
  let pc := S.1
  let L := S.2.1
  let st := S.2.2.1
  let h := S.2.2.2.1
  let c := S.2.2.2.2.1
  let n := S.2.2.2.2.2
  let nx := pc + q.2.2.1
  match q.2.1 with
  | .new _ => match F[q.2.2.2.1]? with
    | some ks => bif decide (c + 1 ≤ mc) && decide (n + ks.length ≤ ms) then some (nx, L, av_r h.length :: st, h ++ [.inr (q.2.2.2.1, ks.map av_dfl)], c + 1, n + ks.length) else none
    | none => none
  | .newarray _ => match st with
    | .inr (.inl a) :: st => bif decide (a.1 = a.2) && (decide (0 ≤ a.1) && (decide (a.1 ≤ 10000) && (decide (q.2.2.2.1 ≤ 3) && (decide (c + 1 ≤ mc) && decide (n + a.1.toNat ≤ ms))))) then
        some (nx, L, av_r h.length :: st, h ++ [.inl (q.2.2.2.1, List.replicate a.1.toNat (av_dfl q.2.2.2.1))], c + 1, n + a.1.toNat) else none
    | _ => none
  | .anewarray _ => match st with
    | .inr (.inl a) :: st => bif decide (a.1 = a.2) && (decide (0 ≤ a.1) && (decide (a.1 ≤ 10000) && ((q.2.2.2.1 == 4 || q.2.2.2.1 == 5) && (decide (c + 1 ≤ mc) && decide (n + a.1.toNat ≤ ms))))) then
        some (nx, L, av_r h.length :: st, h ++ [.inl (q.2.2.2.1, List.replicate a.1.toNat (.inl none))], c + 1, n + a.1.toNat) else none
    | _ => none
  | _ => none
def av_all {α β : Type} (f : α → Option (List β)) : List α → Option (List β)
  | [] => some []
  | x :: l => match f x with
    | none => none
    | some a => match av_all f l with
      | none => none
      | some b => some (a ++ b)
def av_from (pc : Nat) : List av_Q → List av_Q
  | [] => []
  | q :: l => bif q.1 == pc then q :: l else av_from pc l
def av_ent (i : Nat) : List av_V → av_L
  | [] => []
  | v :: l => (i, v) :: av_ent (i + 1) l
def av_wid (st : List av_V) : Nat := (st.map fun v => bif av_isL v then 2 else 1).sum
/-- a callee's room within the caller's -/
def av_fits (M M' : av_M) (c n na : Nat) (rest : List av_V) : Bool :=
  decide (na ≤ M'.1.2.2.2.1) && (  decide (c + M'.2.2.1 ≤ M.2.2.1) && (decide (n + M'.2.2.2.1 ≤ M.2.2.2.1) && (decide (M'.2.2.2.2.1 + 1 ≤ M.2.2.2.2.1) && (decide (8 + (M'.1.2.2.2.1 + 11) + M'.2.2.2.2.2 ≤ M.2.2.2.2.2) && decide (av_wid rest ≤ 8)))))
/-- the call's callee, its arguments, the rest of the stack; 0 virtual, 1 special, 2 static -/
def av_call (q : av_Q) (S : av_S) : Option (Nat × List av_V × List av_V) :=
  let st := S.2.2.1
  let h := S.2.2.2.1
  let np := q.2.2.2.2.1
  bif decide (np ≤ st.length) && (st.take np).all (fun v => !av_isL v) then
    match q.2.1 with
    | .invokestatic _ => some (q.2.2.2.1, (st.take np).reverse, st.drop np)
    | .invokevirtual _ => match st.drop np with
      | .inl (some k) :: rest => match h[k]? with
        | some (.inr (ci, _)) => bif ci == q.2.2.2.2.2.toNat then some (q.2.2.2.1, av_r k :: (st.take np).reverse, rest) else none
        | _ => none
      | .inr (.inr (.inr 0)) :: rest => bif q.2.2.2.2.2.toNat == 100 then some (q.2.2.2.1, av_s 0 :: (st.take np).reverse, rest) else none
      | _ => none
    | .invokespecial _ => match st.drop np with
      | .inl (some k) :: rest => some (q.2.2.2.1, av_r k :: (st.take np).reverse, rest)
      | _ => none
    | _ => none
  else none
/-- a return: what is returned -/
def av_ret (M : av_M) (q : av_Q) (S : av_S) : Option (Option av_V) :=
  bif decide (S.2.2.2.2.1 ≤ M.2.2.1) && decide (S.2.2.2.2.2 ≤ M.2.2.2.1) then
  match q.2.1, S.2.2.1, M.1.2.2.2.2 with
  | .ireturn, [.inr (.inl a)], some .int => some (some (av_i a))
  | .ireturn, [.inr (.inl a)], some .boolean => bif av_fit 2 (av_i a) then some (some (av_i a)) else none
  | .ireturn, [.inr (.inl a)], some .byte => bif av_fit 1 (av_i a) then some (some (av_i a)) else none
  | .ireturn, [.inr (.inl a)], some .char => bif decide (0 ≤ a.1) && decide (a.2 ≤ 65535) then some (some (av_i a)) else none
  | .lreturn, [.inr (.inr (.inl a))], some .long => some (some (av_l a))
  | .return_, [], none => some none
  | _, _, _ => none
  else none
abbrev av_O : Type := List (Option av_V × av_H)
/-- Object.<init> -/
def av_obj (M : av_M) (q : av_Q) (S : av_S) : Option av_S := match q.2.1 with
  | .invokespecial _ => bif q.2.2.2.1 == 9999 then (match S.2.2.1 with
    | .inl (some _) :: rest => bif decide (1 ≤ M.2.2.2.2.1) && decide (av_wid rest + 12 ≤ M.2.2.2.2.2) then some (S.1 + q.2.2.1, S.2.1, rest, S.2.2.2) else none
    | _ => none) else none
  | _ => none
noncomputable def av_run (F : av_F) (mt : Nat → av_M) (fuel : Nat) : av_X → Nat → List av_Q → av_S → Option av_O :=
  Nat.rec (motive := fun _ => av_X → Nat → List av_Q → av_S → Option av_O) (fun _ _ _ _ => none) (fun _ ih X mi sfx S =>
    match sfx with
    | [] => none
    | q :: rest =>
      bif q.1 == S.1 then
        match av_one X F q S with
        | some ss => av_all (fun S' => ih X mi (bif S'.1 == S.1 + q.2.2.1 then rest else av_from S'.1 (mt mi).2.1) S') ss
        | none =>
        match av_mk (mt mi).2.2.1 (mt mi).2.2.2.1 F q S with
        | some S' => ih X mi rest S'
        | none =>
        match av_obj (mt mi) q S with
        | some S' => ih X mi rest S'
        | none =>
        match av_call q S with
        | some (j, args, stk) =>
          bif av_fits (mt mi) (mt j) S.2.2.2.2.1 S.2.2.2.2.2 args.length stk then
            match ih (X.1, none) j (mt j).2.1 (0, av_ent 0 args, [], S.2.2.2.1, 0, 0) with
            | some outs => av_all (fun (o : Option av_V × av_H) => ih X mi rest (S.1 + q.2.2.1, S.2.1, o.1.toList ++ stk, o.2, S.2.2.2.2.1 + (mt j).2.2.1, S.2.2.2.2.2 + (mt j).2.2.2.1)) outs
            | none => none
          else none
        | none =>
        match av_ret (mt mi) q S with
        | some r => some [(r, S.2.2.2.1)]
        | none => none
      else none) fuel
end
section
/-! ===== what the abstract values, cells and frames say of the machine's ===== -/
def av_dn (sv : Nat → Value) (as : List Nat) (v : av_V) (x : Value) : Prop := match v with
  | .inl none => x = .null
  | .inl (some k) => ∃ a : Nat, as[k]? = some a ∧ x = .ref a
  | .inr (.inl a) => ∃ n : Int32, x = .int n ∧ a.1 ≤ n.toInt ∧ n.toInt ≤ a.2
  | .inr (.inr (.inl a)) => ∃ n : Int64, x = .long n ∧ a.1 ≤ n.toInt ∧ n.toInt ≤ a.2
  | .inr (.inr (.inr j)) => x = sv j
theorem av_pre {as as' : List Nat} (h : as <+: as') {k a : Nat} (hk : as[k]? = some a) : as'[k]? = some a := by
  obtain ⟨t, rfl⟩ := h
  rw [List.getElem?_append_left (List.getElem?_eq_some_iff.mp hk).1]
  exact hk
theorem av_dn_up {sv : Nat → Value} {as as' : List Nat} (h : as <+: as') {v : av_V} {x : Value} (hd : av_dn sv as v x) : av_dn sv as' v x := by
  match v, hd with
  | .inl none, hd => exact hd
  | .inl (some k), ⟨a, h1, h2⟩ => exact ⟨a, av_pre h h1, h2⟩
  | .inr (.inl a), hd => exact hd
  | .inr (.inr (.inl a)), hd => exact hd
  | .inr (.inr (.inr j)), hd => exact hd
theorem av_dn_c {sv : Nat → Value} {as : List Nat} (x : Int32) : av_dn sv as (av_c x) (.int x) := ⟨x, rfl, Int.le_refl _, Int.le_refl _⟩
def av_relS (sv : Nat → Value) (as : List Nat) : List av_V → List Value → Prop
  | [], [] => True
  | v :: l, x :: r => av_dn sv as v x ∧ av_relS sv as l r
  | _, _ => False
theorem av_relS_up {sv : Nat → Value} {as as' : List Nat} (h : as <+: as') : ∀ {l : List av_V} {r : List Value}, av_relS sv as l r → av_relS sv as' l r
  | [], [], _ => trivial
  | _ :: _, _ :: _, ⟨h1, h2⟩ => ⟨av_dn_up h h1, av_relS_up h h2⟩
  | [], _ :: _, hh => hh.elim
  | _ :: _, [], hh => hh.elim
theorem av_relS_cons {sv : Nat → Value} {as : List Nat} {v : av_V} {l : List av_V} {r : List Value} (h : av_relS sv as (v :: l) r) : ∃ x r', r = x :: r' ∧ av_dn sv as v x ∧ av_relS sv as l r' := by
  cases r with
  | nil => exact h.elim
  | cons x r' => exact ⟨x, r', rfl, h.1, h.2⟩
theorem av_relS_nil {sv : Nat → Value} {as : List Nat} {r : List Value} (h : av_relS sv as [] r) : r = [] := by
  cases r with
  | nil => rfl
  | cons x r' => exact h.elim
theorem av_relS_len {sv : Nat → Value} {as : List Nat} : ∀ {l : List av_V} {r : List Value}, av_relS sv as l r → r.length = l.length
  | [], [], _ => rfl
  | _ :: _, _ :: _, ⟨_, h2⟩ => by simp [av_relS_len h2]
  | [], _ :: _, hh => hh.elim
  | _ :: _, [], hh => hh.elim
theorem av_relS_app {sv : Nat → Value} {as : List Nat} : ∀ {l1 l2 : List av_V} {r1 r2 : List Value}, av_relS sv as l1 r1 → av_relS sv as l2 r2 → av_relS sv as (l1 ++ l2) (r1 ++ r2)
  | [], _, [], _, _, h => h
  | _ :: _, _, _ :: _, _, ⟨a, b⟩, h => ⟨a, av_relS_app b h⟩
  | [], _, _ :: _, _, hh, _ => hh.elim
  | _ :: _, _, [], _, hh, _ => hh.elim
theorem av_relS_rev {sv : Nat → Value} {as : List Nat} : ∀ {l : List av_V} {r : List Value}, av_relS sv as l r → av_relS sv as l.reverse r.reverse
  | [], [], _ => trivial
  | v :: l, x :: r, ⟨a, b⟩ => by
    rw [List.reverse_cons, List.reverse_cons]
    exact av_relS_app (av_relS_rev b) ⟨a, trivial⟩
  | [], _ :: _, hh => hh.elim
  | _ :: _, [], hh => hh.elim
theorem av_relS_take {sv : Nat → Value} {as : List Nat} : ∀ (n : Nat) {l : List av_V} {r : List Value}, av_relS sv as l r → av_relS sv as (l.take n) (r.take n)
  | 0, _, _, _ => trivial
  | n + 1, [], [], _ => trivial
  | n + 1, _ :: _, _ :: _, ⟨a, b⟩ => ⟨a, av_relS_take n b⟩
  | _ + 1, [], _ :: _, hh => hh.elim
  | _ + 1, _ :: _, [], hh => hh.elim
theorem av_relS_drop {sv : Nat → Value} {as : List Nat} : ∀ (n : Nat) {l : List av_V} {r : List Value}, av_relS sv as l r → av_relS sv as (l.drop n) (r.drop n)
  | 0, _, _, h => h
  | n + 1, [], [], _ => trivial
  | n + 1, _ :: _, _ :: _, ⟨a, b⟩ => av_relS_drop n b
  | _ + 1, [], _ :: _, hh => hh.elim
  | _ + 1, _ :: _, [], hh => hh.elim
theorem av_cat {sv : Nat → Value} (hsv : ∀ j, sv j = .null ∨ ∃ a, sv j = .ref a) {as : List Nat} {v : av_V} {x : Value} (h : av_dn sv as v x) : x.category = bif av_isL v then 2 else 1 := by
  match v, h with
  | .inl none, h => subst h; rfl
  | .inl (some k), ⟨a, _, h⟩ => subst h; rfl
  | .inr (.inl a), ⟨n, h, _⟩ => subst h; rfl
  | .inr (.inr (.inl a)), ⟨n, h, _⟩ => subst h; rfl
  | .inr (.inr (.inr j)), h =>
    rcases hsv j with h' | ⟨a, h'⟩
    · rw [show x = sv j from h, h']; rfl
    · rw [show x = sv j from h, h']; rfl
theorem av_wid_ok {sv : Nat → Value} (hsv : ∀ j, sv j = .null ∨ ∃ a, sv j = .ref a) {as : List Nat} : ∀ {l : List av_V} {r : List Value}, av_relS sv as l r → (r.map fun v => v.category).sum = av_wid l
  | [], [], _ => rfl
  | v :: l, x :: r, ⟨a, b⟩ => by
    have h1 := av_wid_ok hsv b
    have h2 := av_cat hsv a
    simp only [av_wid, List.map_cons, List.sum_cons] at h1 ⊢
    rw [h1, h2]
  | [], _ :: _, hh => hh.elim
  | _ :: _, [], hh => hh.elim
/-- locals -/
def av_relL (sv : Nat → Value) (as : List Nat) (nL : Nat) (L : av_L) (ls : Array Slot) : Prop := ∃ lv : List (Nat × Value), lv_has ls nL lv ∧ ∀ q ∈ L, ∃ x, av_dn sv as q.2 x ∧ (q.1, x) ∈ lv
theorem av_relL_up {sv : Nat → Value} {as as' : List Nat} (h : as <+: as') {nL : Nat} {L : av_L} {ls : Array Slot} (hl : av_relL sv as nL L ls) : av_relL sv as' nL L ls := by
  obtain ⟨lv, h1, h2⟩ := hl
  exact ⟨lv, h1, fun q hq => by obtain ⟨x, a, b⟩ := h2 q hq; exact ⟨x, av_dn_up h a, b⟩⟩
theorem av_get_mem {L : av_L} {i : Nat} {v : av_V} (h : av_get L i = some v) : (i, v) ∈ L := by
  unfold av_get at h
  cases hf : L.find? (fun q => q.1 == i) with
  | none => rw [hf] at h; cases h
  | some q =>
    rw [hf] at h
    cases h
    have h1 := List.find?_some hf
    have h2 : q.1 = i := by simpa using h1
    have h3 := List.mem_of_find?_eq_some hf
    rw [← h2]
    exact h3
theorem av_relL_get {sv : Nat → Value} {as : List Nat} {nL : Nat} {L : av_L} {ls : Array Slot} (hl : av_relL sv as nL L ls) {i : Nat} {v : av_V} (h : av_get L i = some v) : ∃ x, av_dn sv as v x ∧ ls[i]? = some (.val x) := by
  obtain ⟨lv, h1, h2⟩ := hl
  obtain ⟨x, a, b⟩ := h2 _ (av_get_mem h)
  exact ⟨x, a, h1.2.2 _ b⟩
theorem av_relL_set {sv : Nat → Value} (hsv : ∀ j, sv j = .null ∨ ∃ a, sv j = .ref a) {as : List Nat} {L : av_L} {lv : List (Nat × Value)} (h2 : ∀ q ∈ L, ∃ x, av_dn sv as q.2 x ∧ (q.1, x) ∈ lv) {nL i : Nat} {v : av_V} {x : Value} (hd : av_dn sv as v x) {ls' : Array Slot}
    (h : lv_has ls' nL ((i, x) :: lv.filter (fun q => !(q.1 == i) && !(q.1 + 1 == i && q.2.category == 2)))) : av_relL sv as nL (av_set L i v) ls' := by
  refine ⟨_, h, fun q hq => ?_⟩
  rcases List.mem_cons.mp hq with rfl | hq
  · exact ⟨x, hd, List.mem_cons_self⟩
  · obtain ⟨hq1, hq2⟩ := List.mem_filter.mp hq
    obtain ⟨y, a, b⟩ := h2 q hq1
    refine ⟨y, a, List.mem_cons_of_mem _ (List.mem_filter.mpr ⟨b, ?_⟩)⟩
    have hc := av_cat hsv a
    dsimp only at hq2 ⊢
    rw [hc]
    cases hL : av_isL q.2 with
    | true => rw [hL] at hq2; simpa using hq2
    | false => rw [hL] at hq2; simpa using hq2
/-- cells -/
def av_relE (cy : Nat → ClassId) (sv : Nat → Value) (as : List Nat) (c : av_C) (e : va_E) : Prop := match c with
  | .inr (ci, xs) => ∃ fs : List Value, e = .inr (ci, fs) ∧ fs.length = xs.length ∧ ∀ (k : Nat) (v : av_V), xs[k]? = some v → ∃ x, fs[k]? = some x ∧ av_dn sv as v x
  | .inl (t, xs) => (t ≤ 2 ∧ ∃ f : Nat → Int32, e = .inl (cy t, xs.length, .inl f) ∧ ∀ (k : Nat) (v : av_V), xs[k]? = some v → av_dn sv as v (.int (f k))) ∨
      (t = 3 ∧ ∃ f : Nat → Int64, e = .inl (cy t, xs.length, .inr (.inl f)) ∧ ∀ (k : Nat) (v : av_V), xs[k]? = some v → av_dn sv as v (.long (f k))) ∨
      ((t = 4 ∨ t = 5) ∧ ∃ f : Nat → Option Nat, e = .inl (cy t, xs.length, .inr (.inr (.inr (.inr f)))) ∧ ∀ (k : Nat) (v : av_V), xs[k]? = some v → av_dn sv as v (va_rf (f k)))
theorem av_relE_up {cy : Nat → ClassId} {sv : Nat → Value} {as as' : List Nat} (h : as <+: as') {c : av_C} {e : va_E} (hE : av_relE cy sv as c e) : av_relE cy sv as' c e := by
  match c, hE with
  | .inr (ci, xs), ⟨fs, h1, h2, h3⟩ => exact ⟨fs, h1, h2, fun k v hk => by obtain ⟨x, a, b⟩ := h3 k v hk; exact ⟨x, a, av_dn_up h b⟩⟩
  | .inl (t, xs), .inl ⟨h1, f, h2, h3⟩ => exact .inl ⟨h1, f, h2, fun k v hk => av_dn_up h (h3 k v hk)⟩
  | .inl (t, xs), .inr (.inl ⟨h1, f, h2, h3⟩) => exact .inr (.inl ⟨h1, f, h2, fun k v hk => av_dn_up h (h3 k v hk)⟩)
  | .inl (t, xs), .inr (.inr ⟨h1, f, h2, h3⟩) => exact .inr (.inr ⟨h1, f, h2, fun k v hk => av_dn_up h (h3 k v hk)⟩)
def av_relH (cy : Nat → ClassId) (sv : Nat → Value) (as : List Nat) (h : av_H) (ws : va_W) : Prop :=
  as.length = h.length ∧ ws.length = h.length ∧ ∀ (k : Nat) (c : av_C), h[k]? = some c → ∃ (a : Nat) (e : va_E), as[k]? = some a ∧ ws[k]? = some (a, e) ∧ av_relE cy sv as c e
theorem av_relH_set {cy : Nat → ClassId} {sv : Nat → Value} {as : List Nat} {h : av_H} {ws : va_W} (hH : av_relH cy sv as h ws) {k a : Nat} {c : av_C} {e : va_E} (ha : as[k]? = some a) (hE : av_relE cy sv as c e) : av_relH cy sv as (h.set k c) (ws.set k (a, e)) := by
  obtain ⟨h1, h2, h3⟩ := hH
  refine ⟨by simpa using h1, by simpa using h2, fun j c' hj => ?_⟩
  by_cases hjk : k = j
  · subst hjk
    have hlt : k < h.length := by
      have := (List.getElem?_eq_some_iff.mp ha).1
      omega
    rw [List.getElem?_set_self hlt] at hj
    cases hj
    exact ⟨a, e, ha, List.getElem?_set_self (by omega), hE⟩
  · rw [List.getElem?_set_ne hjk] at hj
    obtain ⟨a', e', q1, q2, q3⟩ := h3 j c' hj
    exact ⟨a', e', q1, by rw [List.getElem?_set_ne hjk]; exact q2, q3⟩
theorem av_relH_push {cy : Nat → ClassId} {sv : Nat → Value} {as : List Nat} {h : av_H} {ws : va_W} (hH : av_relH cy sv as h ws) {q : Nat} {c : av_C} {e : va_E} (hE : av_relE cy sv (as ++ [q]) c e) : av_relH cy sv (as ++ [q]) (h ++ [c]) (ws ++ [(q, e)]) := by
  obtain ⟨h1, h2, h3⟩ := hH
  refine ⟨by simp [h1], by simp [h2], fun j c' hj => ?_⟩
  by_cases hjl : j < h.length
  · rw [List.getElem?_append_left hjl] at hj
    obtain ⟨a', e', q1, q2, q3⟩ := h3 j c' hj
    exact ⟨a', e', by rw [List.getElem?_append_left (by omega)]; exact q1, by rw [List.getElem?_append_left (by omega)]; exact q2, av_relE_up (List.prefix_append _ _) q3⟩
  · have hj2 := (List.getElem?_eq_some_iff.mp hj).1
    simp only [List.length_append, List.length_cons, List.length_nil] at hj2
    have hj3 : j = h.length := by omega
    subst hj3
    rw [List.getElem?_append_right (Nat.le_refl _)] at hj
    simp only [Nat.sub_self, List.getElem?_cons_zero, Option.some.injEq] at hj
    subst hj
    exact ⟨q, e, by rw [List.getElem?_append_right (by omega)]; simp [h1], by rw [List.getElem?_append_right (by omega)]; simp [h2], hE⟩
def av_tys (cy : Nat → ClassId) : List (ClassId × FieldType) := [(cy 0, .int), (cy 1, .byte), (cy 2, .boolean), (cy 3, .long), (cy 4, .object "SagGates$Gate"), (cy 5, .object "SagGates$Told")]
end
section
/-! ===== the context of a frame, what an instruction's row says, the goal at an abstract frame ===== -/
def av_wd : String := "ground law gate work cause lean open bend knock hooks post brace latch child gap rise has up down square wire wheel stones rehang pull firm deep thick drop week fall and or not "
/-- the private constructors that the host calls -/
def av_nest : List (Nat × MethodName) := [(36, ⟨"SagGates$Laws", "<init>", "()V"⟩), (72, ⟨"SagGates$Notes", "<init>", "()V"⟩), (91, ⟨"SagGates$Turns", "<init>", "()V"⟩)]
def av_SF (A : Nat → Prop) (sv : Nat → Value) (X : av_X) (U : State) (H : Heap) : Prop :=
  ((∀ j, sv j = .null ∨ ∃ a, sv j = .ref a)) ∧
  (∃ q0 q1 : Nat, sv 0 = .ref q0 ∧ sv 1 = .ref q1 ∧ vk_R RX6 19 av_wd q0 U ∧ va_O "java/lang/String" q0 A U H ∧ va_OF "java/lang/String" "value" "[B" (.ref q1) q0 A U H ∧ va_OF "java/lang/String" "coder" "B" (.int 0) q0 A U H ∧
    ∃ f : Nat → Int32, va_T .byte q1 X.1.length (fun j => .int (f j)) A U H ∧ ∀ (k : Nat) (v : av_V), X.1[k]? = some v → av_dn sv [] v (.int (f k))) ∧
  va_Z "java/lang/String" "COMPACT_STRINGS" "Z" (.int 1) A U H ∧ va_Z "jdk/internal/util/Preconditions" "SIOOBE_FORMATTER" "Ljava/util/function/BiFunction;" (sv 3) A U H ∧
  (∀ q ∈ av_nest, va_Nw (.methodLinkNest RX11 q.1 q.2 RX11) U) ∧
  ∀ xs, X.2 = some xs → ∃ (b : Nat) (f : Nat → Int32), sv 2 = .ref b ∧ va_X b xs.length f U H ∧ b < H.size ∧ ¬ A b ∧ ∀ (k : Nat) (v : av_V), xs[k]? = some v → av_dn sv [] v (.int (f k))
theorem av_SF_call {A : Nat → Prop} {sv : Nat → Value} {X : av_X} {s U : State} {H : Heap} {locs : List Loc} (h : av_SF A sv X s s.heap) (hW : s.WarmedH U.vm) (hU : U.heap = H) (hS : va_S A s.heap H locs) : av_SF A sv (X.1, none) U U.heap := by
  obtain ⟨h0, ⟨q0, q1, a1, a2, a3, a4, a5, a6, f, a7, a8⟩, h2, h3, h4, -⟩ := h
  have hvm := hW.alike
  subst hU
  refine ⟨h0, ⟨q0, q1, a1, a2, a3.warm hW, (a4.moved hvm).kept hS.2.1, (a5.moved hvm).kept hS.2.1, (a6.moved hvm).kept hS.2.1, f, (a7.moved hvm).kept hS.2.1, a8⟩, (h2.moved hvm).kept hS.2.1, (h3.moved hvm).kept hS.2.1, fun q hq => va_Nw.warmM hW (h4 q hq), fun xs hx => by cases hx⟩
theorem av_SF_in {A : Nat → Prop} {sv : Nat → Value} {X : av_X} {U : State} (h : av_SF A sv X U U.heap) (g : JFrame) (mk : MethodId) (a : Array Value) : av_SF A sv X (U.calling g mk a) (U.calling g mk a).heap := by
  obtain ⟨h0, ⟨q0, q1, a1, a2, a3, a4, a5, a6, f, a7, a8⟩, h2, h3, h4, h5⟩ := h
  have hvm : U.vm.Alike (U.calling g mk a).vm := Vm.Alike.refl U.vm
  exact ⟨h0, ⟨q0, q1, a1, a2, vk_R.same (u := U) rfl a3, a4.moved hvm, a5.moved hvm, a6.moved hvm, f, a7.moved hvm, a8⟩, h2.moved hvm, h3.moved hvm, fun q hq => va_Nw.same (u := U) rfl rfl (h4 q hq), fun xs hx => by
    obtain ⟨b, f, b1, b2, b3⟩ := h5 xs hx
    exact ⟨b, f, b1, b2.moved hvm, b3⟩⟩
def av_Cx (Ts : List Jvm.Cond) (cl : List vw_C) (D : va_G) (cy : Nat → ClassId) (A : Nat → Prop) (sv : Nat → Value) (X : av_X) (M : av_M) (p : Program) (R : Room) (s : State) (m : MethodId) (args : Array Value) (meth : Method) (c : Code) : Prop :=
  p.tables.exec = Jvm.exec ∧ c.code = M.1.2.2.1 ∧ c.maxLocals = M.1.2.2.2.1 ∧ s.vm.findClass M.1.1 = some m.cls ∧ (∀ w ∈ Ts, w.before args s = true) ∧ meth.sig.returnType = M.1.2.2.2.2 ∧ meth.locks = false ∧ meth.name = M.1.2.1.name ∧
  va_K D cl (av_tys cy) s ∧ (∀ q, s.heap.size ≤ q → A q) ∧ av_SF A sv X s s.heap ∧ R.cells = M.2.2.1 ∧ R.slots = M.2.2.2.1 ∧ M.2.2.2.2.1 ≤ R.frames ∧ M.2.2.2.2.2 ≤ R.locals
def av_Good (cl : List vw_C) (D : va_G) (cy : Nat → ClassId) (A : Nat → Prop) (sv : Nat → Value) (as0 : List Nat) (nL : Nat) (p : Program) (l : Launch) (e : Env) (R : Room) (s : State) (m : MethodId) (args : Array Value) (below : List Frame) (meth : Method) (c : Code) (Q : State → Prop) (S : av_S) : Prop :=
  ∀ (as : List Nat) (ws : va_W) (H : Heap) (locs : List Loc) (ls : Array Slot) (stv : List Value), as0 <+: as → av_relH cy sv as S.2.2.2.1 ws → va_P D cl ws H → va_D A ws → va_S A s.heap H locs → av_relL sv as nL S.2.1 ls → av_relS sv as S.2.2.1 stv →
    W p l e R s m args below meth c H locs S.2.2.2.2.1 S.2.2.2.2.2 Q (F0 m S.1 ls stv)
def av_len (q : Instr) : Nat := match q with
  | .bipush _ => 2
  | .sipush _ => 3
  | .ldc _ => 2
  | .ldc_w _ => 3
  | .ldc2_w _ => 3
  | .getstatic _ => 3
  | .iload _ => 2
  | .aload _ => 2
  | .istore _ => 2
  | .astore _ => 2
  | .getfield _ => 3
  | .putfield _ => 3
  | .iinc _ _ => 3
  | .goto _ => 3
  | .if_icmp _ _ => 3
  | .ifCond _ _ => 3
  | .new _ => 3
  | .newarray _ => 2
  | .anewarray _ => 3
  | .invokevirtual _ => 3
  | .invokespecial _ => 3
  | .invokestatic _ => 3
  | _ => 1
def av_lenok (q : av_Q) : Bool := match q.2.1 with
  | .tableswitch _ _ _ _ => true
  | i => q.2.2.1 == av_len i
def av_kd (t : FieldType) : Nat := match t with
  | .int => 0
  | .byte => 1
  | .boolean => 2
  | .long => 3
  | .object _ => 4
  | .array _ => 4
  | _ => 9
def av_ak (t : ArrayType) : Nat := match t with
  | .int => 0
  | .byte => 1
  | .boolean => 2
  | .long => 3
  | _ => 9
def av_lst (k : Nat) : String := bif k == 4 then "SagGates$Gate" else "SagGates$Told"
/-- a callee's own words -/
def av_okM (Ts : List Jvm.Cond) (M : av_M) : Prop :=
  Jvm.Cond.code M.1.2.1 M.1.2.2.1 M.1.2.2.2.1 M.1.2.2.2.2 ∈ Ts ∧ M.1.2.1.cls = M.1.1 ∧ Jvm.Cond.initialized M.1.1 ∈ Ts ∧ plainName M.1.2.1.cls = true ∧ (M.1.2.1.cls ≠ "java/lang/invoke/MethodHandle" ∧ M.1.2.1.cls ≠ "java/lang/invoke/VarHandle")
def av_ok (Ts : List Jvm.Cond) (cl : List vw_C) (mt : Nat → av_M) (M : av_M) (q : av_Q) : Prop :=
  decode M.1.2.2.1 q.1 = .ok (q.2.1, q.2.2.1) ∧ av_lenok q = true ∧ (match q.2.1 with
    | .ldc i => (q.2.2.2.1 = 0 → Jvm.Cond.constant M.1.1 i (Int32.ofInt q.2.2.2.2.2) ∈ Ts) ∧ (¬ q.2.2.2.1 = 0 → M.1.1 = RX6 ∧ i = 19)
    | .ldc_w i => Jvm.Cond.constant M.1.1 i (Int32.ofInt q.2.2.2.2.2) ∈ Ts
    | .ldc2_w i => Jvm.Cond.constantLong M.1.1 i (Int64.ofInt q.2.2.2.2.2) ∈ Ts
    | .getstatic i => (q.2.2.2.1 = 0 → Jvm.Cond.fieldLink M.1.1 i "java/lang/String" "COMPACT_STRINGS" "Z" ∈ Ts) ∧ (¬ q.2.2.2.1 = 0 → Jvm.Cond.fieldLink M.1.1 i "jdk/internal/util/Preconditions" "SIOOBE_FORMATTER" "Ljava/util/function/BiFunction;" ∈ Ts)
    | .getfield i => (q.2.2.2.1 = 100 → (q.2.2.2.2.1 = 0 → Jvm.Cond.fieldLink M.1.1 i "java/lang/String" "value" "[B" ∈ Ts) ∧ (¬ q.2.2.2.2.1 = 0 → Jvm.Cond.fieldLink M.1.1 i "java/lang/String" "coder" "B" ∈ Ts)) ∧
        (¬ q.2.2.2.1 = 100 → ∃ (C : String) (T : u_T) (N : Nat), cl[q.2.2.2.1]? = some (C, T, N) ∧ q.2.2.2.2.1 < N ∧ Jvm.Cond.fieldLink M.1.1 i (T q.2.2.2.2.1).1 (T q.2.2.2.2.1).2.1 (T q.2.2.2.2.1).2.2.1 ∈ Ts)
    | .putfield i => ∃ (C : String) (T : u_T) (N : Nat) (ty : FieldType), cl[q.2.2.2.1]? = some (C, T, N) ∧ q.2.2.2.2.1 < N ∧ Jvm.Cond.fieldLink M.1.1 i (T q.2.2.2.2.1).1 (T q.2.2.2.2.1).2.1 (T q.2.2.2.2.1).2.2.1 ∈ Ts ∧
        parseFieldDescriptor (T q.2.2.2.2.1).2.2.1 = some ty ∧ av_kd ty = q.2.2.2.2.2.toNat ∧ ((T q.2.2.2.2.1).2.2.2 = true → M.1.2.1.name = "<init>" ∧ (T q.2.2.2.2.1).1 = M.1.1)
    | .new i => ∃ (C : String) (T : u_T) (N : Nat), cl[q.2.2.2.1]? = some (C, T, N) ∧ Jvm.Cond.classLink M.1.1 i C ∈ Ts ∧ Jvm.Cond.instantiable C N ∈ Ts ∧ Jvm.Cond.initialized C ∈ Ts
    | .newarray t => Jvm.Cond.arrayClass (newarray.typeOf t) ∈ Ts ∧ av_ak t = q.2.2.2.1
    | .anewarray i => Jvm.Cond.classLink M.1.1 i (av_lst q.2.2.2.1) ∈ Ts ∧ Jvm.Cond.arrayOver (.object (av_lst q.2.2.2.1)) ∈ Ts
    | .iload_n k => k.val < M.1.2.2.2.1
    | .istore_n k => k.val < M.1.2.2.2.1
    | .istore k => k < M.1.2.2.2.1
    | .astore_n k => k.val < M.1.2.2.2.1
    | .astore k => k < M.1.2.2.2.1
    | .iinc k _ => k < M.1.2.2.2.1
    | .invokespecial i => (q.2.2.2.1 = 9999 → Jvm.Cond.methodLink M.1.1 i Lib.objectInit ∈ Ts ∧ Jvm.Cond.instanceMethod Lib.objectInit ∈ Ts ∧ Jvm.Cond.code Lib.objectInit ⟨#[0xb1]⟩ 1 none ∈ Ts) ∧
        (¬ q.2.2.2.1 = 9999 → av_okM Ts (mt q.2.2.2.1) ∧ (mt q.2.2.2.1).1.2.1.name = "<init>" ∧ (mt q.2.2.2.1).1.2.2.2.2 = none ∧ Jvm.Cond.instanceMethod (mt q.2.2.2.1).1.2.1 ∈ Ts ∧ (parseMethodDescriptor (mt q.2.2.2.1).1.2.1.desc).map (fun d => d.parameters.length) = some q.2.2.2.2.1 ∧
          (Jvm.Cond.methodLink M.1.1 i (mt q.2.2.2.1).1.2.1 ∈ Ts ∨ (M.1.1 = RX11 ∧ (i, (mt q.2.2.2.1).1.2.1) ∈ av_nest)))
    | .invokestatic i => av_okM Ts (mt q.2.2.2.1) ∧ Jvm.Cond.static (mt q.2.2.2.1).1.2.1 ∈ Ts ∧ (parseMethodDescriptor (mt q.2.2.2.1).1.2.1.desc).map (fun d => d.parameters.length) = some q.2.2.2.2.1 ∧ Jvm.Cond.methodLink M.1.1 i (mt q.2.2.2.1).1.2.1 ∈ Ts
    | .invokevirtual i => av_okM Ts (mt q.2.2.2.1) ∧ Jvm.Cond.instanceMethod (mt q.2.2.2.1).1.2.1 ∈ Ts ∧ Jvm.Cond.selects (mt q.2.2.2.1).1.1 (mt q.2.2.2.1).1.2.1 (mt q.2.2.2.1).1.2.1 ∈ Ts ∧ (parseMethodDescriptor (mt q.2.2.2.1).1.2.1.desc).map (fun d => d.parameters.length) = some q.2.2.2.2.1 ∧ Jvm.Cond.methodLink M.1.1 i (mt q.2.2.2.1).1.2.1 ∈ Ts ∧
        ((q.2.2.2.2.2.toNat = 100 ∧ (mt q.2.2.2.1).1.1 = "java/lang/String") ∨ ∃ (T : u_T) (N : Nat), cl[q.2.2.2.2.2.toNat]? = some ((mt q.2.2.2.1).1.1, T, N))
    | _ => True)
/-- the classes' tables -/
def av_cls (Ts : List Jvm.Cond) (cl : List vw_C) (F : av_F) : Prop := ∀ (ci : Nat) (C : String) (T : u_T) (N : Nat), cl[ci]? = some (C, T, N) →
  (∀ w ∈ u_ws C T N, w ∈ Ts) ∧ (∀ a, a < N → ∀ b, b < N → a ≠ b → (T a).2.1 ≠ (T b).2.1) ∧ ∃ (ty : Nat → FieldType) (ks : List Nat), (∀ k, k < N → parseFieldDescriptor (T k).2.2.1 = some (ty k)) ∧ F[ci]? = some ks ∧ ks.length = N ∧ ∀ k, k < N → ks[k]? = some (av_kd (ty k)) ∧ av_kd (ty k) ≤ 4 ∧ av_kd (ty k) ≠ 1
/-! the ints -/
theorem av_i32 (n : Int32) : -2147483648 ≤ n.toInt ∧ n.toInt ≤ 2147483647 := by
  have h1 := n.toInt_lt
  have h2 := n.le_toInt
  omega
theorem av_top_ok (n : Int32) : av_top.1 ≤ n.toInt ∧ n.toInt ≤ av_top.2 := av_i32 n
theorem av_one_of {a : Int} {x : Int32} (h1 : a ≤ x.toInt) (h2 : x.toInt ≤ a) : x = Int32.ofInt a := by
  have : a = x.toInt := by omega
  subst this
  exact (Int32.ofInt_toInt x).symm
theorem av_b2_ok (f : Int32 → Int32 → Int32) {a b : Int × Int} {x y : Int32} (hx : a.1 ≤ x.toInt ∧ x.toInt ≤ a.2) (hy : b.1 ≤ y.toInt ∧ y.toInt ≤ b.2) : (av_b2 f a b).1 ≤ (f x y).toInt ∧ (f x y).toInt ≤ (av_b2 f a b).2 := by
  unfold av_b2
  cases hc : (decide (a.1 = a.2) && decide (b.1 = b.2)) with
  | false => exact av_top_ok _
  | true =>
    simp only [Bool.and_eq_true, decide_eq_true_eq] at hc
    have e1 : x = Int32.ofInt a.1 := av_one_of hx.1 (by omega)
    have e2 : y = Int32.ofInt b.1 := av_one_of hy.1 (by omega)
    rw [cond_true, ← e1, ← e2]
    exact ⟨Int.le_refl _, Int.le_refl _⟩
theorem av_u1_ok (f : Int32 → Int32) {a : Int × Int} {x : Int32} (hx : a.1 ≤ x.toInt ∧ x.toInt ≤ a.2) : (av_u1 f a).1 ≤ (f x).toInt ∧ (f x).toInt ≤ (av_u1 f a).2 := by
  unfold av_u1
  cases hc : decide (a.1 = a.2) with
  | false => exact av_top_ok _
  | true =>
    simp only [decide_eq_true_eq] at hc
    have e1 : x = Int32.ofInt a.1 := av_one_of hx.1 (by omega)
    rw [cond_true, ← e1]
    exact ⟨Int.le_refl _, Int.le_refl _⟩
theorem av_nat {x : Int32} (h : 0 ≤ x.toInt) : ∃ j : Nat, j < 2 ^ 31 ∧ x = nI j ∧ x.toInt = j := by
  obtain ⟨j, h1, h2⟩ := nI_of (x := x) (fun q => by rw [Int32.lt_iff_toInt_lt] at q; simp at q; omega)
  exact ⟨j, h1, h2, by rw [h2]; exact nI_toInt h1⟩
theorem av_mul_ok {a b : Int × Int} {x y : Int32} (hx : a.1 ≤ x.toInt ∧ x.toInt ≤ a.2) (hy : b.1 ≤ y.toInt ∧ y.toInt ≤ b.2) : (av_mul a b).1 ≤ (x * y).toInt ∧ (x * y).toInt ≤ (av_mul a b).2 := by
  unfold av_mul
  cases hc : (decide (b.1 = b.2) && (decide (0 ≤ a.1) && (decide (0 ≤ b.1) && (decide (a.1 < a.2) && decide (a.2 * b.1 ≤ 2147483647))))) with
  | false => exact av_b2_ok (fun x y => x * y) hx hy
  | true =>
    simp only [Bool.and_eq_true, decide_eq_true_eq] at hc
    obtain ⟨c1, c2, c3, c4, c5⟩ := hc
    obtain ⟨j, j1, j2, j3⟩ := av_nat (x := x) (by omega)
    obtain ⟨k, k1, k2, k3⟩ := av_nat (x := y) (by omega)
    have hb : b.1 = (k : Int) := by omega
    have h1 : a.1 * b.1 ≤ (j : Int) * k := by rw [hb]; exact Int.mul_le_mul_of_nonneg_right (by omega) (by omega)
    have h2 : (j : Int) * k ≤ a.2 * b.1 := by rw [hb]; exact Int.mul_le_mul_of_nonneg_right (by omega) (by omega)
    have h3 : ((j * k : Nat) : Int) = (j : Int) * k := by push_cast; rfl
    have h4 : j * k < 2 ^ 31 := by omega
    rw [cond_true, j2, k2, pk_mul, nI_toInt h4, h3]
    exact ⟨h1, h2⟩
theorem av_ne0 {b : Int × Int} {y : Int32} (hy : b.1 ≤ y.toInt ∧ y.toInt ≤ b.2) (h : b.1 = b.2) (h0 : ¬ b.1 = 0) : ¬ y = 0 := by
  intro q
  subst q
  simp at hy
  omega
theorem av_div_ok {a b r : Int × Int} {x y : Int32} (hr : av_div a b = some r) (hx : a.1 ≤ x.toInt ∧ x.toInt ≤ a.2) (hy : b.1 ≤ y.toInt ∧ y.toInt ≤ b.2) : ¬ y = 0 ∧ r.1 ≤ (x / y).toInt ∧ (x / y).toInt ≤ r.2 := by
  unfold av_div at hr
  cases hc : (decide (b.1 = b.2) && (decide (0 < b.1) && (decide (0 ≤ a.1) && decide (a.1 < a.2)))) with
  | true =>
    rw [hc, cond_true] at hr
    cases hr
    simp only [Bool.and_eq_true, decide_eq_true_eq] at hc
    obtain ⟨c1, c2, c3, c4⟩ := hc
    obtain ⟨j, j1, j2, j3⟩ := av_nat (x := x) (by omega)
    obtain ⟨k, k1, k2, k3⟩ := av_nat (x := y) (by omega)
    refine ⟨av_ne0 hy c1 (by omega), ?_⟩
    have hd : j / k ≤ j := Nat.div_le_self _ _
    rw [j2, k2, pk_div j1 (by omega) k1]
    generalize j / k = g at hd
    rw [nI_toInt (by omega)]
    dsimp only
    omega
  | false =>
    rw [hc, cond_false] at hr
    cases hc2 : (decide (b.1 = b.2) && (decide (a.1 = a.2) && !decide (b.1 = 0))) with
    | false => rw [hc2] at hr; cases hr
    | true =>
      rw [hc2, cond_true] at hr
      cases hr
      simp only [Bool.and_eq_true, Bool.not_eq_true', decide_eq_true_eq, decide_eq_false_iff_not] at hc2
      exact ⟨av_ne0 hy hc2.1 hc2.2.2, av_b2_ok (fun x y => x / y) hx hy⟩
theorem av_rem_ok {a b r : Int × Int} {x y : Int32} (hr : av_rem a b = some r) (hx : a.1 ≤ x.toInt ∧ x.toInt ≤ a.2) (hy : b.1 ≤ y.toInt ∧ y.toInt ≤ b.2) : ¬ y = 0 ∧ r.1 ≤ (x - x / y * y).toInt ∧ (x - x / y * y).toInt ≤ r.2 := by
  unfold av_rem at hr
  cases hc : (decide (b.1 = b.2) && (decide (0 < b.1) && (decide (0 ≤ a.1) && decide (a.1 < a.2)))) with
  | true =>
    rw [hc, cond_true] at hr
    cases hr
    simp only [Bool.and_eq_true, decide_eq_true_eq] at hc
    obtain ⟨c1, c2, c3, c4⟩ := hc
    obtain ⟨j, j1, j2, j3⟩ := av_nat (x := x) (by omega)
    obtain ⟨k, k1, k2, k3⟩ := av_nat (x := y) (by omega)
    refine ⟨av_ne0 hy c1 (by omega), ?_⟩
    have hd : j % k < k := Nat.mod_lt _ (by omega)
    rw [j2, k2, pk_rem j1 (by omega) k1]
    generalize j % k = g at hd
    rw [nI_toInt (by omega)]
    dsimp only
    omega
  | false =>
    rw [hc, cond_false] at hr
    cases hc2 : (decide (b.1 = b.2) && (decide (a.1 = a.2) && !decide (b.1 = 0))) with
    | false => rw [hc2] at hr; cases hr
    | true =>
      rw [hc2, cond_true] at hr
      cases hr
      simp only [Bool.and_eq_true, Bool.not_eq_true', decide_eq_true_eq, decide_eq_false_iff_not] at hc2
      exact ⟨av_ne0 hy hc2.1 hc2.2.2, av_b2_ok (fun x y => x - x / y * y) hx hy⟩
theorem av_lt_ok {a b : Int × Int} {x y : Int32} (hx : a.1 ≤ x.toInt ∧ x.toInt ≤ a.2) (hy : b.1 ≤ y.toInt ∧ y.toInt ≤ b.2) {r : Bool} (h : av_lt a b = some r) : (x < y ↔ r = true) := by
  unfold av_lt at h
  rw [Int32.lt_iff_toInt_lt]
  cases h1 : decide (a.2 < b.1) with
  | true => rw [h1] at h; cases h; simp at h1; simp; omega
  | false =>
    rw [h1, cond_false] at h
    cases h2 : decide (b.2 ≤ a.1) with
    | true => rw [h2] at h; cases h; simp at h2; simp; omega
    | false => rw [h2] at h; cases h
theorem av_eq_ok {a b : Int × Int} {x y : Int32} (hx : a.1 ≤ x.toInt ∧ x.toInt ≤ a.2) (hy : b.1 ≤ y.toInt ∧ y.toInt ≤ b.2) {r : Bool} (h : av_eq a b = some r) : (x = y ↔ r = true) := by
  unfold av_eq at h
  rw [← Int32.toInt_inj]
  cases h1 : (decide (a.1 = a.2) && (decide (b.1 = b.2) && decide (a.1 = b.1))) with
  | true => rw [h1] at h; cases h; simp at h1; simp; omega
  | false =>
    rw [h1, cond_false] at h
    cases h2 : (decide (a.2 < b.1) || decide (b.2 < a.1)) with
    | true => rw [h2] at h; cases h; simp at h2; simp; omega
    | false => rw [h2] at h; cases h
end
section
/-! ===== the rows of the kit, at abstract frames ===== -/
section AVR
variable {Ts : List Jvm.Cond} {cl : List vw_C} {D : va_G} {cy : Nat → ClassId} {A : Nat → Prop} {sv : Nat → Value} {as0 : List Nat} {X : av_X} {M : av_M} {mt : Nat → av_M} {F : av_F} {p : Program} {l : Launch} {e : Env} {R : Room} {s : State} {m : MethodId} {args : Array Value} {below : List Frame} {meth : Method} {c : Code} {Q : State → Prop}
theorem av_push_ok {pc len a b : Nat} {ins : Instr} {z : Int} {v : av_V} {L : av_L} {st : List av_V} {h : av_H} {cN sN : Nat} (C0 : av_Cx Ts cl D cy A sv X M p R s m args meth c) (ok : av_ok Ts cl mt M (pc, ins, len, a, b, z)) (hv : av_push (pc, ins, len, a, b, z) = some v)
    (k : av_Good cl D cy A sv as0 M.1.2.2.2.1 p l e R s m args below meth c Q (pc + len, L, v :: st, h, cN, sN)) : av_Good cl D cy A sv as0 M.1.2.2.2.1 p l e R s m args below meth c Q (pc, L, st, h, cN, sN) := by
  obtain ⟨hx, hb, hml, hown, hts, hr, hlk, hnm, hK, hA, hSF, -⟩ := C0
  obtain ⟨hsv, ⟨q0, q1, a1, a2, a3, a4, a5, a6, f, a7, a8⟩, h2, h3, -, h4⟩ := hSF
  obtain ⟨hd, hlen, hok⟩ := ok
  intro as ws H locs ls stv has hH hP hD hS hL hst
  have kk := fun x (hx : av_dn sv as v x) => k as ws H locs ls (x :: stv) has hH hP hD hS hL ⟨hx, hst⟩
  dsimp only at kk hok hd ⊢
  unfold av_push at hv
  dsimp only at hv
  cases ins <;> first | (cases hv; done) | skip
  case iconst n =>
    cases hv
    have : len = 1 := by simpa [av_lenok, av_len] using hlen
    subst this
    exact lv_iconst hx hb hd rfl (kk _ (av_dn_c _))
  case bipush n =>
    cases hv
    have : len = 2 := by simpa [av_lenok, av_len] using hlen
    subst this
    exact lv_bipush hx hb hd rfl (kk _ (av_dn_c _))
  case sipush n =>
    cases hv
    have : len = 3 := by simpa [av_lenok, av_len] using hlen
    subst this
    exact lv_sipush hx hb hd rfl (kk _ (av_dn_c _))
  case ldc i =>
    have : len = 2 := by simpa [av_lenok, av_len] using hlen
    subst this
    by_cases ha : a = 0
    · subst ha
      cases hv
      exact lv_ldc hx hb hown (hts _ (hok.1 rfl)) hd (kk _ (av_dn_c _))
    · have e : (a == 0) = false := by simpa using ha
      rw [e] at hv
      cases hv
      obtain ⟨o1, o2⟩ := hok.2 ha
      subst o2
      exact va_ldcS hx hb hown (by rw [o1]; exact a3) hd (kk _ a1.symm)
  case ldc_w i =>
    have : len = 3 := by simpa [av_lenok, av_len] using hlen
    subst this
    cases hv
    exact lv_ldcw hx hb hown (hts _ hok) hd (kk _ (av_dn_c _))
  case ldc2_w i =>
    have : len = 3 := by simpa [av_lenok, av_len] using hlen
    subst this
    cases hv
    exact lv_ldc2 hx hb hown (hts _ hok) hd (kk _ ⟨_, rfl, Int.le_refl _, Int.le_refl _⟩)
  case getstatic i =>
    have : len = 3 := by simpa [av_lenok, av_len] using hlen
    subst this
    by_cases ha : a = 0
    · subst ha
      cases hv
      exact va_gets hx hb h2 hS hown (hts _ (hok.1 rfl)) (fun x h => h) hd (kk _ (av_dn_c _))
    · have e : (a == 0) = false := by simpa using ha
      rw [e] at hv
      cases hv
      exact va_gets hx hb h3 hS hown (hts _ (hok.2 ha)) (fun x h => h) hd (kk _ rfl)
theorem av_load_ok {pc len a b i kd : Nat} {ins : Instr} {z : Int} {v : av_V} {L : av_L} {st : List av_V} {h : av_H} {cN sN : Nat} (C0 : av_Cx Ts cl D cy A sv X M p R s m args meth c) (ok : av_ok Ts cl mt M (pc, ins, len, a, b, z)) (hi : av_load ins = some (i, kd)) (hg : av_get L i = some v) (hv : (bif kd == 1 then av_isI v else av_isA v) = true)
    (k : av_Good cl D cy A sv as0 M.1.2.2.2.1 p l e R s m args below meth c Q (pc + len, L, v :: st, h, cN, sN)) : av_Good cl D cy A sv as0 M.1.2.2.2.1 p l e R s m args below meth c Q (pc, L, st, h, cN, sN) := by
  obtain ⟨hx, hb, hml, hown, hts, hr, hlk, hnm, hK, hA, hSF, -⟩ := C0
  obtain ⟨hsv, -⟩ := hSF
  obtain ⟨hd, hlen, -⟩ := ok
  intro as ws H locs ls stv has hH hP hD hS hL hst
  obtain ⟨x, hdn, hls⟩ := av_relL_get hL hg
  have kk := k as ws H locs ls (x :: stv) has hH hP hD hS hL ⟨hdn, hst⟩
  dsimp only at kk hd ⊢
  have hI : kd = 1 → ∃ n : Int32, x = .int n := by
    intro e
    subst e
    match v, hdn, hv with
    | .inr (.inl a), ⟨n, h1, _⟩, _ => exact ⟨n, h1⟩
  have hR : kd = 2 → x = .null ∨ ∃ n : Nat, x = .ref n := by
    intro e
    subst e
    match v, hdn, hv with
    | .inl none, h1, _ => exact .inl h1
    | .inl (some _), ⟨n, _, h1⟩, _ => exact .inr ⟨n, h1⟩
    | .inr (.inr (.inr j)), h1, _ => rw [show x = sv j from h1]; exact hsv j
  cases ins <;> first | (cases hi; done) | skip
  case iload_n n =>
    cases hi
    have : len = 1 := by simpa [av_lenok, av_len] using hlen
    subst this
    obtain ⟨y, rfl⟩ := hI rfl
    exact lv_iload_n hx hb hd rfl hls kk
  case iload n =>
    cases hi
    have : len = 2 := by simpa [av_lenok, av_len] using hlen
    subst this
    obtain ⟨y, rfl⟩ := hI rfl
    exact lv_iload hx hb hd hls kk
  case aload_n n =>
    cases hi
    have : len = 1 := by simpa [av_lenok, av_len] using hlen
    subst this
    rcases hR rfl with rfl | ⟨y, rfl⟩
    · exact lv_aload_nN hx hb hd rfl hls kk
    · exact lv_aload_n hx hb hd rfl hls kk
  case aload n =>
    cases hi
    have : len = 2 := by simpa [av_lenok, av_len] using hlen
    subst this
    rcases hR rfl with rfl | ⟨y, rfl⟩
    · exact lv_aloadN hx hb hd hls kk
    · exact lv_aload hx hb hd hls kk
theorem av_store_ok {pc len a b i kd : Nat} {ins : Instr} {z : Int} {v : av_V} {L : av_L} {st : List av_V} {h : av_H} {cN sN : Nat} (C0 : av_Cx Ts cl D cy A sv X M p R s m args meth c) (ok : av_ok Ts cl mt M (pc, ins, len, a, b, z)) (hi : av_store ins = some (i, kd)) (hv : (bif kd == 1 then av_isI v else av_isR v) = true)
    (k : av_Good cl D cy A sv as0 M.1.2.2.2.1 p l e R s m args below meth c Q (pc + len, av_set L i v, st, h, cN, sN)) : av_Good cl D cy A sv as0 M.1.2.2.2.1 p l e R s m args below meth c Q (pc, L, v :: st, h, cN, sN) := by
  obtain ⟨hx, hb, hml, hown, hts, hr, hlk, hnm, hK, hA, hSF, -⟩ := C0
  obtain ⟨hsv, -⟩ := hSF
  obtain ⟨hd, hlen, hok⟩ := ok
  intro as ws H locs ls stv has hH hP hD hS hL hst
  obtain ⟨x, stv, rfl, hdn, hst1⟩ := av_relS_cons hst
  obtain ⟨lv, g1, g2⟩ := hL
  have kk := fun ls' hl' => k as ws H locs ls' stv has hH hP hD hS (av_relL_set hsv g2 hdn hl') hst1
  dsimp only at kk hd hok ⊢
  have hI : kd = 1 → ∃ n : Int32, x = .int n := by
    intro e
    subst e
    match v, hdn, hv with
    | .inr (.inl a), ⟨n, h1, _⟩, _ => exact ⟨n, h1⟩
  have hR : kd = 2 → ∃ n : Nat, x = .ref n := by
    intro e
    subst e
    match v, hdn, hv with
    | .inl (some _), ⟨n, _, h1⟩, _ => exact ⟨n, h1⟩
  cases ins <;> first | (cases hi; done) | skip
  case istore_n n =>
    cases hi
    have : len = 1 := by simpa [av_lenok, av_len] using hlen
    subst this
    obtain ⟨y, rfl⟩ := hI rfl
    exact lv_istore_n hx hb hd rfl g1 hok rfl kk
  case istore n =>
    cases hi
    have : len = 2 := by simpa [av_lenok, av_len] using hlen
    subst this
    obtain ⟨y, rfl⟩ := hI rfl
    exact lv_istore hx hb hd g1 hok rfl kk
  case astore_n n =>
    cases hi
    have : len = 1 := by simpa [av_lenok, av_len] using hlen
    subst this
    obtain ⟨y, rfl⟩ := hR rfl
    exact lv_astore_n hx hb hd rfl g1 hok rfl kk
  case astore n =>
    cases hi
    have : len = 2 := by simpa [av_lenok, av_len] using hlen
    subst this
    obtain ⟨y, rfl⟩ := hR rfl
    exact lv_astore hx hb hd g1 hok rfl kk
theorem av_bin_ok {pc len a b : Nat} {ins : Instr} {z : Int} {f : (Int × Int) → (Int × Int) → Option (Int × Int)} {u w r : Int × Int} {L : av_L} {st : List av_V} {h : av_H} {cN sN : Nat} (C0 : av_Cx Ts cl D cy A sv X M p R s m args meth c) (ok : av_ok Ts cl mt M (pc, ins, len, a, b, z)) (hf : av_bin ins = some f) (hr : f u w = some r)
    (k : av_Good cl D cy A sv as0 M.1.2.2.2.1 p l e R s m args below meth c Q (pc + len, L, av_i r :: st, h, cN, sN)) : av_Good cl D cy A sv as0 M.1.2.2.2.1 p l e R s m args below meth c Q (pc, L, av_i w :: av_i u :: st, h, cN, sN) := by
  obtain ⟨hx, hb, -⟩ := C0
  obtain ⟨hd, hlen, -⟩ := ok
  intro as ws H locs ls stv has hH hP hD hS hL hst
  obtain ⟨_, stv1, rfl, ⟨y, rfl, hy⟩, hst1⟩ := av_relS_cons hst
  obtain ⟨_, stv, rfl, ⟨x, rfl, hx'⟩, hst2⟩ := av_relS_cons hst1
  have kk := fun (n : Int32) (hn : r.1 ≤ n.toInt ∧ n.toInt ≤ r.2) => k as ws H locs ls (.int n :: stv) has hH hP hD hS hL ⟨⟨n, rfl, hn⟩, hst2⟩
  dsimp only at kk hd ⊢
  cases ins <;> first | (cases hf; done) | skip
  case iadd =>
    have : len = 1 := by simpa [av_lenok, av_len] using hlen
    subst this; cases hf; cases hr
    exact lv_iadd hx hb hd (kk _ (av_b2_ok _ hx' hy))
  case isub =>
    have : len = 1 := by simpa [av_lenok, av_len] using hlen
    subst this; cases hf; cases hr
    exact lv_isub hx hb hd (kk _ (av_b2_ok _ hx' hy))
  case imul =>
    have : len = 1 := by simpa [av_lenok, av_len] using hlen
    subst this; cases hf; cases hr
    exact lv_imul hx hb hd (kk _ (av_mul_ok hx' hy))
  case iand =>
    have : len = 1 := by simpa [av_lenok, av_len] using hlen
    subst this; cases hf; cases hr
    exact lv_iand hx hb hd (kk _ (av_b2_ok _ hx' hy))
  case ior =>
    have : len = 1 := by simpa [av_lenok, av_len] using hlen
    subst this; cases hf; cases hr
    exact lv_ior hx hb hd (kk _ (av_b2_ok _ hx' hy))
  case ishl =>
    have : len = 1 := by simpa [av_lenok, av_len] using hlen
    subst this; cases hf; cases hr
    exact lv_ishl hx hb hd (kk _ (av_b2_ok _ hx' hy))
  case ishr =>
    have : len = 1 := by simpa [av_lenok, av_len] using hlen
    subst this; cases hf; cases hr
    exact lv_ishr hx hb hd (kk _ (av_b2_ok _ hx' hy))
  case iushr =>
    have : len = 1 := by simpa [av_lenok, av_len] using hlen
    subst this; cases hf; cases hr
    exact lv_iushr hx hb hd rfl (kk _ (av_b2_ok _ hx' hy))
  case idiv =>
    have : len = 1 := by simpa [av_lenok, av_len] using hlen
    subst this; cases hf
    obtain ⟨h1, h2⟩ := av_div_ok hr hx' hy
    exact lv_idiv hx hb hd h1 (kk _ h2)
  case irem =>
    have : len = 1 := by simpa [av_lenok, av_len] using hlen
    subst this; cases hf
    obtain ⟨h1, h2⟩ := av_rem_ok hr hx' hy
    exact lv_irem hx hb hd h1 (kk _ h2)
end AVR
end
section
/-! ===== rows at abstract frames: branches, the stack, conversions ===== -/
section AVR
variable {Ts : List Jvm.Cond} {cl : List vw_C} {D : va_G} {cy : Nat → ClassId} {A : Nat → Prop} {sv : Nat → Value} {as0 : List Nat} {X : av_X} {M : av_M} {mt : Nat → av_M} {F : av_F} {p : Program} {l : Launch} {e : Env} {R : Room} {s : State} {m : MethodId} {args : Array Value} {below : List Frame} {meth : Method} {c : Code} {Q : State → Prop}
theorem av_jmp_ok {pc : Nat} {off : Int} (h : av_jmp pc off = true) : (pc : Int) + off = (av_tgt pc off : Int) := by
  simpa [av_jmp, av_tgt] using h
theorem av_icmp_ok {pc len a b : Nat} {o : Jvm.ClassFile.Cond} {off z : Int} {u w : Int × Int} {L : av_L} {st : List av_V} {h : av_H} {cN sN : Nat} (C0 : av_Cx Ts cl D cy A sv X M p R s m args meth c) (ok : av_ok Ts cl mt M (pc, .if_icmp o off, len, a, b, z)) (hj : av_jmp pc off = true)
    (k : ∀ S' ∈ av_br (av_cmp o u w) (av_tgt pc off, L, st, h, cN, sN) (pc + len, L, st, h, cN, sN), av_Good cl D cy A sv as0 M.1.2.2.2.1 p l e R s m args below meth c Q S') : av_Good cl D cy A sv as0 M.1.2.2.2.1 p l e R s m args below meth c Q (pc, L, av_i w :: av_i u :: st, h, cN, sN) := by
  obtain ⟨hx, hb, -⟩ := C0
  obtain ⟨hd, hlen, -⟩ := ok
  intro as ws H locs ls stv has hH hP hD hS hL hst
  obtain ⟨_, stv1, rfl, ⟨y, rfl, hy⟩, hst1⟩ := av_relS_cons hst
  obtain ⟨_, stv, rfl, ⟨x, rfl, hx'⟩, hst2⟩ := av_relS_cons hst1
  have : len = 3 := by simpa [av_lenok, av_len] using hlen
  subst this
  have kt := fun (hm : (av_tgt pc off, L, st, h, cN, sN) ∈ av_br (av_cmp o u w) (av_tgt pc off, L, st, h, cN, sN) (pc + 3, L, st, h, cN, sN)) => k _ hm as ws H locs ls stv has hH hP hD hS hL hst2
  have kf := fun (hm : (pc + 3, L, st, h, cN, sN) ∈ av_br (av_cmp o u w) (av_tgt pc off, L, st, h, cN, sN) (pc + 3, L, st, h, cN, sN)) => k _ hm as ws H locs ls stv has hH hP hD hS hL hst2
  have ht := av_jmp_ok hj
  dsimp only at kt kf hd ⊢
  have go : ∀ {cnd : Prop}, (∀ r, av_cmp o u w = some r → (cnd ↔ r = true)) → (cnd → W p l e R s m args below meth c H locs cN sN Q (F0 m (av_tgt pc off) ls stv)) ∧ (¬ cnd → W p l e R s m args below meth c H locs cN sN Q (F0 m (pc + 3) ls stv)) := by
    intro cnd hc
    cases hcm : av_cmp o u w with
    | none => rw [hcm] at kt kf; exact ⟨fun _ => kt (by simp [av_br]), fun _ => kf (by simp [av_br])⟩
    | some r =>
      have hi := hc r hcm
      cases r with
      | true => rw [hcm] at kt; exact ⟨fun _ => kt (by simp [av_br]), fun q => absurd (hi.mpr rfl) q⟩
      | false => rw [hcm] at kf; exact ⟨fun q => by simp [hi] at q, fun _ => kf (by simp [av_br])⟩
  have hlt := fun r (hr : av_lt u w = some r) => av_lt_ok hx' hy hr
  have hgt := fun r (hr : av_lt w u = some r) => av_lt_ok hy hx' hr
  have heq := fun r (hr : av_eq u w = some r) => av_eq_ok hx' hy hr
  have hnot : ∀ {t : Option Bool} {cnd : Prop}, (∀ r, t = some r → (cnd ↔ r = true)) → ∀ r, t.map not = some r → (¬ cnd ↔ r = true) := by
    intro t cnd hh r hr
    cases t with
    | none => cases hr
    | some q => cases hr; rw [hh q rfl]; cases q <;> simp
  cases o with
  | eq => have g := go (cnd := x = y) heq; exact lv_icmp_eq hx hb hd ht g.1 g.2
  | ne => have g := go (cnd := ¬ x = y) (hnot heq); exact lv_icmp_ne hx hb hd ht g.1 (fun q => g.2 (fun q' => q' q))
  | lt => have g := go (cnd := x < y) hlt; exact lv_icmp_lt hx hb hd ht g.1 g.2
  | ge => have g := go (cnd := ¬ x < y) (hnot hlt); exact lv_icmp_ge hx hb hd ht (fun q => g.1 (by rw [Int32.lt_iff_toInt_lt]; rw [Int32.le_iff_toInt_le] at q; omega)) (fun q => g.2 (fun q' => q' (by rw [Int32.lt_iff_toInt_lt]; rw [Int32.le_iff_toInt_le] at q; omega)))
  | gt => have g := go (cnd := y < x) hgt; exact lv_icmp_gt hx hb hd ht g.1 g.2
  | le => have g := go (cnd := ¬ y < x) (hnot hgt); exact lv_icmp_le hx hb hd ht (fun q => g.1 (by rw [Int32.lt_iff_toInt_lt]; rw [Int32.le_iff_toInt_le] at q; omega)) (fun q => g.2 (fun q' => q' (by rw [Int32.lt_iff_toInt_lt]; rw [Int32.le_iff_toInt_le] at q; omega)))
theorem av_if_ok {pc len a b : Nat} {o : Jvm.ClassFile.Cond} {off z : Int} {u : Int × Int} {L : av_L} {st : List av_V} {h : av_H} {cN sN : Nat} (C0 : av_Cx Ts cl D cy A sv X M p R s m args meth c) (ok : av_ok Ts cl mt M (pc, .ifCond o off, len, a, b, z)) (hj : av_jmp pc off = true)
    (k : ∀ S' ∈ av_br (av_cmp o u (0, 0)) (av_tgt pc off, L, st, h, cN, sN) (pc + len, L, st, h, cN, sN), av_Good cl D cy A sv as0 M.1.2.2.2.1 p l e R s m args below meth c Q S') : av_Good cl D cy A sv as0 M.1.2.2.2.1 p l e R s m args below meth c Q (pc, L, av_i u :: st, h, cN, sN) := by
  obtain ⟨hx, hb, -⟩ := C0
  obtain ⟨hd, hlen, -⟩ := ok
  intro as ws H locs ls stv has hH hP hD hS hL hst
  obtain ⟨_, stv, rfl, ⟨x, rfl, hx'⟩, hst1⟩ := av_relS_cons hst
  have hy : (0 : Int) ≤ (0 : Int32).toInt ∧ (0 : Int32).toInt ≤ 0 := by decide
  have : len = 3 := by simpa [av_lenok, av_len] using hlen
  subst this
  have kt := fun (hm : (av_tgt pc off, L, st, h, cN, sN) ∈ av_br (av_cmp o u (0, 0)) (av_tgt pc off, L, st, h, cN, sN) (pc + 3, L, st, h, cN, sN)) => k _ hm as ws H locs ls stv has hH hP hD hS hL hst1
  have kf := fun (hm : (pc + 3, L, st, h, cN, sN) ∈ av_br (av_cmp o u (0, 0)) (av_tgt pc off, L, st, h, cN, sN) (pc + 3, L, st, h, cN, sN)) => k _ hm as ws H locs ls stv has hH hP hD hS hL hst1
  have ht := av_jmp_ok hj
  dsimp only at kt kf hd ⊢
  have go : ∀ {cnd : Prop}, (∀ r, av_cmp o u (0, 0) = some r → (cnd ↔ r = true)) → (cnd → W p l e R s m args below meth c H locs cN sN Q (F0 m (av_tgt pc off) ls stv)) ∧ (¬ cnd → W p l e R s m args below meth c H locs cN sN Q (F0 m (pc + 3) ls stv)) := by
    intro cnd hc
    cases hcm : av_cmp o u (0, 0) with
    | none => rw [hcm] at kt kf; exact ⟨fun _ => kt (by simp [av_br]), fun _ => kf (by simp [av_br])⟩
    | some r =>
      have hi := hc r hcm
      cases r with
      | true => rw [hcm] at kt; exact ⟨fun _ => kt (by simp [av_br]), fun q => absurd (hi.mpr rfl) q⟩
      | false => rw [hcm] at kf; exact ⟨fun q => by simp [hi] at q, fun _ => kf (by simp [av_br])⟩
  have hlt := fun r (hr : av_lt u (0, 0) = some r) => av_lt_ok (y := 0) hx' hy hr
  have hgt := fun r (hr : av_lt (0, 0) u = some r) => av_lt_ok (x := 0) hy hx' hr
  have heq := fun r (hr : av_eq u (0, 0) = some r) => av_eq_ok (y := 0) hx' hy hr
  have hnot : ∀ {t : Option Bool} {cnd : Prop}, (∀ r, t = some r → (cnd ↔ r = true)) → ∀ r, t.map not = some r → (¬ cnd ↔ r = true) := by
    intro t cnd hh r hr
    cases t with
    | none => cases hr
    | some q => cases hr; rw [hh q rfl]; cases q <;> simp
  cases o with
  | eq => have g := go (cnd := x = 0) heq; exact lv_if_eq hx hb hd ht g.1 g.2
  | ne => have g := go (cnd := ¬ x = 0) (hnot heq); exact lv_if_ne hx hb hd ht g.1 (fun q => g.2 (fun q' => q' q))
  | lt => have g := go (cnd := x < 0) hlt; exact lv_if_lt hx hb hd ht g.1 g.2
  | ge => have g := go (cnd := ¬ x < 0) (hnot hlt); exact lv_if_ge hx hb hd ht (fun q => g.1 (by rw [Int32.lt_iff_toInt_lt]; rw [Int32.le_iff_toInt_le] at q; omega)) (fun q => g.2 (fun q' => q' (by rw [Int32.lt_iff_toInt_lt]; rw [Int32.le_iff_toInt_le] at q; omega)))
  | gt => have g := go (cnd := 0 < x) hgt; exact lv_if_gt hx hb hd ht g.1 g.2
  | le => have g := go (cnd := ¬ 0 < x) (hnot hgt); exact lv_if_le hx hb hd ht (fun q => g.1 (by rw [Int32.lt_iff_toInt_lt]; rw [Int32.le_iff_toInt_le] at q; omega)) (fun q => g.2 (fun q' => q' (by rw [Int32.lt_iff_toInt_lt]; rw [Int32.le_iff_toInt_le] at q; omega)))
theorem av_goto_ok {pc len a b : Nat} {off z : Int} {L : av_L} {st : List av_V} {h : av_H} {cN sN : Nat} (C0 : av_Cx Ts cl D cy A sv X M p R s m args meth c) (ok : av_ok Ts cl mt M (pc, .goto off, len, a, b, z)) (hj : av_jmp pc off = true)
    (k : av_Good cl D cy A sv as0 M.1.2.2.2.1 p l e R s m args below meth c Q (av_tgt pc off, L, st, h, cN, sN)) : av_Good cl D cy A sv as0 M.1.2.2.2.1 p l e R s m args below meth c Q (pc, L, st, h, cN, sN) := by
  obtain ⟨hx, hb, -⟩ := C0
  obtain ⟨hd, hlen, -⟩ := ok
  intro as ws H locs ls stv has hH hP hD hS hL hst
  have : len = 3 := by simpa [av_lenok, av_len] using hlen
  subst this
  exact lv_goto hx hb hd (av_jmp_ok hj) (k as ws H locs ls stv has hH hP hD hS hL hst)
theorem av_iinc_ok {pc len a b i : Nat} {n z : Int} {u : Int × Int} {L : av_L} {st : List av_V} {h : av_H} {cN sN : Nat} (C0 : av_Cx Ts cl D cy A sv X M p R s m args meth c) (ok : av_ok Ts cl mt M (pc, .iinc i n, len, a, b, z)) (hg : av_get L i = some (av_i u))
    (k : av_Good cl D cy A sv as0 M.1.2.2.2.1 p l e R s m args below meth c Q (pc + len, av_set L i (av_i (av_b2 (fun x y => x + y) u (n, n))), st, h, cN, sN)) : av_Good cl D cy A sv as0 M.1.2.2.2.1 p l e R s m args below meth c Q (pc, L, st, h, cN, sN) := by
  obtain ⟨hx, hb, -, -, -, -, -, -, -, -, hSF, -⟩ := C0
  obtain ⟨hsv, -⟩ := hSF
  obtain ⟨hd, hlen, hok⟩ := ok
  intro as ws H locs ls stv has hH hP hD hS hL hst
  have : len = 3 := by simpa [av_lenok, av_len] using hlen
  subst this
  obtain ⟨lv, g1, g2⟩ := hL
  obtain ⟨_, ⟨x, rfl, hx'⟩, hm⟩ := g2 _ (av_get_mem hg)
  obtain ⟨kk, hkk⟩ := List.getElem?_of_mem hm
  have hb2 : (av_b2 (fun x y => x + y) u (n, n)).1 ≤ (x + Int32.ofInt n).toInt ∧ (x + Int32.ofInt n).toInt ≤ (av_b2 (fun x y => x + y) u (n, n)).2 := by
    unfold av_b2
    cases hc : (decide (u.1 = u.2) && decide ((n, n).1 = (n, n).2)) with
    | false => exact av_top_ok _
    | true =>
      simp only [Bool.and_eq_true, decide_eq_true_eq] at hc
      have e1 : x = Int32.ofInt u.1 := av_one_of hx'.1 (by omega)
      rw [cond_true, ← e1]
      exact ⟨Int.le_refl _, Int.le_refl _⟩
  have hdn : av_dn sv as (av_i (av_b2 (fun x y => x + y) u (n, n))) (.int (x + Int32.ofInt n)) := ⟨_, rfl, hb2⟩
  exact lv_iinc hx hb hd g1 hkk rfl hok rfl (fun ls' hl' => k as ws H locs ls' stv has hH hP hD hS (av_relL_set hsv g2 hdn hl') hst)
theorem av_dup_ok {pc len a b : Nat} {z : Int} {v : av_V} {L : av_L} {st : List av_V} {h : av_H} {cN sN : Nat} (C0 : av_Cx Ts cl D cy A sv X M p R s m args meth c) (ok : av_ok Ts cl mt M (pc, .dup, len, a, b, z)) (hv : av_isL v = false)
    (k : av_Good cl D cy A sv as0 M.1.2.2.2.1 p l e R s m args below meth c Q (pc + len, L, v :: v :: st, h, cN, sN)) : av_Good cl D cy A sv as0 M.1.2.2.2.1 p l e R s m args below meth c Q (pc, L, v :: st, h, cN, sN) := by
  obtain ⟨hx, hb, -, -, -, -, -, -, -, -, hSF, -⟩ := C0
  obtain ⟨hsv, -⟩ := hSF
  obtain ⟨hd, hlen, -⟩ := ok
  intro as ws H locs ls stv has hH hP hD hS hL hst
  have : len = 1 := by simpa [av_lenok, av_len] using hlen
  subst this
  obtain ⟨x, stv, rfl, hdn, hst1⟩ := av_relS_cons hst
  exact lv_dup hx hb hd (by rw [av_cat hsv hdn, hv]; rfl) (k as ws H locs ls (x :: x :: stv) has hH hP hD hS hL ⟨hdn, hdn, hst1⟩)
theorem av_pop_ok {pc len a b : Nat} {z : Int} {v : av_V} {L : av_L} {st : List av_V} {h : av_H} {cN sN : Nat} (C0 : av_Cx Ts cl D cy A sv X M p R s m args meth c) (ok : av_ok Ts cl mt M (pc, .pop, len, a, b, z)) (hv : av_isL v = false)
    (k : av_Good cl D cy A sv as0 M.1.2.2.2.1 p l e R s m args below meth c Q (pc + len, L, st, h, cN, sN)) : av_Good cl D cy A sv as0 M.1.2.2.2.1 p l e R s m args below meth c Q (pc, L, v :: st, h, cN, sN) := by
  obtain ⟨hx, hb, -, -, -, -, -, -, -, -, hSF, -⟩ := C0
  obtain ⟨hsv, -⟩ := hSF
  obtain ⟨hd, hlen, -⟩ := ok
  intro as ws H locs ls stv has hH hP hD hS hL hst
  have : len = 1 := by simpa [av_lenok, av_len] using hlen
  subst this
  obtain ⟨x, stv, rfl, hdn, hst1⟩ := av_relS_cons hst
  exact lv_pop hx hb hd (by rw [av_cat hsv hdn, hv]; rfl) (k as ws H locs ls stv has hH hP hD hS hL hst1)
theorem av_dup2_ok {pc len a b : Nat} {z : Int} {v w : av_V} {L : av_L} {st : List av_V} {h : av_H} {cN sN : Nat} (C0 : av_Cx Ts cl D cy A sv X M p R s m args meth c) (ok : av_ok Ts cl mt M (pc, .dup2, len, a, b, z)) (hv : av_isL v = false) (hw : av_isL w = false)
    (k : av_Good cl D cy A sv as0 M.1.2.2.2.1 p l e R s m args below meth c Q (pc + len, L, v :: w :: v :: w :: st, h, cN, sN)) : av_Good cl D cy A sv as0 M.1.2.2.2.1 p l e R s m args below meth c Q (pc, L, v :: w :: st, h, cN, sN) := by
  obtain ⟨hx, hb, -, -, -, -, -, -, -, -, hSF, -⟩ := C0
  obtain ⟨hsv, -⟩ := hSF
  obtain ⟨hd, hlen, -⟩ := ok
  intro as ws H locs ls stv has hH hP hD hS hL hst
  have : len = 1 := by simpa [av_lenok, av_len] using hlen
  subst this
  obtain ⟨x, stv1, rfl, hdn, hst1⟩ := av_relS_cons hst
  obtain ⟨y, stv, rfl, hdn2, hst2⟩ := av_relS_cons hst1
  exact lv_dup2_11 hx hb hd (by rw [av_cat hsv hdn, hv]; rfl) (by rw [av_cat hsv hdn2, hw]; rfl) (k as ws H locs ls (x :: y :: x :: y :: stv) has hH hP hD hS hL ⟨hdn, hdn2, hdn, hdn2, hst2⟩)
theorem av_i2c_ok {pc len a b : Nat} {z : Int} {u : Int × Int} {L : av_L} {st : List av_V} {h : av_H} {cN sN : Nat} (C0 : av_Cx Ts cl D cy A sv X M p R s m args meth c) (ok : av_ok Ts cl mt M (pc, .i2c, len, a, b, z))
    (k : av_Good cl D cy A sv as0 M.1.2.2.2.1 p l e R s m args below meth c Q (pc + len, L, av_i (av_u1 (fun x => (x.toUInt32 % 65536).toInt32) u) :: st, h, cN, sN)) : av_Good cl D cy A sv as0 M.1.2.2.2.1 p l e R s m args below meth c Q (pc, L, av_i u :: st, h, cN, sN) := by
  obtain ⟨hx, hb, -⟩ := C0
  obtain ⟨hd, hlen, -⟩ := ok
  intro as ws H locs ls stv has hH hP hD hS hL hst
  have : len = 1 := by simpa [av_lenok, av_len] using hlen
  subst this
  obtain ⟨_, stv, rfl, ⟨x, rfl, hx'⟩, hst1⟩ := av_relS_cons hst
  exact lv_i2c hx hb hd rfl (k as ws H locs ls (_ :: stv) has hH hP hD hS hL ⟨⟨_, rfl, av_u1_ok (fun x => (x.toUInt32 % 65536).toInt32) hx'⟩, hst1⟩)
theorem av_i8 (x : Int32) : -128 ≤ x.toInt8.toInt32.toInt ∧ x.toInt8.toInt32.toInt ≤ 127 := by
  rw [Int8.toInt_toInt32]
  have h1 := x.toInt8.toInt_lt
  have h2 := x.toInt8.le_toInt
  omega
theorem av_i2b_ok {pc len a b : Nat} {z : Int} {u : Int × Int} {L : av_L} {st : List av_V} {h : av_H} {cN sN : Nat} (C0 : av_Cx Ts cl D cy A sv X M p R s m args meth c) (ok : av_ok Ts cl mt M (pc, .i2b, len, a, b, z))
    (k : av_Good cl D cy A sv as0 M.1.2.2.2.1 p l e R s m args below meth c Q (pc + len, L, av_i (bif decide (u.1 = u.2) then av_u1 (fun x => x.toInt8.toInt32) u else (-128, 127)) :: st, h, cN, sN)) : av_Good cl D cy A sv as0 M.1.2.2.2.1 p l e R s m args below meth c Q (pc, L, av_i u :: st, h, cN, sN) := by
  obtain ⟨hx, hb, -⟩ := C0
  obtain ⟨hd, hlen, -⟩ := ok
  intro as ws H locs ls stv has hH hP hD hS hL hst
  have : len = 1 := by simpa [av_lenok, av_len] using hlen
  subst this
  obtain ⟨_, stv, rfl, ⟨x, rfl, hx'⟩, hst1⟩ := av_relS_cons hst
  refine lv_i2b hx hb hd rfl (k as ws H locs ls (_ :: stv) has hH hP hD hS hL ⟨⟨_, rfl, ?_⟩, hst1⟩)
  cases decide (u.1 = u.2) with
  | true => exact av_u1_ok (fun x => x.toInt8.toInt32) hx'
  | false => exact av_i8 x
theorem av_lcmp_ok {pc len a b : Nat} {z : Int} {u w : Int × Int} {L : av_L} {st : List av_V} {h : av_H} {cN sN : Nat} (C0 : av_Cx Ts cl D cy A sv X M p R s m args meth c) (ok : av_ok Ts cl mt M (pc, .lcmp, len, a, b, z)) (hc : (decide (u.1 = u.2) && (decide (w.1 = w.2) && decide (u.1 = w.1))) = true)
    (k : av_Good cl D cy A sv as0 M.1.2.2.2.1 p l e R s m args below meth c Q (pc + len, L, av_c 0 :: st, h, cN, sN)) : av_Good cl D cy A sv as0 M.1.2.2.2.1 p l e R s m args below meth c Q (pc, L, av_l w :: av_l u :: st, h, cN, sN) := by
  obtain ⟨hx, hb, -⟩ := C0
  obtain ⟨hd, hlen, -⟩ := ok
  intro as ws H locs ls stv has hH hP hD hS hL hst
  have : len = 1 := by simpa [av_lenok, av_len] using hlen
  subst this
  obtain ⟨_, stv1, rfl, ⟨y, rfl, hy⟩, hst1⟩ := av_relS_cons hst
  obtain ⟨_, stv, rfl, ⟨x, rfl, hx'⟩, hst2⟩ := av_relS_cons hst1
  simp only [Bool.and_eq_true, decide_eq_true_eq] at hc
  have e : x = y := by
    rw [← Int64.toInt_inj]
    omega
  subst e
  refine W.lcmp hx hb hd ?_
  have e0 : lg_cmp x x = 0 := by simp [lg_cmp]
  have kk := k as ws H locs ls (.int 0 :: stv) has hH hP hD hS hL ⟨av_dn_c 0, hst2⟩
  first | (rw [e0]; exact kk) | simpa [e0] using kk
theorem av_table_ok {pc len a b : Nat} {d lo hi z : Int} {offs : Array Int} {u : Int × Int} {L : av_L} {st : List av_V} {h : av_H} {cN sN : Nat} (C0 : av_Cx Ts cl D cy A sv X M p R s m args meth c) (ok : av_ok Ts cl mt M (pc, .tableswitch d lo hi offs, len, a, b, z)) {off : Int} (hj : av_jmp pc off = true)
    (hc : ((decide (u.2 < lo) || decide (hi < u.1)) = true ∧ off = d) ∨ ((decide (u.1 = u.2) && (decide (lo ≤ u.1) && decide (u.1 ≤ hi))) = true ∧ offs[(u.1 - lo).toNat]? = some off))
    (k : av_Good cl D cy A sv as0 M.1.2.2.2.1 p l e R s m args below meth c Q (av_tgt pc off, L, st, h, cN, sN)) : av_Good cl D cy A sv as0 M.1.2.2.2.1 p l e R s m args below meth c Q (pc, L, av_i u :: st, h, cN, sN) := by
  obtain ⟨hx, hb, -⟩ := C0
  obtain ⟨hd, -, -⟩ := ok
  intro as ws H locs ls stv has hH hP hD hS hL hst
  obtain ⟨_, stv, rfl, ⟨x, rfl, hx'⟩, hst1⟩ := av_relS_cons hst
  have kk := k as ws H locs ls stv has hH hP hD hS hL hst1
  rcases hc with ⟨h1, rfl⟩ | ⟨h1, h2⟩
  · simp only [Bool.or_eq_true, decide_eq_true_eq] at h1
    exact lv_tableOut hx hb hd (by omega) (av_jmp_ok hj) kk
  · simp only [Bool.and_eq_true, decide_eq_true_eq] at h1
    have e : x.toInt = u.1 := by omega
    exact lv_tableIn hx hb hd (by omega) (by omega) (by rw [e]; exact h2) (av_jmp_ok hj) kk
end AVR
end
section
/-! ===== rows at abstract frames: arrays, fields ===== -/
theorem av_hull_ok : ∀ {ys : List av_V} {r : Int × Int}, av_hull ys = some r → ∀ w ∈ ys, ∃ b, w = av_i b ∧ r.1 ≤ b.1 ∧ b.2 ≤ r.2 := by
  intro ys
  induction ys with
  | nil => intro r _ w hw; cases hw
  | cons x l ih =>
    intro r h w hw
    unfold av_hull at h
    cases hl : av_hull l with
    | none => rw [hl] at h; cases x <;> simp at h
    | some b =>
      rw [hl] at h
      match x, h, hw with
      | .inl o, h, hw => cases h
      | .inr (.inr o), h, hw => cases h
      | .inr (.inl a), h, hw =>
        cases h
        dsimp only
        have e1 : (bif decide (a.1 ≤ b.1) then a.1 else b.1) ≤ a.1 ∧ (bif decide (a.1 ≤ b.1) then a.1 else b.1) ≤ b.1 := by
          by_cases q : a.1 ≤ b.1
          · simp [q]
          · simp [q]; omega
        have e2 : a.2 ≤ (bif decide (a.2 ≤ b.2) then b.2 else a.2) ∧ b.2 ≤ (bif decide (a.2 ≤ b.2) then b.2 else a.2) := by
          by_cases q : a.2 ≤ b.2
          · simp [q]
          · simp [q]; omega
        rcases List.mem_cons.mp hw with rfl | hw
        · exact ⟨a, rfl, e1.1, e2.1⟩
        · obtain ⟨b', q1, q2, q3⟩ := ih hl w hw
          exact ⟨b', q1, by omega, by omega⟩
theorem av_clamp (n : Int32) : n.toNatClampNeg = n.toInt.toNat := rfl
theorem av_rd_ok {sv : Nat → Value} {as : List Nat} {xs : List av_V} {i : Int × Int} {v : av_V} {n : Int32} (h : av_rd xs i = some v) (hn : i.1 ≤ n.toInt ∧ n.toInt ≤ i.2) : vp_in n xs.length ∧ ∀ g : Nat → Value, (∀ (k : Nat) (w : av_V), xs[k]? = some w → av_dn sv as w (g k)) → av_dn sv as v (g n.toNatClampNeg) := by
  unfold av_rd at h
  cases hc : (decide (0 ≤ i.1) && decide (i.2 < (xs.length : Int))) with
  | false => rw [hc] at h; cases h
  | true =>
    rw [hc, cond_true] at h
    simp only [Bool.and_eq_true, decide_eq_true_eq] at hc
    refine ⟨vp_in_iff.mpr ⟨by omega, by omega⟩, fun g hg => ?_⟩
    rw [av_clamp]
    cases he : decide (i.1 = i.2) with
    | true =>
      rw [he, cond_true] at h
      simp only [decide_eq_true_eq] at he
      have e : n.toInt.toNat = i.1.toNat := by omega
      rw [e]
      exact hg _ _ h
    | false =>
      rw [he, cond_false] at h
      cases hh : av_hull ((xs.drop i.1.toNat).take ((i.2 - i.1).toNat + 1)) with
      | none => rw [hh] at h; cases h
      | some r =>
        rw [hh] at h
        cases h
        have hlt : n.toInt.toNat < xs.length := by omega
        obtain ⟨w, hw⟩ : ∃ w, xs[n.toInt.toNat]? = some w := ⟨_, List.getElem?_eq_getElem hlt⟩
        have hm : w ∈ (xs.drop i.1.toNat).take ((i.2 - i.1).toNat + 1) := by
          refine List.mem_of_getElem? (i := n.toInt.toNat - i.1.toNat) ?_
          rw [List.getElem?_take_of_lt (by omega), List.getElem?_drop]
          have : i.1.toNat + (n.toInt.toNat - i.1.toNat) = n.toInt.toNat := by omega
          rw [this]
          exact hw
        obtain ⟨b, rfl, b1, b2⟩ := av_hull_ok hh w hm
        obtain ⟨y, q1, q2, q3⟩ := hg _ _ hw
        exact ⟨y, q1, by omega, by omega⟩
theorem av_bool {x : Int32} (h0 : 0 ≤ x.toInt) (h1 : x.toInt ≤ 1) : x = 0 ∨ x = 1 := by
  rcases (show x.toInt = 0 ∨ x.toInt = 1 by omega) with h | h
  · exact .inl (by rw [← Int32.toInt_inj]; exact h)
  · exact .inr (by rw [← Int32.toInt_inj]; exact h)
theorem av_byte {x : Int32} (h0 : -128 ≤ x.toInt) (h1 : x.toInt ≤ 127) : x.toInt8.toInt32 = x := by
  rw [← Int32.toInt_inj, Int8.toInt_toInt32, Int32.toInt_toInt8]
  rw [Int.bmod_eq_of_le (by omega) (by omega)]
theorem av_fit_ok {sv : Nat → Value} {as : List Nat} {ty : FieldType} {v : av_V} {x : Value} (hf : av_fit (av_kd ty) v = true) (hd : av_dn sv as v x) : narrow ty x = x ∧ fits ty x = true := by
  cases ty with
  | int =>
    match v, hf, hd with
    | .inr (.inl a), _, hd => obtain ⟨n, rfl, _⟩ := hd; exact ⟨rfl, rfl⟩
  | byte =>
    match v, hf, hd with
    | .inr (.inl a), hf, hd =>
      obtain ⟨n, rfl, h1, h2⟩ := hd
      simp only [av_kd, av_fit, Bool.and_eq_true, decide_eq_true_eq] at hf
      refine ⟨by show Value.int _ = _; rw [av_byte (by omega) (by omega)], ?_⟩
      show (decide ((-128 : Int32) ≤ n) && decide (n ≤ 127)) = true
      have e1 : (-128 : Int32).toInt = -128 := by decide
      have e2 : (127 : Int32).toInt = 127 := by decide
      simp only [Bool.and_eq_true, decide_eq_true_eq, Int32.le_iff_toInt_le]
      exact ⟨by omega, by omega⟩
  | boolean =>
    match v, hf, hd with
    | .inr (.inl a), hf, hd =>
      obtain ⟨n, rfl, h1, h2⟩ := hd
      simp only [av_kd, av_fit, Bool.and_eq_true, decide_eq_true_eq] at hf
      rcases av_bool (x := n) (by omega) (by omega) with rfl | rfl
      · exact ⟨rfl, rfl⟩
      · exact ⟨rfl, rfl⟩
  | long =>
    match v, hf, hd with
    | .inr (.inr (.inl a)), _, hd => obtain ⟨n, rfl, _⟩ := hd; exact ⟨rfl, rfl⟩
  | object C =>
    match v, hf, hd with
    | .inl none, _, hd => rw [show x = .null from hd]; exact ⟨rfl, rfl⟩
    | .inl (some k), _, hd => obtain ⟨a, _, rfl⟩ := hd; exact ⟨rfl, rfl⟩
  | array C =>
    match v, hf, hd with
    | .inl none, _, hd => rw [show x = .null from hd]; exact ⟨rfl, rfl⟩
    | .inl (some k), _, hd => obtain ⟨a, _, rfl⟩ := hd; exact ⟨rfl, rfl⟩
  | _ => simp [av_kd, av_fit] at hf
section AVR
variable {Ts : List Jvm.Cond} {cl : List vw_C} {D : va_G} {cy : Nat → ClassId} {A : Nat → Prop} {sv : Nat → Value} {as0 : List Nat} {X : av_X} {M : av_M} {mt : Nat → av_M} {F : av_F} {p : Program} {l : Launch} {e : Env} {R : Room} {s : State} {m : MethodId} {args : Array Value} {below : List Frame} {meth : Method} {c : Code} {Q : State → Prop}
theorem av_ld_ok {pc len a b t t' k : Nat} {ins : Instr} {z : Int} {i : Int × Int} {v : av_V} {xs L1 : List av_V} {L : av_L} {st : List av_V} {h : av_H} {cN sN : Nat} (C0 : av_Cx Ts cl D cy A sv X M p R s m args meth c) (ok : av_ok Ts cl mt M (pc, ins, len, a, b, z)) (ht : av_ldk ins = some t) (hk : h[k]? = some (.inl (t', xs))) (htt : (t' == t || (t == 1 && t' == 2) || (t == 4 && t' == 5)) = true) (hv : av_rd xs i = some v)
    (kk : av_Good cl D cy A sv as0 M.1.2.2.2.1 p l e R s m args below meth c Q (pc + len, L, v :: st, h, cN, sN)) : av_Good cl D cy A sv as0 M.1.2.2.2.1 p l e R s m args below meth c Q (pc, L, av_i i :: av_r k :: st, h, cN, sN) := by
  obtain ⟨hx, hb, -, -, -, -, -, -, hK, -⟩ := C0
  obtain ⟨hd, hlen, -⟩ := ok
  intro as ws H locs ls stv has hH hP hD hS hL hst
  obtain ⟨_, stv1, rfl, ⟨n, rfl, hn⟩, hst1⟩ := av_relS_cons hst
  obtain ⟨_, stv2, rfl, ⟨ad, had, rfl⟩, hst2⟩ := av_relS_cons hst1
  obtain ⟨ad', en, e1, e2, hE⟩ := hH.2.2 k _ hk
  cases had.symm.trans e1
  obtain ⟨hin, hg⟩ := av_rd_ok (sv := sv) (as := as) hv hn
  have go := fun x (hx : av_dn sv as v x) => kk as ws H locs ls (x :: stv2) has hH hP hD hS hL ⟨hx, hst2⟩
  dsimp only at go hd ⊢
  simp only [Bool.or_eq_true, Bool.and_eq_true, beq_iff_eq] at htt
  cases ins <;> first | (cases ht; done) | skip
  case iaload =>
    have : len = 1 := by simpa [av_lenok, av_len] using hlen
    subst this
    cases ht
    have : t' = 0 := by omega
    subst this
    rcases hE with ⟨_, f, rfl, hf⟩ | ⟨q, _⟩ | ⟨q, _⟩
    · exact va_iald hx hb hK hP k 0 e2 rfl hin hd (go _ (hg (fun j => .int (f j)) hf))
    · omega
    · omega
  case baload =>
    have : len = 1 := by simpa [av_lenok, av_len] using hlen
    subst this
    cases ht
    rcases (show t' = 1 ∨ t' = 2 by omega) with rfl | rfl
    · rcases hE with ⟨_, f, rfl, hf⟩ | ⟨q, _⟩ | ⟨q, _⟩
      · exact va_bald hx hb hK hP k 1 e2 rfl hin hd (go _ (hg (fun j => .int (f j)) hf))
      · omega
      · omega
    · rcases hE with ⟨_, f, rfl, hf⟩ | ⟨q, _⟩ | ⟨q, _⟩
      · exact va_zald hx hb hK hP k 2 e2 rfl hin hd (go _ (hg (fun j => .int (f j)) hf))
      · omega
      · omega
  case laload =>
    have : len = 1 := by simpa [av_lenok, av_len] using hlen
    subst this
    cases ht
    have : t' = 3 := by omega
    subst this
    rcases hE with ⟨q, _⟩ | ⟨_, f, rfl, hf⟩ | ⟨q, _⟩
    · omega
    · exact va_lald hx hb hK hP k 3 e2 rfl hin hd (go _ (hg (fun j => .long (f j)) hf))
    · omega
  case aaload =>
    have : len = 1 := by simpa [av_lenok, av_len] using hlen
    subst this
    cases ht
    rcases (show t' = 4 ∨ t' = 5 by omega) with rfl | rfl
    · rcases hE with ⟨q, _⟩ | ⟨q, _⟩ | ⟨_, f, rfl, hf⟩
      · omega
      · omega
      · exact va_aldq hx hb hK hP k 4 e2 rfl hin hd (go _ (hg (fun j => va_rf (f j)) hf))
    · rcases hE with ⟨q, _⟩ | ⟨q, _⟩ | ⟨_, f, rfl, hf⟩
      · omega
      · omega
      · exact va_aldq hx hb hK hP k 5 e2 rfl hin hd (go _ (hg (fun j => va_rf (f j)) hf))
theorem av_dn0 {sv : Nat → Value} {as : List Nat} {v : av_V} {x : Int32} (h : av_dn sv [] v (.int x)) : av_dn sv as v (.int x) := av_dn_up (List.nil_prefix) h
theorem av_lds_ok {pc len a b t j : Nat} {ins : Instr} {z : Int} {i : Int × Int} {v : av_V} {xs : List av_V} {L : av_L} {st : List av_V} {h : av_H} {cN sN : Nat} (C0 : av_Cx Ts cl D cy A sv X M p R s m args meth c) (ok : av_ok Ts cl mt M (pc, ins, len, a, b, z)) (ht : av_ldk ins = some t) (hk : av_row X j = some xs) (htt : (t + j == 2) = true) (hv : av_rd xs i = some v)
    (kk : av_Good cl D cy A sv as0 M.1.2.2.2.1 p l e R s m args below meth c Q (pc + len, L, v :: st, h, cN, sN)) : av_Good cl D cy A sv as0 M.1.2.2.2.1 p l e R s m args below meth c Q (pc, L, av_i i :: av_s j :: st, h, cN, sN) := by
  obtain ⟨hx, hb, -, -, -, -, -, -, hK, -, hSF, -⟩ := C0
  obtain ⟨hsv, ⟨q0, q1, a1, a2, a3, a4, a5, a6, f, a7, a8⟩, h2, h3, -, h4⟩ := hSF
  obtain ⟨hd, hlen, -⟩ := ok
  intro as ws H locs ls stv has hH hP hD hS hL hst
  obtain ⟨_, stv1, rfl, ⟨n, rfl, hn⟩, hst1⟩ := av_relS_cons hst
  obtain ⟨x, stv2, rfl, hxs, hst2⟩ := av_relS_cons hst1
  obtain ⟨hin, hg⟩ := av_rd_ok (sv := sv) (as := as) hv hn
  have go := fun x (hx : av_dn sv as v x) => kk as ws H locs ls (x :: stv2) has hH hP hD hS hL ⟨hx, hst2⟩
  dsimp only at go hd ⊢
  simp only [beq_iff_eq] at htt
  rw [show x = sv j from hxs]
  cases ins <;> first | (cases ht; done) | skip
  case iaload =>
    have : len = 1 := by simpa [av_lenok, av_len] using hlen
    subst this
    cases ht
    have : j = 2 := by omega
    subst this
    obtain ⟨bb, f2, b1, b2, b3, b4, b5⟩ := h4 xs hk
    rw [b1]
    exact va_sld hx hb b2 b3 b4 hS hin hd (go _ (hg (fun j => .int (f2 j)) (fun k w hw => av_dn0 (b5 k w hw))))
  case baload =>
    have : len = 1 := by simpa [av_lenok, av_len] using hlen
    subst this
    cases ht
    have : j = 1 := by omega
    subst this
    cases hk
    rw [a2]
    exact va_tb hx hb a7 hS hin rfl hd (go _ (hg (fun j => .int (f j)) (fun k w hw => av_dn0 (a8 k w hw))))
  case laload => cases ht; omega
  case aaload => cases ht; omega
theorem av_len_ok {pc len a b k t : Nat} {z : Int} {xs : List av_V} {L : av_L} {st : List av_V} {h : av_H} {cN sN : Nat} (C0 : av_Cx Ts cl D cy A sv X M p R s m args meth c) (ok : av_ok Ts cl mt M (pc, .arraylength, len, a, b, z)) (hk : h[k]? = some (.inl (t, xs)))
    (kk : av_Good cl D cy A sv as0 M.1.2.2.2.1 p l e R s m args below meth c Q (pc + len, L, av_c (Int32.ofNat xs.length) :: st, h, cN, sN)) : av_Good cl D cy A sv as0 M.1.2.2.2.1 p l e R s m args below meth c Q (pc, L, av_r k :: st, h, cN, sN) := by
  obtain ⟨hx, hb, -, -, -, -, -, -, hK, -⟩ := C0
  obtain ⟨hd, hlen, -⟩ := ok
  intro as ws H locs ls stv has hH hP hD hS hL hst
  obtain ⟨_, stv1, rfl, ⟨ad, had, rfl⟩, hst1⟩ := av_relS_cons hst
  obtain ⟨ad', en, e1, e2, hE⟩ := hH.2.2 k _ hk
  cases had.symm.trans e1
  have : len = 1 := by simpa [av_lenok, av_len] using hlen
  subst this
  have go := kk as ws H locs ls (_ :: stv1) has hH hP hD hS hL ⟨av_dn_c _, hst1⟩
  have hty : ∃ ty, (av_tys cy)[t]? = some (cy t, ty) := by
    rcases hE with ⟨q, _⟩ | ⟨rfl, _⟩ | ⟨rfl | rfl, _⟩
    · rcases (show t = 0 ∨ t = 1 ∨ t = 2 by omega) with rfl | rfl | rfl
      · exact ⟨_, rfl⟩
      · exact ⟨_, rfl⟩
      · exact ⟨_, rfl⟩
    · exact ⟨_, rfl⟩
    · exact ⟨_, rfl⟩
    · exact ⟨_, rfl⟩
  obtain ⟨ty, hty⟩ := hty
  rcases hE with ⟨_, f, rfl, hf⟩ | ⟨_, f, rfl, hf⟩ | ⟨_, f, rfl, hf⟩
  · exact va_alen hx hb hK hP k t e2 hty rfl hd go
  · exact va_alen hx hb hK hP k t e2 hty rfl hd go
  · exact va_alen hx hb hK hP k t e2 hty rfl hd go
theorem av_lens_ok {pc len a b j : Nat} {z : Int} {xs : List av_V} {L : av_L} {st : List av_V} {h : av_H} {cN sN : Nat} (C0 : av_Cx Ts cl D cy A sv X M p R s m args meth c) (ok : av_ok Ts cl mt M (pc, .arraylength, len, a, b, z)) (hk : av_row X j = some xs)
    (kk : av_Good cl D cy A sv as0 M.1.2.2.2.1 p l e R s m args below meth c Q (pc + len, L, av_c (Int32.ofNat xs.length) :: st, h, cN, sN)) : av_Good cl D cy A sv as0 M.1.2.2.2.1 p l e R s m args below meth c Q (pc, L, av_s j :: st, h, cN, sN) := by
  obtain ⟨hx, hb, -, -, -, -, -, -, hK, -, hSF, -⟩ := C0
  obtain ⟨hsv, ⟨q0, q1, a1, a2, a3, a4, a5, a6, f, a7, a8⟩, h2, h3, -, h4⟩ := hSF
  obtain ⟨hd, hlen, -⟩ := ok
  intro as ws H locs ls stv has hH hP hD hS hL hst
  obtain ⟨x, stv1, rfl, hxs, hst1⟩ := av_relS_cons hst
  have : len = 1 := by simpa [av_lenok, av_len] using hlen
  subst this
  have go := kk as ws H locs ls (_ :: stv1) has hH hP hD hS hL ⟨av_dn_c _, hst1⟩
  dsimp only at go hd ⊢
  rw [show x = sv j from hxs]
  match j, hk with
  | 1, hk =>
    cases hk
    rw [a2]
    exact va_tlen hx hb a7 hS rfl hd go
  | 2, hk =>
    obtain ⟨bb, f2, b1, b2, b3, b4, b5⟩ := h4 xs hk
    rw [b1]
    exact va_slen hx hb b2 b3 b4 hS hd go
end AVR
end
section
/-! ===== rows at abstract frames: stores, fields, what is made ===== -/
theorem av_set_get {α : Type} {xs : List α} {i k : Nat} {v w : α} (h : (xs.set i v)[k]? = some w) : (k = i ∧ w = v) ∨ (k ≠ i ∧ xs[k]? = some w) := by
  by_cases hk : i = k
  · subst hk
    have hlt : i < xs.length := by
      have := (List.getElem?_eq_some_iff.mp h).1
      simpa using this
    rw [List.getElem?_set_self hlt] at h
    cases h
    exact .inl ⟨rfl, rfl⟩
  · rw [List.getElem?_set_ne hk] at h
    exact .inr ⟨fun q => hk q.symm, h⟩
section AVR
variable {Ts : List Jvm.Cond} {cl : List vw_C} {D : va_G} {cy : Nat → ClassId} {A : Nat → Prop} {sv : Nat → Value} {as0 : List Nat} {X : av_X} {M : av_M} {mt : Nat → av_M} {F : av_F} {p : Program} {l : Launch} {e : Env} {R : Room} {s : State} {m : MethodId} {args : Array Value} {below : List Frame} {meth : Method} {c : Code} {Q : State → Prop}
theorem av_st_ok {pc len a b t t' k : Nat} {ins : Instr} {z : Int} {i : Int × Int} {v : av_V} {xs : List av_V} {L : av_L} {st : List av_V} {h : av_H} {cN sN : Nat} (C0 : av_Cx Ts cl D cy A sv X M p R s m args meth c) (ok : av_ok Ts cl mt M (pc, ins, len, a, b, z)) (ht : av_stk ins = some t) (ht4 : t ≠ 4) (hk : h[k]? = some (.inl (t', xs))) (htt : (t' == t || (t == 1 && t' == 2) || (t == 4 && t' == 5)) = true)
    (hi : i.1 = i.2) (h0 : 0 ≤ i.1) (hl : i.1 < (xs.length : Int)) (hfit : av_fit t' v = true)
    (kk : av_Good cl D cy A sv as0 M.1.2.2.2.1 p l e R s m args below meth c Q (pc + len, L, st, h.set k (.inl (t', xs.set i.1.toNat v)), cN, sN)) : av_Good cl D cy A sv as0 M.1.2.2.2.1 p l e R s m args below meth c Q (pc, L, v :: av_i i :: av_r k :: st, h, cN, sN) := by
  obtain ⟨hx, hb, -, -, -, -, -, -, hK, -⟩ := C0
  obtain ⟨hd, hlen, -⟩ := ok
  intro as ws H locs ls stv has hH hP hD hS hL hst
  obtain ⟨xv, stv1, rfl, hxv, hst1⟩ := av_relS_cons hst
  obtain ⟨_, stv2, rfl, ⟨n, rfl, hn⟩, hst2⟩ := av_relS_cons hst1
  obtain ⟨_, stv3, rfl, ⟨ad, had, rfl⟩, hst3⟩ := av_relS_cons hst2
  obtain ⟨ad', en, e1, e2, hE⟩ := hH.2.2 k _ hk
  cases had.symm.trans e1
  have hin : vp_in n xs.length := vp_in_iff.mpr ⟨by omega, by omega⟩
  have hcl : n.toNatClampNeg = i.1.toNat := by rw [av_clamp]; omega
  simp only [Bool.or_eq_true, Bool.and_eq_true, beq_iff_eq] at htt
  have hint : ∀ y : Int32, xv = .int y → ∀ (f : Nat → Int32), (∀ (k : Nat) (w : av_V), xs[k]? = some w → av_dn sv as w (.int (f k))) → ∀ (k : Nat) (w : av_V), (xs.set i.1.toNat v)[k]? = some w → av_dn sv as w (.int (upd f n.toNatClampNeg y k)) := by
    intro y hy f hf k w hw
    rw [hcl]
    rcases av_set_get hw with ⟨rfl, rfl⟩ | ⟨q, hw⟩
    · rw [pk_us, ← hy]; exact hxv
    · rw [pk_un q]; exact hf k w hw
  have go := fun (en : va_E) (hE' : av_relE cy sv as (.inl (t', xs.set i.1.toNat v)) en) (H1 : Heap) (locs1 : List Loc) (hP1 : va_P D cl (ws.set k (ad, en)) H1) (hD1 : va_D A (ws.set k (ad, en))) (hS1 : va_S A s.heap H1 locs1) => kk as _ H1 locs1 ls stv3 has (av_relH_set hH e1 hE') hP1 hD1 hS1 hL hst3
  dsimp only at go hd ⊢
  cases ins <;> first | (cases ht; done) | skip
  case iastore =>
    have : len = 1 := by simpa [av_lenok, av_len] using hlen
    subst this
    cases ht
    have : t' = 0 := by omega
    subst this
    obtain ⟨y, rfl⟩ : ∃ y : Int32, xv = .int y := by
      match v, hfit, hxv with
      | .inr (.inl _), _, hxv => obtain ⟨y, q, _⟩ := hxv; exact ⟨y, q⟩
    rcases hE with ⟨_, f, rfl, hf⟩ | ⟨q, _⟩ | ⟨q, _⟩
    · refine va_iast hx hb hK hP hD hS k 0 e2 rfl hin hd fun H1 locs1 hP1 hD1 hS1 => go _ ?_ H1 locs1 hP1 hD1 hS1
      exact .inl ⟨by omega, upd f n.toNatClampNeg y, by simp, hint y rfl f hf⟩
    · omega
    · omega
  case bastore =>
    have : len = 1 := by simpa [av_lenok, av_len] using hlen
    subst this
    cases ht
    obtain ⟨y, hy⟩ : ∃ y : Int32, xv = .int y := by
      rcases (show t' = 1 ∨ t' = 2 by omega) with rfl | rfl
      · match v, hfit, hxv with
        | .inr (.inl _), _, hxv => obtain ⟨y, q, _⟩ := hxv; exact ⟨y, q⟩
      · match v, hfit, hxv with
        | .inr (.inl _), _, hxv => obtain ⟨y, q, _⟩ := hxv; exact ⟨y, q⟩
    rcases (show t' = 1 ∨ t' = 2 by omega) with rfl | rfl
    · have hnar := (av_fit_ok (ty := .byte) hfit hxv).1
      subst hy
      have hnb : vp_nar .byte y = y := by unfold vp_nar; rw [hnar]
      rcases hE with ⟨_, f, rfl, hf⟩ | ⟨q, _⟩ | ⟨q, _⟩
      · refine va_bast hx hb hK hP hD hS k 1 e2 rfl hin hd fun H1 locs1 hP1 hD1 hS1 => go _ ?_ H1 locs1 hP1 hD1 hS1
        exact .inl ⟨by omega, upd f n.toNatClampNeg (vp_nar .byte y), by simp, by rw [hnb]; exact hint y rfl f hf⟩
      · omega
      · omega
    · have hnar := (av_fit_ok (ty := .boolean) hfit hxv).1
      subst hy
      have hnb : vp_nar .boolean y = y := by unfold vp_nar; rw [hnar]
      rcases hE with ⟨_, f, rfl, hf⟩ | ⟨q, _⟩ | ⟨q, _⟩
      · refine va_zast hx hb hK hP hD hS k 2 e2 rfl hin hd fun H1 locs1 hP1 hD1 hS1 => go _ ?_ H1 locs1 hP1 hD1 hS1
        exact .inl ⟨by omega, upd f n.toNatClampNeg (vp_nar .boolean y), by simp, by rw [hnb]; exact hint y rfl f hf⟩
      · omega
      · omega
  case aastore => cases ht; exact absurd rfl ht4
theorem av_sta_ok {pc len a b t' k j ci : Nat} {z : Int} {i : Int × Int} {xs fs : List av_V} {L : av_L} {st : List av_V} {h : av_H} {cN sN : Nat} (C0 : av_Cx Ts cl D cy A sv X M p R s m args meth c) (ok : av_ok Ts cl mt M (pc, .aastore, len, a, b, z)) (hcl4 : ∃ T N, cl[1]? = some ("SagGates$Gate", T, N)) (hcl5 : ∃ T N, cl[7]? = some ("SagGates$Told", T, N)) (hk : h[k]? = some (.inl (t', xs))) (htt : t' = 4 ∨ t' = 5)
    (hi : i.1 = i.2) (h0 : 0 ≤ i.1) (hl : i.1 < (xs.length : Int)) (hj : h[j]? = some (.inr (ci, fs))) (hci : ci = (bif t' == 4 then 1 else 7))
    (kk : av_Good cl D cy A sv as0 M.1.2.2.2.1 p l e R s m args below meth c Q (pc + len, L, st, h.set k (.inl (t', xs.set i.1.toNat (av_r j))), cN, sN)) : av_Good cl D cy A sv as0 M.1.2.2.2.1 p l e R s m args below meth c Q (pc, L, av_r j :: av_i i :: av_r k :: st, h, cN, sN) := by
  obtain ⟨hx, hb, -, -, -, -, -, -, hK, -⟩ := C0
  obtain ⟨hd, hlen, -⟩ := ok
  intro as ws H locs ls stv has hH hP hD hS hL hst
  obtain ⟨_, stv1, rfl, ⟨aj, haj, rfl⟩, hst1⟩ := av_relS_cons hst
  obtain ⟨_, stv2, rfl, ⟨n, rfl, hn⟩, hst2⟩ := av_relS_cons hst1
  obtain ⟨_, stv3, rfl, ⟨ad, had, rfl⟩, hst3⟩ := av_relS_cons hst2
  obtain ⟨ad', en, e1, e2, hE⟩ := hH.2.2 k _ hk
  cases had.symm.trans e1
  obtain ⟨aj', ej, j1, j2, hEj⟩ := hH.2.2 j _ hj
  cases haj.symm.trans j1
  obtain ⟨vs, rfl, -, -⟩ := hEj
  have hin : vp_in n xs.length := vp_in_iff.mpr ⟨by omega, by omega⟩
  have hcl : n.toNatClampNeg = i.1.toNat := by rw [av_clamp]; omega
  have : len = 1 := by simpa [av_lenok, av_len] using hlen
  subst this
  have go := fun (en : va_E) (hE' : av_relE cy sv as (.inl (t', xs.set i.1.toNat (av_r j))) en) (H1 : Heap) (locs1 : List Loc) (hP1 : va_P D cl (ws.set k (ad, en)) H1) (hD1 : va_D A (ws.set k (ad, en))) (hS1 : va_S A s.heap H1 locs1) => kk as _ H1 locs1 ls stv3 has (av_relH_set hH e1 hE') hP1 hD1 hS1 hL hst3
  dsimp only at go hd ⊢
  have hup : ∀ (f : Nat → Option Nat), (∀ (k : Nat) (w : av_V), xs[k]? = some w → av_dn sv as w (va_rf (f k))) → ∀ (k : Nat) (w : av_V), (xs.set i.1.toNat (av_r j))[k]? = some w → av_dn sv as w (va_rf (va_up f n.toNatClampNeg (some aj) k)) := by
    intro f hf k w hw
    rw [hcl]
    rcases av_set_get hw with ⟨rfl, rfl⟩ | ⟨q, hw⟩
    · rw [va_up_self]; exact ⟨aj, haj, rfl⟩
    · rw [va_up_ne _ _ q]; exact hf k w hw
  rcases htt with rfl | rfl
  · subst hci
    obtain ⟨T, N, hc4⟩ := hcl4
    rcases hE with ⟨q, _⟩ | ⟨q, _⟩ | ⟨_, f, rfl, hf⟩
    · omega
    · omega
    · refine va_astq hx hb hK hP hD hS k 4 j 1 (r := ("SagGates$Gate", T, N)) e2 rfl j2 hc4 hin hd fun H1 locs1 hP1 hD1 hS1 => go _ ?_ H1 locs1 hP1 hD1 hS1
      exact .inr (.inr ⟨.inl rfl, va_up f n.toNatClampNeg (some aj), by simp, hup f hf⟩)
  · subst hci
    obtain ⟨T, N, hc5⟩ := hcl5
    rcases hE with ⟨q, _⟩ | ⟨q, _⟩ | ⟨_, f, rfl, hf⟩
    · omega
    · omega
    · refine va_astq hx hb hK hP hD hS k 5 j 7 (r := ("SagGates$Told", T, N)) e2 rfl j2 hc5 hin hd fun H1 locs1 hP1 hD1 hS1 => go _ ?_ H1 locs1 hP1 hD1 hS1
      exact .inr (.inr ⟨.inr rfl, va_up f n.toNatClampNeg (some aj), by simp, hup f hf⟩)
theorem av_getf_ok {pc len a b k i : Nat} {z : Int} {v : av_V} {fs : List av_V} {L : av_L} {st : List av_V} {h : av_H} {cN sN : Nat} (C0 : av_Cx Ts cl D cy A sv X M p R s m args meth c) (hcls : av_cls Ts cl F) (ok : av_ok Ts cl mt M (pc, .getfield i, len, a, b, z)) (hk : h[k]? = some (.inr (a, fs))) (hv : fs[b]? = some v) (ha : a ≠ 100)
    (kk : av_Good cl D cy A sv as0 M.1.2.2.2.1 p l e R s m args below meth c Q (pc + len, L, v :: st, h, cN, sN)) : av_Good cl D cy A sv as0 M.1.2.2.2.1 p l e R s m args below meth c Q (pc, L, av_r k :: st, h, cN, sN) := by
  obtain ⟨hx, hb, hml, hown, hts, hr, hlk, hnm, hK, -⟩ := C0
  obtain ⟨hd, hlen, hok⟩ := ok
  intro as ws H locs ls stv has hH hP hD hS hL hst
  obtain ⟨_, stv1, rfl, ⟨ad, had, rfl⟩, hst1⟩ := av_relS_cons hst
  obtain ⟨ad', en, e1, e2, hE⟩ := hH.2.2 k _ hk
  cases had.symm.trans e1
  obtain ⟨vs, rfl, g1, g2⟩ := hE
  obtain ⟨x, g3, g4⟩ := g2 b v hv
  have : len = 3 := by simpa [av_lenok, av_len] using hlen
  subst this
  obtain ⟨C, T, N, c1, c2, c3⟩ := hok.2 ha
  exact va_get hx hb hts (hcls a C T N c1).1 hown hK hP k e2 c1 b c2 (hts _ c3) (fun x h => h) g3 hd (kk as ws H locs ls (x :: stv1) has hH hP hD hS hL ⟨g4, hst1⟩)
theorem av_getS_ok {pc len b i : Nat} {z : Int} {L : av_L} {st : List av_V} {h : av_H} {cN sN : Nat} (C0 : av_Cx Ts cl D cy A sv X M p R s m args meth c) (ok : av_ok Ts cl mt M (pc, .getfield i, len, 100, b, z))
    (kk : av_Good cl D cy A sv as0 M.1.2.2.2.1 p l e R s m args below meth c Q (pc + len, L, (bif b == 0 then av_s 1 else av_c 0) :: st, h, cN, sN)) : av_Good cl D cy A sv as0 M.1.2.2.2.1 p l e R s m args below meth c Q (pc, L, av_s 0 :: st, h, cN, sN) := by
  obtain ⟨hx, hb, hml, hown, hts, hr, hlk, hnm, hK, -, hSF, -⟩ := C0
  obtain ⟨hsv, ⟨q0, q1, a1, a2, a3, a4, a5, a6, f, a7, a8⟩, h2, h3, -, h4⟩ := hSF
  obtain ⟨hd, hlen, hok⟩ := ok
  intro as ws H locs ls stv has hH hP hD hS hL hst
  obtain ⟨x, stv1, rfl, hxs, hst1⟩ := av_relS_cons hst
  have : len = 3 := by simpa [av_lenok, av_len] using hlen
  subst this
  have hok1 := hok.1 rfl
  have go := fun x (hx : av_dn sv as (bif b == 0 then av_s 1 else av_c 0) x) => kk as ws H locs ls (x :: stv1) has hH hP hD hS hL ⟨hx, hst1⟩
  dsimp only at go hd hok1 ⊢
  rw [show x = sv 0 from hxs, a1]
  by_cases hb0 : b = 0
  · subst hb0
    exact vk_getf hx hb a5 hS hown (hts _ (hok1.1 rfl)) (fun x h => h) hd (go _ a2.symm)
  · have e : (b == 0) = false := by simpa using hb0
    rw [e] at go
    exact vk_getf hx hb a6 hS hown (hts _ (hok1.2 hb0)) (fun x h => h) hd (go _ (av_dn_c 0))
theorem av_putf_ok {pc len a b k i : Nat} {z : Int} {v : av_V} {fs : List av_V} {L : av_L} {st : List av_V} {h : av_H} {cN sN : Nat} (C0 : av_Cx Ts cl D cy A sv X M p R s m args meth c) (hcls : av_cls Ts cl F) (ok : av_ok Ts cl mt M (pc, .putfield i, len, a, b, z)) (hk : h[k]? = some (.inr (a, fs))) (hbl : b < fs.length) (hfit : av_fit z.toNat v = true)
    (kk : av_Good cl D cy A sv as0 M.1.2.2.2.1 p l e R s m args below meth c Q (pc + len, L, st, h.set k (.inr (a, fs.set b v)), cN, sN)) : av_Good cl D cy A sv as0 M.1.2.2.2.1 p l e R s m args below meth c Q (pc, L, v :: av_r k :: st, h, cN, sN) := by
  obtain ⟨hx, hb, hml, hown, hts, hr, hlk, hnm, hK, -⟩ := C0
  obtain ⟨hd, hlen, hok⟩ := ok
  intro as ws H locs ls stv has hH hP hD hS hL hst
  obtain ⟨xv, stv1, rfl, hxv, hst1⟩ := av_relS_cons hst
  obtain ⟨_, stv2, rfl, ⟨ad, had, rfl⟩, hst2⟩ := av_relS_cons hst1
  obtain ⟨ad', en, e1, e2, hE⟩ := hH.2.2 k _ hk
  cases had.symm.trans e1
  obtain ⟨vs, rfl, g1, g2⟩ := hE
  have : len = 3 := by simpa [av_lenok, av_len] using hlen
  subst this
  obtain ⟨C, T, N, ty, c1, c2, c3, c4, c5, c6⟩ := hok
  dsimp only at c1 c2 c3 c4 c5 c6
  rw [← c5] at hfit
  obtain ⟨f1, f2⟩ := av_fit_ok hfit hxv
  obtain ⟨k1, k2, tys0, ks, k3, -⟩ := hcls a C T N c1
  have hE' : av_relE cy sv as (.inr (a, fs.set b v)) (.inr (a, vs.set b xv)) := by
    refine ⟨_, rfl, by simpa using g1, fun j w hw => ?_⟩
    rcases av_set_get hw with ⟨rfl, rfl⟩ | ⟨q, hw⟩
    · exact ⟨xv, List.getElem?_set_self (by omega), hxv⟩
    · obtain ⟨y, y1, y2⟩ := g2 j w hw
      exact ⟨y, by rw [List.getElem?_set_ne (fun q' => q q'.symm)]; exact y1, y2⟩
  have go := fun (H1 : Heap) (locs1 : List Loc) (hP1 : va_P D cl (ws.set k (ad, .inr (a, vs.set b xv))) H1) (hD1 : va_D A (ws.set k (ad, .inr (a, vs.set b xv)))) (hS1 : va_S A s.heap H1 locs1) => kk as _ H1 locs1 ls stv2 has (av_relH_set hH e1 hE') hP1 hD1 hS1 hL hst2
  cases hfin : (T b).2.2.2 with
  | false => exact va_put hx hb hts k1 tys0 k3 k2 hown hK hP hD hS k e2 c1 b c2 (hts _ c3) (fun x h => h) hfin c4 f1 f2 (by omega) hd go
  | true =>
    obtain ⟨d1, d2⟩ := c6 hfin
    exact va_putF hx hb hts k1 tys0 k3 k2 hown hK hP hD hS k e2 c1 b c2 (hts _ c3) (fun x h => h) hfin (hnm.trans d1) d2 c4 f1 f2 (by omega) hd go
end AVR
end
section
/-! ===== rows at abstract frames: what is made; Object.<init> ===== -/
def av_dv (t : Nat) : Value := match t with
  | 3 => .long 0
  | 4 => .null
  | 5 => .null
  | _ => .int 0
theorem av_dv_ok {sv : Nat → Value} {as : List Nat} {t : Nat} (h : t ≤ 4) : av_dn sv as (av_dfl t) (av_dv t) := by
  match t, h with
  | 0, _ => exact ⟨0, rfl, by decide, by decide⟩
  | 1, _ => exact ⟨0, rfl, by decide, by decide⟩
  | 2, _ => exact ⟨0, rfl, by decide, by decide⟩
  | 3, _ => exact ⟨0, rfl, by decide, by decide⟩
  | 4, _ => exact rfl
theorem av_dv_ty {ty : FieldType} (h : av_kd ty ≤ 4) : defaultValue ty = av_dv (av_kd ty) := by
  cases ty <;> first | rfl | (simp [av_kd] at h)
theorem av_rep {α : Type} {n k : Nat} {x y : α} (h : (List.replicate n x)[k]? = some y) : y = x := by
  rw [List.getElem?_replicate] at h
  split at h
  · cases h; rfl
  · cases h
section AVR
variable {Ts : List Jvm.Cond} {cl : List vw_C} {D : va_G} {cy : Nat → ClassId} {A : Nat → Prop} {sv : Nat → Value} {as0 : List Nat} {X : av_X} {M : av_M} {mt : Nat → av_M} {F : av_F} {p : Program} {l : Launch} {e : Env} {R : Room} {s : State} {m : MethodId} {args : Array Value} {below : List Frame} {meth : Method} {c : Code} {Q : State → Prop}
theorem av_new_ok {pc len a b i : Nat} {z : Int} {ks : List Nat} {L : av_L} {st : List av_V} {h : av_H} {cN sN : Nat} (C0 : av_Cx Ts cl D cy A sv X M p R s m args meth c) (hcls : av_cls Ts cl F) (ok : av_ok Ts cl mt M (pc, .new i, len, a, b, z)) (hks : F[a]? = some ks) (h1 : cN + 1 ≤ M.2.2.1) (h2 : sN + ks.length ≤ M.2.2.2.1)
    (kk : av_Good cl D cy A sv as0 M.1.2.2.2.1 p l e R s m args below meth c Q (pc + len, L, av_r h.length :: st, h ++ [.inr (a, ks.map av_dfl)], cN + 1, sN + ks.length)) : av_Good cl D cy A sv as0 M.1.2.2.2.1 p l e R s m args below meth c Q (pc, L, st, h, cN, sN) := by
  obtain ⟨hx, hb, hml, hown, hts, hr, hlk, hnm, hK, hA, hSF, r1, r2, -⟩ := C0
  obtain ⟨hd, hlen, hok⟩ := ok
  intro as ws H locs ls stv has hH hP hD hS hL hst
  have : len = 3 := by simpa [av_lenok, av_len] using hlen
  subst this
  obtain ⟨C, T, N, c1, c2, c3, c4⟩ := hok
  dsimp only at c1 c2 c3 c4
  obtain ⟨k1, k2, ty, ks', k3, k4, k5, k6⟩ := hcls a C T N c1
  cases hks.symm.trans k4
  have hfs : ∀ j, j < N → defaultValue (ty j) = vp_V (ks.map av_dv) j := by
    intro j hj
    obtain ⟨q1, q2, -⟩ := k6 j hj
    rw [av_dv_ty q2]
    unfold vp_V
    rw [List.getD_eq_getElem?_getD, List.getElem?_map, q1]
    rfl
  subst k5
  refine va_new hx hb hts k1 ty k3 hown (hts _ c2) (hts _ c3) (hts _ c4) hK hP hD hS hA c1 hfs (by rw [r1]; exact h1) (by rw [r2]; exact h2) hd fun q H1 hP1 hD1 hS1 => ?_
  have hpre : as <+: as ++ [q] := List.prefix_append _ _
  refine kk (as ++ [q]) _ H1 locs ls (.ref q :: stv) (has.trans hpre) (av_relH_push hH (e := .inr (a, ks.map av_dv)) ?_) hP1 hD1 hS1 (av_relL_up hpre hL) ⟨⟨q, ?_, rfl⟩, av_relS_up hpre hst⟩
  · refine ⟨_, rfl, by simp, fun j w hw => ?_⟩
    rw [List.getElem?_map] at hw ⊢
    cases hkj : ks[j]? with
    | none => rw [hkj] at hw; cases hw
    | some t =>
      rw [hkj] at hw
      cases hw
      have hjl := (List.getElem?_eq_some_iff.mp hkj).1
      obtain ⟨q1, q2, -⟩ := k6 j hjl
      cases hkj.symm.trans q1
      exact ⟨_, rfl, av_dv_ok q2⟩
  · rw [← hH.1, List.getElem?_append_right (Nat.le_refl _)]
    simp
theorem av_newa_ok {pc len a b : Nat} {at0 : ArrayType} {z : Int} {u : Int × Int} {L : av_L} {st : List av_V} {h : av_H} {cN sN : Nat} (C0 : av_Cx Ts cl D cy A sv X M p R s m args meth c) (ok : av_ok Ts cl mt M (pc, .newarray at0, len, a, b, z)) (hu : u.1 = u.2) (h0 : 0 ≤ u.1) (hm : u.1 ≤ 10000) (ha : a ≤ 3) (h1 : cN + 1 ≤ M.2.2.1) (h2 : sN + u.1.toNat ≤ M.2.2.2.1)
    (kk : av_Good cl D cy A sv as0 M.1.2.2.2.1 p l e R s m args below meth c Q (pc + len, L, av_r h.length :: st, h ++ [.inl (a, List.replicate u.1.toNat (av_dfl a))], cN + 1, sN + u.1.toNat)) : av_Good cl D cy A sv as0 M.1.2.2.2.1 p l e R s m args below meth c Q (pc, L, av_i u :: st, h, cN, sN) := by
  obtain ⟨hx, hb, hml, hown, hts, hr, hlk, hnm, hK, hA, hSF, r1, r2, -⟩ := C0
  obtain ⟨hd, hlen, hok⟩ := ok
  intro as ws H locs ls stv has hH hP hD hS hL hst
  obtain ⟨_, stv1, rfl, ⟨n, rfl, hn⟩, hst1⟩ := av_relS_cons hst
  have : len = 2 := by simpa [av_lenok, av_len] using hlen
  subst this
  obtain ⟨c1, c2⟩ := hok
  dsimp only at c1 c2
  have hn0 : ¬ n < 0 := by rw [Int32.lt_iff_toInt_lt]; have : (0 : Int32).toInt = 0 := by decide
                           omega
  have hcl : n.toNatClampNeg = u.1.toNat := by rw [av_clamp]; omega
  have go := fun (q : Nat) (en : va_E) (H1 : Heap) (hE : av_relE cy sv (as ++ [q]) (.inl (a, List.replicate u.1.toNat (av_dfl a))) en) (hP1 : va_P D cl (ws ++ [(q, en)]) H1) (hD1 : va_D A (ws ++ [(q, en)])) (hS1 : va_S A s.heap H1 locs) =>
    kk (as ++ [q]) _ H1 locs ls (.ref q :: stv1) (has.trans (List.prefix_append _ _)) (av_relH_push hH hE) hP1 hD1 hS1 (av_relL_up (List.prefix_append _ _) hL) ⟨⟨q, by rw [← hH.1, List.getElem?_append_right (Nat.le_refl _)]; simp, rfl⟩, av_relS_up (List.prefix_append _ _) hst1⟩
  dsimp only at go hd ⊢
  cases at0 <;> first | (exfalso; simp [av_ak] at c2; omega) | skip
  case int =>
    cases c2
    refine va_newa (a0 := (u.1.toNat, .inl fun _ => 0)) (N' := u.1.toNat) hx hb (hts _ c1) rfl hK hP hD hS hA (fun _ => rfl) hn0 hcl (Nat.le_trans (Nat.mul_le_mul (show u.1.toNat ≤ 10000 by omega) (show componentBytes .int ≤ 8 by decide)) (by decide)) (by rw [r1]; exact h1) (by rw [r2]; exact h2) hd fun q cA H1 hK1 hP1 hD1 hS1 => ?_
    have e : cA = cy 0 := Option.some.inj ((show s.vm.findClass _ = some cA from (hK1.2 6 (cA, .int) rfl).2).symm.trans (show s.vm.findClass _ = some (cy 0) from (hK.2 0 _ rfl).2))
    subst e
    exact go q (.inl (cy 0, u.1.toNat, .inl fun _ => 0)) H1 (.inl ⟨by decide, fun _ => 0, by (simp only [List.length_replicate]) <;> rfl, fun k w hw => by rw [av_rep hw]; exact ⟨0, rfl, by decide, by decide⟩⟩) hP1 hD1 hS1
  case byte =>
    cases c2
    refine va_newa (a0 := (u.1.toNat, .inl fun _ => 0)) (N' := u.1.toNat) hx hb (hts _ c1) rfl hK hP hD hS hA (fun _ => rfl) hn0 hcl (Nat.le_trans (Nat.mul_le_mul (show u.1.toNat ≤ 10000 by omega) (show componentBytes .byte ≤ 8 by decide)) (by decide)) (by rw [r1]; exact h1) (by rw [r2]; exact h2) hd fun q cA H1 hK1 hP1 hD1 hS1 => ?_
    have e : cA = cy 1 := Option.some.inj ((show s.vm.findClass _ = some cA from (hK1.2 6 (cA, .byte) rfl).2).symm.trans (show s.vm.findClass _ = some (cy 1) from (hK.2 1 _ rfl).2))
    subst e
    exact go q (.inl (cy 1, u.1.toNat, .inl fun _ => 0)) H1 (.inl ⟨by decide, fun _ => 0, by (simp only [List.length_replicate]) <;> rfl, fun k w hw => by rw [av_rep hw]; exact ⟨0, rfl, by decide, by decide⟩⟩) hP1 hD1 hS1
  case boolean =>
    cases c2
    refine va_newa (a0 := (u.1.toNat, .inl fun _ => 0)) (N' := u.1.toNat) hx hb (hts _ c1) rfl hK hP hD hS hA (fun _ => rfl) hn0 hcl (Nat.le_trans (Nat.mul_le_mul (show u.1.toNat ≤ 10000 by omega) (show componentBytes .boolean ≤ 8 by decide)) (by decide)) (by rw [r1]; exact h1) (by rw [r2]; exact h2) hd fun q cA H1 hK1 hP1 hD1 hS1 => ?_
    have e : cA = cy 2 := Option.some.inj ((show s.vm.findClass _ = some cA from (hK1.2 6 (cA, .boolean) rfl).2).symm.trans (show s.vm.findClass _ = some (cy 2) from (hK.2 2 _ rfl).2))
    subst e
    exact go q (.inl (cy 2, u.1.toNat, .inl fun _ => 0)) H1 (.inl ⟨by decide, fun _ => 0, by (simp only [List.length_replicate]) <;> rfl, fun k w hw => by rw [av_rep hw]; exact ⟨0, rfl, by decide, by decide⟩⟩) hP1 hD1 hS1
  case long =>
    cases c2
    refine va_newa (a0 := (u.1.toNat, .inr (.inl fun _ => 0))) (N' := u.1.toNat) hx hb (hts _ c1) rfl hK hP hD hS hA (fun _ => rfl) hn0 hcl (Nat.le_trans (Nat.mul_le_mul (show u.1.toNat ≤ 10000 by omega) (show componentBytes .long ≤ 8 by decide)) (by decide)) (by rw [r1]; exact h1) (by rw [r2]; exact h2) hd fun q cA H1 hK1 hP1 hD1 hS1 => ?_
    have e : cA = cy 3 := Option.some.inj ((show s.vm.findClass _ = some cA from (hK1.2 6 (cA, .long) rfl).2).symm.trans (show s.vm.findClass _ = some (cy 3) from (hK.2 3 _ rfl).2))
    subst e
    exact go q (.inl (cy 3, u.1.toNat, .inr (.inl fun _ => 0))) H1 (.inr (.inl ⟨rfl, fun _ => 0, by (simp only [List.length_replicate]) <;> rfl, fun k w hw => by rw [av_rep hw]; exact ⟨0, rfl, by decide, by decide⟩⟩)) hP1 hD1 hS1
theorem av_anew_ok {pc len a b i : Nat} {z : Int} {u : Int × Int} {L : av_L} {st : List av_V} {h : av_H} {cN sN : Nat} (C0 : av_Cx Ts cl D cy A sv X M p R s m args meth c) (ok : av_ok Ts cl mt M (pc, .anewarray i, len, a, b, z)) (hu : u.1 = u.2) (h0 : 0 ≤ u.1) (hm : u.1 ≤ 10000) (ha : a = 4 ∨ a = 5) (h1 : cN + 1 ≤ M.2.2.1) (h2 : sN + u.1.toNat ≤ M.2.2.2.1)
    (kk : av_Good cl D cy A sv as0 M.1.2.2.2.1 p l e R s m args below meth c Q (pc + len, L, av_r h.length :: st, h ++ [.inl (a, List.replicate u.1.toNat (.inl none))], cN + 1, sN + u.1.toNat)) : av_Good cl D cy A sv as0 M.1.2.2.2.1 p l e R s m args below meth c Q (pc, L, av_i u :: st, h, cN, sN) := by
  obtain ⟨hx, hb, hml, hown, hts, hr, hlk, hnm, hK, hA, hSF, r1, r2, -⟩ := C0
  obtain ⟨hd, hlen, hok⟩ := ok
  intro as ws H locs ls stv has hH hP hD hS hL hst
  obtain ⟨_, stv1, rfl, ⟨n, rfl, hn⟩, hst1⟩ := av_relS_cons hst
  have : len = 3 := by simpa [av_lenok, av_len] using hlen
  subst this
  obtain ⟨c1, c2⟩ := hok
  dsimp only at c1 c2
  have hn0 : ¬ n < 0 := by rw [Int32.lt_iff_toInt_lt]; have : (0 : Int32).toInt = 0 := by decide
                           omega
  have hcl : n.toNatClampNeg = u.1.toNat := by rw [av_clamp]; omega
  have go := fun (q : Nat) (en : va_E) (H1 : Heap) (hE : av_relE cy sv (as ++ [q]) (.inl (a, List.replicate u.1.toNat (.inl none))) en) (hP1 : va_P D cl (ws ++ [(q, en)]) H1) (hD1 : va_D A (ws ++ [(q, en)])) (hS1 : va_S A s.heap H1 locs) =>
    kk (as ++ [q]) _ H1 locs ls (.ref q :: stv1) (has.trans (List.prefix_append _ _)) (av_relH_push hH hE) hP1 hD1 hS1 (av_relL_up (List.prefix_append _ _) hL) ⟨⟨q, by rw [← hH.1, List.getElem?_append_right (Nat.le_refl _)]; simp, rfl⟩, av_relS_up (List.prefix_append _ _) hst1⟩
  dsimp only at go hd ⊢
  rcases ha with rfl | rfl
  · refine va_newq (N' := u.1.toNat) hx hb hown (hts _ c1) (va_AO.of (hts _ c2)) hK hP hD hS hA hn0 hcl (by omega) (by rw [r1]; exact h1) (by rw [r2]; exact h2) hd fun q cA H1 hK1 hP1 hD1 hS1 => ?_
    obtain ⟨_, _, _, _, _, w1⟩ := (hK1.2 6 (cA, .object "SagGates$Gate") rfl).2
    obtain ⟨_, _, _, _, _, w2⟩ := (hK.2 4 _ rfl).2
    have e : cA = cy 4 := Option.some.inj (w1.symm.trans w2)
    subst e
    exact go q (.inl (cy 4, u.1.toNat, .inr (.inr (.inr (.inr fun _ => none))))) H1 (.inr (.inr ⟨.inl rfl, fun _ => none, by (simp only [List.length_replicate]) <;> rfl, fun k w hw => by rw [av_rep hw]; rfl⟩)) hP1 hD1 hS1
  · refine va_newq (N' := u.1.toNat) hx hb hown (hts _ c1) (va_AO.of (hts _ c2)) hK hP hD hS hA hn0 hcl (by omega) (by rw [r1]; exact h1) (by rw [r2]; exact h2) hd fun q cA H1 hK1 hP1 hD1 hS1 => ?_
    obtain ⟨_, _, _, _, _, w1⟩ := (hK1.2 6 (cA, .object "SagGates$Told") rfl).2
    obtain ⟨_, _, _, _, _, w2⟩ := (hK.2 5 _ rfl).2
    have e : cA = cy 5 := Option.some.inj (w1.symm.trans w2)
    subst e
    exact go q (.inl (cy 5, u.1.toNat, .inr (.inr (.inr (.inr fun _ => none))))) H1 (.inr (.inr ⟨.inr rfl, fun _ => none, by (simp only [List.length_replicate]) <;> rfl, fun k w hw => by rw [av_rep hw]; rfl⟩)) hP1 hD1 hS1
theorem av_obj_ok {pc len a b i k : Nat} {z : Int} {L : av_L} {st : List av_V} {h : av_H} {cN sN : Nat} (C0 : av_Cx Ts cl D cy A sv X M p R s m args meth c) (ok : av_ok Ts cl mt M (pc, .invokespecial i, len, a, b, z)) (ha : a = 9999) (h1 : 1 ≤ M.2.2.2.2.1) (h2 : av_wid st + 12 ≤ M.2.2.2.2.2)
    (kk : av_Good cl D cy A sv as0 M.1.2.2.2.1 p l e R s m args below meth c Q (pc + len, L, st, h, cN, sN)) : av_Good cl D cy A sv as0 M.1.2.2.2.1 p l e R s m args below meth c Q (pc, L, av_r k :: st, h, cN, sN) := by
  obtain ⟨hx, hb, hml, hown, hts, hr, hlk, hnm, hK, hA, hSF, r1, r2, r3, r4⟩ := C0
  obtain ⟨hsv, -⟩ := hSF
  obtain ⟨hd, hlen, hok⟩ := ok
  intro as ws H locs ls stv has hH hP hD hS hL hst
  obtain ⟨_, stv1, rfl, ⟨ad, had, rfl⟩, hst1⟩ := av_relS_cons hst
  have : len = 3 := by simpa [av_lenok, av_len] using hlen
  subst this
  obtain ⟨c1, c2, c3⟩ := hok.1 ha
  have hls : ls.size = M.1.2.2.2.1 := by obtain ⟨lv, g, -⟩ := hL; exact g.1
  have hw := av_wid_ok hsv hst1
  exact W.objInit hx hb hown (hts _ c1) (hts _ c2) (hts _ c3) rfl (by rw [hml]; exact hls) rfl hd (by omega) (by show 2 * 0 + _ + 12 ≤ _; rw [hw]; omega) (kk as ws H locs ls stv1 has hH hP hD hS hL hst1)
end AVR
end
section
/-! ===== one instruction of the evaluator ===== -/
theorem av_bif {α : Type} {b : Bool} {x : Option α} {y : α} (h : (bif b then x else none) = some y) : b = true ∧ x = some y := by
  cases b with
  | true => exact ⟨rfl, h⟩
  | false => cases h
section AVR
variable {Ts : List Jvm.Cond} {cl : List vw_C} {D : va_G} {cy : Nat → ClassId} {A : Nat → Prop} {sv : Nat → Value} {as0 : List Nat} {X : av_X} {M : av_M} {mt : Nat → av_M} {F : av_F} {p : Program} {l : Launch} {e : Env} {R : Room} {s : State} {m : MethodId} {args : Array Value} {below : List Frame} {meth : Method} {c : Code} {Q : State → Prop}
set_option maxHeartbeats 4000000 in
theorem av_one_ok {q : av_Q} {S : av_S} {ss : List av_S} (C0 : av_Cx Ts cl D cy A sv X M p R s m args meth c) (hcls : av_cls Ts cl F) (hcl4 : ∃ T N, cl[1]? = some ("SagGates$Gate", T, N)) (hcl5 : ∃ T N, cl[7]? = some ("SagGates$Told", T, N)) (h100 : cl.length ≤ 100) (ok : av_ok Ts cl mt M q) (hq : q.1 = S.1) (h : av_one X F q S = some ss)
    (k : ∀ S' ∈ ss, av_Good cl D cy A sv as0 M.1.2.2.2.1 p l e R s m args below meth c Q S') : av_Good cl D cy A sv as0 M.1.2.2.2.1 p l e R s m args below meth c Q S := by
  obtain ⟨pc, ins, len, a, b, z⟩ := q
  obtain ⟨pc', L, st, hp, cN, sN⟩ := S
  dsimp only at hq
  subst hq
  unfold av_one at h
  dsimp only at h
  cases hpush : av_push (pc, ins, len, a, b, z) with
  | some v =>
    rw [hpush] at h
    cases h
    exact av_push_ok C0 ok hpush (k _ (by simp))
  | none =>
  rw [hpush] at h
  dsimp only at h
  cases hload : av_load ins with
  | some ik =>
    obtain ⟨i, kd⟩ := ik
    rw [hload] at h
    dsimp only at h
    cases hg : av_get L i with
    | none => rw [hg] at h; cases h
    | some v =>
      rw [hg] at h
      dsimp only at h
      cases hv : (bif kd == 1 then av_isI v else av_isA v) with
      | false => rw [hv] at h; cases h
      | true =>
        rw [hv] at h
        cases h
        exact av_load_ok C0 ok hload hg hv (k _ (by simp))
  | none =>
  rw [hload] at h
  dsimp only at h
  cases hstore : av_store ins with
  | some ik =>
    obtain ⟨i, kd⟩ := ik
    rw [hstore] at h
    dsimp only at h
    cases st with
    | nil => cases h
    | cons v st =>
      dsimp only at h
      cases hv : (bif kd == 1 then av_isI v else av_isR v) with
      | false => rw [hv] at h; cases h
      | true =>
        rw [hv] at h
        cases h
        exact av_store_ok C0 ok hstore hv (k _ (by simp))
  | none =>
  rw [hstore] at h
  dsimp only at h
  cases hbin : av_bin ins with
  | some f =>
    rw [hbin] at h
    dsimp only at h
    split at h
    · rename_i w u st'
      cases hr : f u w with
      | none => rw [hr] at h; cases h
      | some r =>
        rw [hr] at h
        cases h
        exact av_bin_ok C0 ok hbin hr (k _ (by simp))
    · cases h
  | none =>
  rw [hbin] at h
  dsimp only at h
  cases hld : av_ldk ins with
  | some t =>
    rw [hld] at h
    dsimp only at h
    split at h
    · rename_i i kx st'
      split at h
      · rename_i t' xs hk
        cases htt : (t' == t || (t == 1 && t' == 2) || (t == 4 && t' == 5)) with
        | false => rw [htt] at h; cases h
        | true =>
          rw [htt] at h
          dsimp only [cond_true] at h
          cases hv : av_rd xs i with
          | none => rw [hv] at h; cases h
          | some v =>
            rw [hv] at h
            cases h
            exact av_ld_ok (L1 := []) C0 ok hld hk htt hv (k _ (by simp))
      · cases h
    · rename_i i j st'
      split at h
      · rename_i xs hk
        cases htt : (t + j == 2) with
        | false => rw [htt] at h; cases h
        | true =>
          rw [htt] at h
          dsimp only [cond_true] at h
          cases hv : av_rd xs i with
          | none => rw [hv] at h; cases h
          | some v =>
            rw [hv] at h
            cases h
            exact av_lds_ok C0 ok hld hk htt hv (k _ (by simp))
      · cases h
    · cases h
  | none =>
  rw [hld] at h
  dsimp only at h
  cases hstk : av_stk ins with
  | some t =>
    rw [hstk] at h
    dsimp only at h
    split at h
    · rename_i v i kx st'
      split at h
      · rename_i t' xs hk
        obtain ⟨hc, h⟩ := av_bif h
        cases h
        simp only [Bool.and_eq_true, decide_eq_true_eq] at hc
        obtain ⟨htt, c1, c2, c3, c4⟩ := hc
        by_cases ht4 : t = 4
        · subst ht4
          have hins : ins = .aastore := by
            cases ins <;> first | (cases hstk; done) | rfl
          subst hins
          have c4' := c4
          rw [show ((4 : Nat) == 4) = true from rfl, cond_true] at c4'
          split at c4'
          · rename_i j
            split at c4'
            · rename_i ci fs hj
              refine av_sta_ok C0 ok hcl4 hcl5 hk ?_ c1 c2 c3 hj (by simpa using c4') (k _ (by simp))
              simp only [Bool.or_eq_true, Bool.and_eq_true, beq_iff_eq] at htt
              omega
            · cases c4'
          · cases c4'
        · have e : (t == 4) = false := by simpa using ht4
          rw [e] at c4
          exact av_st_ok C0 ok hstk ht4 hk htt c1 c2 c3 c4 (k _ (by simp))
      · cases h
    · cases h
  | none =>
  rw [hstk] at h
  dsimp only at h
  cases ins <;> first | (cases h; done) | skip
  case getfield i =>
    dsimp only at h
    split at h
    · rename_i kx st'
      split at h
      · rename_i ci fs hk
        cases hc : (ci == a) with
        | false => rw [hc] at h; cases h
        | true =>
          rw [hc] at h
          dsimp only [cond_true] at h
          simp only [beq_iff_eq] at hc
          subst hc
          cases hv : fs[b]? with
          | none => rw [hv] at h; cases h
          | some v =>
            rw [hv] at h
            cases h
            by_cases h1 : ci = 100
            · intro as ws H locs ls stv has hH hP hD hS hL hst
              obtain ⟨ad', en, e1, e2, hE⟩ := hH.2.2 kx _ hk
              obtain ⟨vs, rfl, -⟩ := hE
              obtain ⟨r, r1, -⟩ := hP kx _ e2
              have := (List.getElem?_eq_some_iff.mp r1).1
              dsimp only at this
              omega
            · exact av_getf_ok C0 hcls ok hk hv h1 (k _ (by simp))
      · cases h
    · rename_i st'
      cases hc : (a == 100) with
      | false => rw [hc] at h; cases h
      | true =>
        rw [hc] at h
        simp only [beq_iff_eq] at hc
        subst hc
        cases h
        exact av_getS_ok C0 ok (k _ (by simp))
    · cases h
  case putfield i =>
    dsimp only at h
    split at h
    · rename_i v kx st'
      split at h
      · rename_i ci fs hk
        cases hc : (ci == a && (decide (b < fs.length) && av_fit z.toNat v)) with
        | false => rw [hc] at h; cases h
        | true =>
          rw [hc] at h
          cases h
          simp only [Bool.and_eq_true, decide_eq_true_eq, beq_iff_eq] at hc
          obtain ⟨rfl, c2, c3⟩ := hc
          exact av_putf_ok C0 hcls ok hk c2 c3 (k _ (by simp))
      · cases h
    · cases h
  case iinc i n =>
    dsimp only at h
    split at h
    · rename_i u hg
      cases h
      exact av_iinc_ok C0 ok hg (k _ (by simp))
    · cases h
  case goto off =>
    dsimp only at h
    cases hc : av_jmp pc off with
    | false => rw [hc] at h; cases h
    | true =>
      rw [hc] at h
      cases h
      exact av_goto_ok C0 ok hc (k _ (by simp))
  case if_icmp o off =>
    dsimp only at h
    split at h
    · rename_i w u st'
      cases hc : av_jmp pc off with
      | false => rw [hc] at h; cases h
      | true =>
        rw [hc] at h
        cases h
        exact av_icmp_ok C0 ok hc k
    · cases h
  case ifCond o off =>
    dsimp only at h
    split at h
    · rename_i u st'
      cases hc : av_jmp pc off with
      | false => rw [hc] at h; cases h
      | true =>
        rw [hc] at h
        cases h
        exact av_if_ok C0 ok hc k
    · cases h
  case dup =>
    dsimp only at h
    cases st with
    | nil => cases h
    | cons v st =>
      dsimp only at h
      cases hv : av_isL v with
      | true => rw [hv] at h; cases h
      | false => rw [hv] at h; cases h; exact av_dup_ok C0 ok hv (k _ (by simp))
  case pop =>
    dsimp only at h
    cases st with
    | nil => cases h
    | cons v st =>
      dsimp only at h
      cases hv : av_isL v with
      | true => rw [hv] at h; cases h
      | false => rw [hv] at h; cases h; exact av_pop_ok C0 ok hv (k _ (by simp))
  case dup2 =>
    dsimp only at h
    split at h
    · rename_i v w st'
      cases hv : av_isL v with
      | true => rw [hv] at h; cases h
      | false =>
        cases hw : av_isL w with
        | true => rw [hv, hw] at h; cases h
        | false => rw [hv, hw] at h; cases h; exact av_dup2_ok C0 ok hv hw (k _ (by simp))
    · cases h
  case arraylength =>
    dsimp only at h
    split at h
    · rename_i kx st'
      split at h
      · rename_i t xs hk
        cases h
        exact av_len_ok C0 ok hk (k _ (by simp))
      · cases h
    · rename_i j st'
      cases hr : av_row X j with
      | none => rw [hr] at h; cases h
      | some xs =>
        rw [hr] at h
        cases h
        exact av_lens_ok C0 ok hr (k _ (by simp))
    · cases h
  case i2c =>
    dsimp only at h
    split at h
    · cases h
      exact av_i2c_ok C0 ok (k _ (by simp))
    · cases h
  case i2b =>
    dsimp only at h
    split at h
    · cases h
      exact av_i2b_ok C0 ok (k _ (by simp))
    · cases h
  case lcmp =>
    dsimp only at h
    split at h
    · rename_i w u st'
      cases hc : (decide (u.1 = u.2) && (decide (w.1 = w.2) && decide (u.1 = w.1))) with
      | false => rw [hc] at h; cases h
      | true => rw [hc] at h; cases h; exact av_lcmp_ok C0 ok hc (k _ (by simp))
    · cases h
  case tableswitch d lo hi offs =>
    dsimp only at h
    split at h
    · rename_i u st'
      cases hc : (decide (u.2 < lo) || decide (hi < u.1)) with
      | true =>
        rw [hc] at h
        dsimp only [cond_true] at h
        cases hj : av_jmp pc d with
        | false => rw [hj] at h; cases h
        | true => rw [hj] at h; cases h; exact av_table_ok C0 ok hj (.inl ⟨hc, rfl⟩) (k _ (by simp))
      | false =>
        rw [hc] at h
        dsimp only [cond_false] at h
        cases hc2 : (decide (u.1 = u.2) && (decide (lo ≤ u.1) && decide (u.1 ≤ hi))) with
        | false => rw [hc2] at h; cases h
        | true =>
          rw [hc2] at h
          dsimp only [cond_true] at h
          split at h
          · rename_i off ho
            cases hj : av_jmp pc off with
            | false => rw [hj] at h; cases h
            | true => rw [hj] at h; cases h; exact av_table_ok C0 ok hj (.inr ⟨hc2, ho⟩) (k _ (by simp))
          · cases h
    · cases h
theorem av_mk_ok {q : av_Q} {S S' : av_S} (C0 : av_Cx Ts cl D cy A sv X M p R s m args meth c) (hcls : av_cls Ts cl F) (ok : av_ok Ts cl mt M q) (hq : q.1 = S.1) (h : av_mk M.2.2.1 M.2.2.2.1 F q S = some S')
    (k : av_Good cl D cy A sv as0 M.1.2.2.2.1 p l e R s m args below meth c Q S') : av_Good cl D cy A sv as0 M.1.2.2.2.1 p l e R s m args below meth c Q S := by
  obtain ⟨pc, ins, len, a, b, z⟩ := q
  obtain ⟨pc', L, st, hp, cN, sN⟩ := S
  dsimp only at hq
  subst hq
  unfold av_mk at h
  dsimp only at h
  cases ins <;> first | (cases h; done) | skip
  case new i =>
    dsimp only at h
    split at h
    · rename_i ks hks
      obtain ⟨hc, h⟩ := av_bif h
      cases h
      simp only [Bool.and_eq_true, decide_eq_true_eq] at hc
      exact av_new_ok C0 hcls ok hks hc.1 hc.2 k
    · cases h
  case newarray t =>
    dsimp only at h
    split at h
    · rename_i u st'
      obtain ⟨hc, h⟩ := av_bif h
      cases h
      simp only [Bool.and_eq_true, decide_eq_true_eq] at hc
      obtain ⟨c1, c2, c3, c4, c5, c6⟩ := hc
      exact av_newa_ok C0 ok c1 c2 c3 c4 c5 c6 k
    · cases h
  case anewarray i =>
    dsimp only at h
    split at h
    · rename_i u st'
      obtain ⟨hc, h⟩ := av_bif h
      cases h
      simp only [Bool.and_eq_true, Bool.or_eq_true, decide_eq_true_eq, beq_iff_eq] at hc
      obtain ⟨c1, c2, c3, c4, c5, c6⟩ := hc
      exact av_anew_ok C0 ok c1 c2 c3 c4 c5 c6 k
    · cases h
end AVR
end
section
/-! ===== calls and returns of the evaluator ===== -/
def av_rm (M : av_M) : Room := { frames := M.2.2.2.2.1, cells := M.2.2.1, slots := M.2.2.2.1, locals := M.2.2.2.2.2 }
def av_ws (Ts : List Jvm.Cond) (M : av_M) : List Jvm.Cond := Jvm.Cond.code M.1.2.1 M.1.2.2.1 M.1.2.2.2.1 M.1.2.2.2.2 :: Ts
def av_Pre (cl : List vw_C) (D : va_G) (cy : Nat → ClassId) (A : Nat → Prop) (sv : Nat → Value) (X1 : List av_V) (ws : va_W) (vs : List Value) : Array Value → State → Prop :=
  va_Pc vs (fun U => va_P D cl ws U.heap ∧ va_K D cl (av_tys cy) U ∧ (∀ q, U.heap.size ≤ q → A q) ∧ av_SF A sv (X1, none) U U.heap)
def av_Qc (cl : List vw_C) (D : va_G) (cy : Nat → ClassId) (A : Nat → Prop) (sv : Nat → Value) (as : List Nat) (outs : av_O) : Array Value → State → Outcome → State → Prop := fun _ st o t =>
  (∃ ov ∈ outs, ∃ (as' : List Nat) (ws' : va_W) (rv : Option Value), o = .returned rv ∧ as <+: as' ∧ av_relS sv as' ov.1.toList rv.toList ∧ av_relH cy sv as' ov.2 ws' ∧ va_P D cl ws' t.heap ∧ va_D A ws') ∧ va_F A st t
def av_Met (Ts : List Jvm.Cond) (cl : List vw_C) (D : va_G) (cy : Nat → ClassId) (A : Nat → Prop) (sv : Nat → Value) (l : Launch) (X1 : List av_V) (M : av_M) (args : List av_V) (h : av_H) (outs : av_O) : Prop :=
  ∀ (as : List Nat) (ws : va_W) (vs : List Value), av_relS sv as args vs → av_relH cy sv as h ws → va_D A ws → Met l M.1.2.1 (av_ws Ts M) (av_rm M) (av_Pre cl D cy A sv X1 ws vs) (av_Qc cl D cy A sv as outs) M.2.2.1 M.2.2.2.1 A
theorem av_blind {cl : List vw_C} {D : va_G} {cy : Nat → ClassId} {A : Nat → Prop} {sv : Nat → Value} {X1 : List av_V} {ws : va_W} {vs : List Value} : FrameBlind (av_Pre cl D cy A sv X1 ws vs) := by
  intro a U g mk hq
  obtain ⟨q0, q1, q2, q3, q4⟩ := hq
  exact ⟨q0, q1, va_K.moved (u := U) (U := U.calling g mk a) (Vm.Alike.refl U.vm) q2, q3, av_SF_in q4 g mk a⟩
theorem av_ent_ok {sv : Nat → Value} (hsv : ∀ j, sv j = .null ∨ ∃ a, sv j = .ref a) {as : List Nat} : ∀ {l : List av_V} {r : List Value} (i : Nat), av_relS sv as l r → l.all (fun v => !av_isL v) = true → ((∀ q ∈ av_ent i l, ∃ x, av_dn sv as q.2 x ∧ (q.1, x) ∈ lv_args i r) ∧ (lg_sl r).length = l.length)
  | [], [], _, _, _ => ⟨fun q hq => by (cases hq), rfl⟩
  | v :: l, x :: r, i, ⟨a, b⟩, hl => by
    simp only [List.all_cons, Bool.and_eq_true, Bool.not_eq_true'] at hl
    have hc : x.category = 1 := by rw [av_cat hsv a, hl.1]; rfl
    have hc2 : ¬ x.category = 2 := by omega
    obtain ⟨h1, h2⟩ := av_ent_ok hsv (i + 1) b hl.2
    refine ⟨fun q hq => ?_, ?_⟩
    · rcases List.mem_cons.mp hq with rfl | hq
      · exact ⟨x, a, List.mem_cons_self⟩
      · obtain ⟨y, y1, y2⟩ := h1 q hq
        refine ⟨y, y1, ?_⟩
        rw [lv_args, if_neg hc2]
        exact List.mem_cons_of_mem _ y2
    · simp only [lg_sl, List.flatMap_cons, List.length_append, List.length_cons] at h2 ⊢
      rw [if_neg hc2, h2]
      simp
      omega
  | [], _ :: _, _, hh, _ => hh.elim
  | _ :: _, [], _, hh, _ => hh.elim
section AVR
variable {Ts : List Jvm.Cond} {cl : List vw_C} {D : va_G} {cy : Nat → ClassId} {A : Nat → Prop} {sv : Nat → Value} {as0 : List Nat} {X : av_X} {M : av_M} {mt : Nat → av_M} {F : av_F} {p : Program} {l : Launch} {e : Env} {R : Room} {s : State} {m : MethodId} {args : Array Value} {below : List Frame} {meth : Method} {c : Code} {Q : State → Prop}
theorem av_go_ok {H : Heap} {locs : List Loc} {cN sN mc ms pc : Nat} {ls : Array Slot} {st0 rest : List Value} {as : List Nat} {outs : av_O} {arr : Array Value} (hr : va_Run p l e R s m args below meth c H locs cN sN mc ms (F0 m pc ls st0) rest (av_Qc cl D cy A sv as outs arr) A) (hS : va_S A s.heap H locs)
    (kk : ∀ ov ∈ outs, ∀ (as' : List Nat) (ws' : va_W) (rv : Option Value) (H1 : Heap) (locs1 : List Loc), as <+: as' → av_relS sv as' ov.1.toList rv.toList → av_relH cy sv as' ov.2 ws' → va_P D cl ws' H1 → va_D A ws' → va_S A s.heap H1 locs1 → W p l e R s m args below meth c H1 locs1 (cN + mc) (sN + ms) Q (F0 m (pc + 3) ls (rv.toList ++ rest))) : W p l e R s m args below meth c H locs cN sN Q (F0 m pc ls st0) := by
  intro T hT X
  obtain ⟨v, st₀, t, T', L, h0, X', hL, e1, e2, ⟨⟨ov, hov, as', ws', rv, hv, b1, b2, b3, b4, b5⟩, hz, hk⟩, st⟩ := hr T hT X
  cases hv
  rw [h0] at hz hk
  obtain ⟨t2, a1, c1⟩ := kk ov hov as' ws' v T'.heap (locs ++ L) b1 b2 b3 (by rw [e1]; exact b4) b5
    ⟨Nat.le_trans hS.1 (by rw [e1]; exact hz), fun q h1 h2 => by rw [e1, hk q (Nat.lt_of_lt_of_le h1 hS.1) h2]; exact hS.2.1 q h1 h2, fun q hq => by
      rcases List.mem_append.mp hq with h | h
      · exact hS.2.2 q h
      · exact hL q h⟩ T' rfl X'
  exact ⟨t2, st t2 a1, c1⟩
theorem av_call_ok {q : av_Q} {S : av_S} {j : Nat} {av stk : List av_V} {outs : av_O} (C0 : av_Cx Ts cl D cy A sv X M p R s m args meth c) (hgood : GoodIn Ts Ts) (h100 : cl.length ≤ 100) (ok : av_ok Ts cl mt M q) (hq : q.1 = S.1) (h9 : q.2.2.2.1 ≠ 9999) (hcall : av_call q S = some (j, av, stk)) (hfits : av_fits M (mt j) S.2.2.2.2.1 S.2.2.2.2.2 av.length stk = true)
    (hM : av_Met Ts cl D cy A sv l X.1 (mt j) av S.2.2.2.1 outs)
    (k : ∀ ov ∈ outs, av_Good cl D cy A sv as0 M.1.2.2.2.1 p l e R s m args below meth c Q (S.1 + q.2.2.1, S.2.1, ov.1.toList ++ stk, ov.2, S.2.2.2.2.1 + (mt j).2.2.1, S.2.2.2.2.2 + (mt j).2.2.2.1)) : av_Good cl D cy A sv as0 M.1.2.2.2.1 p l e R s m args below meth c Q S := by
  obtain ⟨pc, ins, len, a, b, z⟩ := q
  obtain ⟨pc', L, st, hp, cN, sN⟩ := S
  dsimp only at hq h9 hfits hM k
  subst hq
  obtain ⟨hx, hb, hml, hown, hts, hr, hlk, hnm, hK, hA, hSF, r1, r2, r3, r4⟩ := C0
  have hSF0 := hSF
  obtain ⟨hsv, ⟨q0, q1, a1, a2, a3, a4, a5, a6, f, a7, a8⟩, h2, h3, hnest, h4⟩ := hSF
  obtain ⟨hd, hlen, hok⟩ := ok
  unfold av_fits at hfits
  simp only [Bool.and_eq_true, decide_eq_true_eq] at hfits
  obtain ⟨f0, f1, f2, f3, f4, f5⟩ := hfits
  unfold av_call at hcall
  dsimp only at hcall
  obtain ⟨hc, hcall2⟩ := av_bif hcall
  clear hcall
  simp only [Bool.and_eq_true, decide_eq_true_eq] at hc
  intro as ws H locs ls stv has hH hP hD hS hL hst
  have hstl := av_relS_len hst
  have hls : ls.size = M.1.2.2.2.1 := by obtain ⟨lv, g, -⟩ := hL; exact g.1
  have hTk := av_relS_take b hst
  have hDr := av_relS_drop b hst
  have hsplit : stv = (stv.take b).reverse.reverse ++ stv.drop b := by rw [List.reverse_reverse, List.take_append_drop]
  have hn : ((stv.take b).reverse).length = b := by
    rw [List.length_reverse, List.length_take]
    dsimp only at hstl
    omega
  have hin : ∀ w : Jvm.Cond, w ∈ Ts → w ∈ Ts ∧ ((w.onTables && w.keeps) = true ∨ ∃ ty, w = .arrayClass ty) := fun w hw => hgood w hw
  dsimp only at hd hok hTk hDr hstl
  have hcont : ∀ (stR : List Value), av_relS sv as stk stR → len = 3 → ∀ ov ∈ outs, ∀ (as' : List Nat) (ws' : va_W) (rv : Option Value) (H1 : Heap) (locs1 : List Loc), as <+: as' → av_relS sv as' ov.1.toList rv.toList → av_relH cy sv as' ov.2 ws' → va_P D cl ws' H1 → va_D A ws' → va_S A s.heap H1 locs1 → W p l e R s m args below meth c H1 locs1 (cN + (mt j).2.2.1) (sN + (mt j).2.2.2.1) Q (F0 m (pc + 3) ls (rv.toList ++ stR)) := by
    intro stR hR hl ov hov as' ws' rv H1 locs1 b1 b2 b3 b4 b5 b6
    subst hl
    exact k ov hov as' ws' H1 locs1 ls (rv.toList ++ stR) (has.trans b1) b3 b4 b5 b6 (av_relL_up b1 hL) (av_relS_app b2 (av_relS_up b1 hR))
  have hpre : ∀ (vs : List Value) (U : State), U.heap = H → s.WarmedH U.vm → av_Pre cl D cy A sv X.1 ws vs vs.toArray U := by
    intro vs U hU hW
    exact ⟨rfl, by rw [hU]; exact hP, va_K.moved hW.alike hK, fun q hq => hA q (Nat.le_trans hS.1 (by rw [← hU]; exact hq)), av_SF_call hSF0 hW hU hS⟩
  have hroom : (av_rm (mt j)).frames + 1 ≤ R.frames ∧ 8 + ((mt j).1.2.2.2.1 + 11) + (av_rm (mt j)).locals ≤ R.locals := ⟨Nat.le_trans f3 r3, Nat.le_trans f4 r4⟩
  have hcs : cN + (mt j).2.2.1 ≤ R.cells ∧ sN + (mt j).2.2.2.1 ≤ R.slots := ⟨by rw [r1]; exact f1, by rw [r2]; exact f2⟩
  cases ins <;> first | (cases hcall2; done) | skip
  case invokestatic i =>
    have hl3 : len = 3 := by simpa [av_lenok, av_len] using hlen
    cases hcall2
    obtain ⟨⟨o1, o2, o3, o4, o5⟩, o6, o7, o8⟩ := hok
    have hMet := hM as ws (stv.take b).reverse (av_relS_rev hTk) hH hD
    have hG : GoodIn Ts (va_wsS M.1.1 i (mt j).1.2.1 (av_ws Ts (mt j))) := by
      intro w hw
      apply hin
      rcases List.mem_append.mp hw with hw | hw
      · simp only [List.mem_cons, List.not_mem_nil, or_false] at hw
        rcases hw with rfl | rfl | rfl
        · exact o8
        · exact o6
        · rw [o2]; exact o3
      · rcases List.mem_cons.mp hw with rfl | hw
        · exact o1
        · exact hw
    subst hl3
    exact av_go_ok (va_runS (As := (stv.take b).reverse) (rest := stv.drop b) ⟨hx, hb, hml, hown, hts⟩ hMet (va_cwS b hts hG rfl rfl rfl ⟨o5.1, o5.2, o7⟩ hroom) ⟨av_blind, fun U hU hW => hpre _ U hU hW⟩ rfl hn hls hsplit (lv_room (by rw [av_wid_ok hsv hDr]; exact f5)) hd hcs) hS (hcont _ hDr rfl)
  case invokespecial i =>
    have hl3 : len = 3 := by simpa [av_lenok, av_len] using hlen
    dsimp only at hcall2
    split at hcall2
    · rename_i kx rest hst0
      cases hcall2
      obtain ⟨⟨o1, o2, o3, o4, o5⟩, o6, o7, o8, o9, o10⟩ := hok.2 h9
      rw [hst0] at hDr
      obtain ⟨_, stR, hstR, ⟨ad, had, rfl⟩, hR⟩ := av_relS_cons hDr
      have hMet := hM as ws (.ref ad :: (stv.take b).reverse) ⟨⟨ad, had, rfl⟩, av_relS_rev hTk⟩ hH hD
      have hG : GoodIn Ts (av_ws Ts (mt j)) := by
        intro w hw
        apply hin
        rcases List.mem_cons.mp hw with rfl | hw
        · exact o1
        · exact hw
      subst hl3
      have hw : av_ws Ts (mt j) = Cond.code (mt j).1.2.1 (mt j).1.2.2.1 (mt j).1.2.2.2.1 none :: Ts := by unfold av_ws; rw [o7]
      rcases o10 with o10 | ⟨o10, o11⟩
      · exact av_go_ok (va_runI (As := (stv.take b).reverse) (rest := stR) ⟨hx, hb, hml, hown, hts⟩ hMet (cwI b hts hG hw rfl rfl (hts _ (by rw [o2]; exact o3)) (hts _ o10) (hts _ o8) o6 ⟨o5.1, o5.2, o9⟩ hroom) ⟨av_blind, fun U hU hW => hpre _ U hU hW⟩ rfl hn hls (by rw [← hstR]; exact hsplit) (lv_room (by rw [av_wid_ok hsv hR]; exact f5)) hd hcs) hS (hcont _ hR rfl)
      · have hN := hnest _ o11
        exact av_go_ok (va_runIN (As := (stv.take b).reverse) (rest := stR) (host := RX11) ⟨hx, hb, hml, hown, hts⟩ hMet ⟨va_cnB b hts hG hw rfl rfl (by rw [o10]; exact hN) (hts _ (by rw [o2]; exact o3)) ⟨o5.1, o5.2, o9⟩ hroom, o6, hts _ o8⟩ ⟨av_blind, fun U hU hW => hpre _ U hU hW⟩ rfl hn hls (by rw [← hstR]; exact hsplit) (lv_room (by rw [av_wid_ok hsv hR]; exact f5)) hd hcs) hS (hcont _ hR rfl)
    · cases hcall2
  case invokevirtual i =>
    have hl3 : len = 3 := by simpa [av_lenok, av_len] using hlen
    dsimp only at hcall2
    obtain ⟨⟨o1, o2, o3, o4, o5⟩, o6, o7, o8, o9, o10⟩ := hok
    have hG : GoodIn Ts (wsV M.1.1 i (mt a).1.1 (mt a).1.2.1 (av_ws Ts (mt a))) := by
      intro w hw
      apply hin
      rcases List.mem_append.mp hw with hw | hw
      · simp only [List.mem_cons, List.not_mem_nil, or_false] at hw
        rcases hw with rfl | rfl | rfl | rfl
        · exact o9
        · exact o6
        · exact o7
        · exact o3
      · rcases List.mem_cons.mp hw with rfl | hw
        · exact o1
        · exact hw
    split at hcall2
    · rename_i kx rest hst0
      split at hcall2
      · rename_i ci fs hk
        obtain ⟨hci, hcall3⟩ := av_bif hcall2
        cases hcall3
        simp only [beq_iff_eq] at hci
        rw [hst0] at hDr
        obtain ⟨_, stR, hstR, ⟨ad, had, rfl⟩, hR⟩ := av_relS_cons hDr
        have hMet := hM as ws (.ref ad :: (stv.take b).reverse) ⟨⟨ad, had, rfl⟩, av_relS_rev hTk⟩ hH hD
        obtain ⟨ad', en, e1, e2, hE⟩ := hH.2.2 kx _ hk
        cases had.symm.trans e1
        obtain ⟨vs, rfl, -, -⟩ := hE
        subst hl3
        have hrec : ∃ (T : u_T) (N : Nat), cl[ci]? = some ((mt j).1.1, T, N) ∨ (ci = 100 ∧ (mt j).1.1 = "java/lang/String") := by
          rcases o10 with ⟨w1, w2⟩ | ⟨T, N, w⟩
          · exact ⟨fun _ => ("", "", "", false), 0, .inr ⟨hci.trans w1, w2⟩⟩
          · exact ⟨T, N, .inl (by rw [hci]; exact w)⟩
        obtain ⟨T, N, hrec | ⟨w1, w2⟩⟩ := hrec
        · exact av_go_ok (va_runV (As := (stv.take b).reverse) (rest := stR) (C := (mt j).1.1) ⟨hx, hb, hml, hown, hts⟩ hMet (cwV b hts hG rfl rfl rfl ⟨o2, o5.1, o5.2, o8⟩ hroom) ⟨av_blind, va_recv hK hP hrec e2, fun U hU hW => hpre _ U hU hW⟩ rfl hn hls (by rw [← hstR]; exact hsplit) (lv_room (by rw [av_wid_ok hsv hR]; exact f5)) hd hcs) hS (hcont _ hR rfl)
        · obtain ⟨r, rr1, -⟩ := hP kx _ e2
          have := (List.getElem?_eq_some_iff.mp rr1).1
          dsimp only at this
          omega
      · cases hcall2
    · rename_i rest hst0
      obtain ⟨hci, hcall3⟩ := av_bif hcall2
      cases hcall3
      simp only [beq_iff_eq] at hci
      rw [hst0] at hDr
      obtain ⟨x, stR, hstR, hxx, hR⟩ := av_relS_cons hDr
      have hx0 : x = .ref q0 := (show x = sv 0 from hxx).trans a1
      subst hx0
      have hMet := hM as ws (.ref q0 :: (stv.take b).reverse) ⟨hxx, av_relS_rev hTk⟩ hH hD
      subst hl3
      have hC : (mt j).1.1 = "java/lang/String" ∨ ∃ (T : u_T) (N : Nat), cl[100]? = some ((mt j).1.1, T, N) := by
        rcases o10 with ⟨_, w2⟩ | ⟨T, N, w⟩
        · exact .inl w2
        · exact .inr ⟨T, N, by rw [← hci]; exact w⟩
      rcases hC with hC | ⟨T, N, w⟩
      · exact av_go_ok (va_runV (As := (stv.take b).reverse) (rest := stR) (C := (mt j).1.1) ⟨hx, hb, hml, hown, hts⟩ hMet (cwV b hts hG rfl rfl rfl ⟨o2, o5.1, o5.2, o8⟩ hroom) ⟨av_blind, by rw [hC]; exact va_Orecv a4 hS, fun U hU hW => hpre _ U hU hW⟩ rfl hn hls (by rw [← hstR]; exact hsplit) (lv_room (by rw [av_wid_ok hsv hR]; exact f5)) hd hcs) hS (hcont _ hR rfl)
      · have := (List.getElem?_eq_some_iff.mp w).1
        omega
    · cases hcall2
end AVR
end
section
/-! ===== the evaluator is sound ===== -/
theorem av_all_mem {α β : Type} {f : α → Option (List β)} : ∀ {l : List α} {o : List β}, av_all f l = some o → ∀ x ∈ l, ∃ o', f x = some o' ∧ ∀ y ∈ o', y ∈ o := by
  intro l
  induction l with
  | nil => intro o _ x hx; cases hx
  | cons a l ih =>
    intro o h x hx
    unfold av_all at h
    cases h1 : f a with
    | none => rw [h1] at h; cases h
    | some o1 =>
      rw [h1] at h
      dsimp only at h
      cases h2 : av_all f l with
      | none => rw [h2] at h; cases h
      | some o2 =>
        rw [h2] at h
        cases h
        rcases List.mem_cons.mp hx with rfl | hx
        · exact ⟨o1, h1, fun y hy => List.mem_append_left _ hy⟩
        · obtain ⟨o', q1, q2⟩ := ih h2 x hx
          exact ⟨o', q1, fun y hy => List.mem_append_right _ (q2 y hy)⟩
theorem av_from_mem {pc : Nat} : ∀ {l : List av_Q} {q : av_Q}, q ∈ av_from pc l → q ∈ l := by
  intro l
  induction l with
  | nil => intro q h; exact h
  | cons a l ih =>
    intro q h
    unfold av_from at h
    cases hc : (a.1 == pc) with
    | true => rw [hc] at h; exact h
    | false => rw [hc] at h; exact List.mem_cons_of_mem _ (ih h)
section AVR
variable {Ts : List Jvm.Cond} {cl : List vw_C} {D : va_G} {cy : Nat → ClassId} {A : Nat → Prop} {sv : Nat → Value} {l : Launch} {mt : Nat → av_M} {F : av_F}
theorem av_ret_ok {X : av_X} {M : av_M} {p : Program} {e : Env} {R : Room} {s : State} {m : MethodId} {args : Array Value} {below : List Frame} {meth : Method} {c : Code} {as0 : List Nat} {outs : av_O} {q : av_Q} {S : av_S} {r : Option av_V} (C0 : av_Cx Ts cl D cy A sv X M p R s m args meth c) (ok : av_ok Ts cl mt M q) (hq : q.1 = S.1) (h : av_ret M q S = some r) (hm : (r, S.2.2.2.1) ∈ outs) :
    av_Good cl D cy A sv as0 M.1.2.2.2.1 p l e R s m args below meth c (MQ below (av_Qc cl D cy A sv as0 outs) args s M.2.2.1 M.2.2.2.1 A) S := by
  obtain ⟨pc, ins, len, a, b, z⟩ := q
  obtain ⟨pc', L, st, hp, cN, sN⟩ := S
  dsimp only at hq hm
  subst hq
  obtain ⟨hx, hb, hml, hown, hts, hr, hlk, hnm, hK, hA, hSF, r1, r2, r3, r4⟩ := C0
  obtain ⟨hd, hlen, -⟩ := ok
  unfold av_ret at h
  obtain ⟨hc, h1⟩ := av_bif h
  clear h
  simp only [Bool.and_eq_true, decide_eq_true_eq] at hc
  intro as ws H locs ls stv has hH hP hD hS hL hst
  refine W.widen hc.1 hc.2 ?_
  have hqc : ∀ (rv : Option Value), av_relS sv as r.toList rv.toList → ∀ t : State, t.heap = H → s.WarmedH t.vm → av_Qc cl D cy A sv as0 outs args s (.returned rv) t := by
    intro rv hrv t ht _
    exact ⟨⟨(r, hp), hm, as, ws, rv, rfl, has, hrv, hH, by rw [ht]; exact hP, hD⟩, hS.F ht⟩
  dsimp only at h1 hd hst ⊢
  split at h1
  · rename_i u hret
    cases h1
    have : len = 1 := by simpa [av_lenok, av_len] using hlen
    subst this
    obtain ⟨_, stv1, rfl, ⟨n, rfl, hn⟩, hst1⟩ := av_relS_cons hst
    have := av_relS_nil hst1
    subst this
    exact W.iret hx hb (hr.trans hret) (hqc (some (.int n)) ⟨⟨n, rfl, hn⟩, trivial⟩) hS.2.2 hd hlk
  · rename_i u hret
    obtain ⟨hf, h2⟩ := av_bif h1
    cases h2
    have : len = 1 := by simpa [av_lenok, av_len] using hlen
    subst this
    obtain ⟨_, stv1, rfl, ⟨n, rfl, hn⟩, hst1⟩ := av_relS_cons hst
    have := av_relS_nil hst1
    subst this
    exact W.zret hx hb (hr.trans hret) (av_fit_ok (ty := .boolean) (sv := sv) (as := as) hf ⟨n, rfl, hn⟩).1 (hqc (some (.int n)) ⟨⟨n, rfl, hn⟩, trivial⟩) hS.2.2 hd hlk
  · rename_i u hret
    obtain ⟨hf, h2⟩ := av_bif h1
    cases h2
    have : len = 1 := by simpa [av_lenok, av_len] using hlen
    subst this
    obtain ⟨_, stv1, rfl, ⟨n, rfl, hn⟩, hst1⟩ := av_relS_cons hst
    have := av_relS_nil hst1
    subst this
    exact W.zret hx hb (hr.trans hret) (av_fit_ok (ty := .byte) (sv := sv) (as := as) hf ⟨n, rfl, hn⟩).1 (hqc (some (.int n)) ⟨⟨n, rfl, hn⟩, trivial⟩) hS.2.2 hd hlk
  · rename_i u hret
    obtain ⟨hf, h2⟩ := av_bif h1
    cases h2
    have : len = 1 := by simpa [av_lenok, av_len] using hlen
    subst this
    obtain ⟨_, stv1, rfl, ⟨n, rfl, hn⟩, hst1⟩ := av_relS_cons hst
    have := av_relS_nil hst1
    subst this
    simp only [Bool.and_eq_true, decide_eq_true_eq] at hf
    obtain ⟨j, j1, j2, j3⟩ := av_nat (x := n) (by omega)
    have hnar : narrow .char (.int n) = .int n := by rw [j2]; exact (pk_charN (by omega)).1
    exact W.zret hx hb (hr.trans hret) hnar (hqc (some (.int n)) ⟨⟨n, rfl, hn⟩, trivial⟩) hS.2.2 hd hlk
  · rename_i u hret
    cases h1
    have : len = 1 := by simpa [av_lenok, av_len] using hlen
    subst this
    obtain ⟨_, stv1, rfl, ⟨n, rfl, hn⟩, hst1⟩ := av_relS_cons hst
    have := av_relS_nil hst1
    subst this
    exact W.lret hx hb (hr.trans hret) (hqc (some (.long n)) ⟨⟨n, rfl, hn⟩, trivial⟩) hS.2.2 hd hlk
  · rename_i hret
    cases h1
    have : len = 1 := by simpa [av_lenok, av_len] using hlen
    subst this
    have := av_relS_nil hst
    subst this
    exact W.vret hx hb (hr.trans hret) (hqc none trivial) hS.2.2 hd hlk
  · cases h1
theorem av_met_ok {X1 : List av_V} {M : av_M} {av : List av_V} {h : av_H} {outs : av_O} (hsv : ∀ j, sv j = .null ∨ ∃ a, sv j = .ref a) (hM : av_okM Ts M) (hall : av.all (fun v => !av_isL v) = true) (hlen : av.length ≤ M.1.2.2.2.1)
    (run : ∀ (as0 : List Nat) (p : Program) (e : Env) (R : Room) (s : State) (m : MethodId) (args : Array Value) (below : List Frame) (meth : Method) (c : Code), av_Cx Ts cl D cy A sv (X1, none) M p R s m args meth c →
      av_Good cl D cy A sv as0 M.1.2.2.2.1 p l e R s m args below meth c (MQ below (av_Qc cl D cy A sv as0 outs) args s M.2.2.1 M.2.2.2.1 A) (0, av_ent 0 av, [], h, 0, 0)) : av_Met Ts cl D cy A sv l X1 M av h outs := by
  intro as ws vs hvs hH hD
  obtain ⟨o1, o2, o3, o4, o5⟩ := hM
  refine Met.ofW (cc := M.1.2.2.1) (maxL := M.1.2.2.2.1) (ret := M.1.2.2.2.2) o4 rfl ?_
  intro p e s m args below meth c s₁ B hml hv
  obtain ⟨rfl, hP, hK, hA, hSF⟩ := hv
  have hts0 := atoms_spec (ws := av_ws Ts M) B.pre
  have hown : s.vm.findClass M.1.2.1.cls = some m.cls := findClass_of_methodNamed B.named
  have C0 : av_Cx Ts cl D cy A sv (X1, none) M p (headSpec (av_ws Ts M) (av_rm M)).room s m vs.toArray meth c :=
    ⟨B.exec, B.bytes, hml, by rw [← o2]; exact hown, fun w hw => hts0 w (List.mem_cons_of_mem _ hw), B.returns, B.notSynchronized, (name_of_methodNamed B.named B.method).1, hK, hA, hSF, rfl, rfl, Nat.le_refl _, Nat.le_refl _⟩
  obtain ⟨g1, g2⟩ := av_ent_ok hsv 0 hvs hall
  have hl := lv_entry vs (n := M.1.2.2.2.1) (by omega)
  rw [lg_entry_eq]
  exact run as p e _ s m vs.toArray below meth c C0 as ws s.heap [] _ [] (List.prefix_refl _) hH hP hD va_S.rf ⟨_, hl, g1⟩ trivial
theorem av_call_all {q : av_Q} {S : av_S} {j : Nat} {av stk : List av_V} (h : av_call q S = some (j, av, stk)) : av.all (fun v => !av_isL v) = true := by
  unfold av_call at h
  dsimp only at h
  obtain ⟨hc, h2⟩ := av_bif h
  simp only [Bool.and_eq_true, decide_eq_true_eq] at hc
  have hr : ((S.2.2.1.take q.2.2.2.2.1).reverse).all (fun v => !av_isL v) = true := by rw [List.all_reverse]; exact hc.2
  split at h2
  · cases h2; exact hr
  · split at h2
    · split at h2
      · obtain ⟨-, h3⟩ := av_bif h2
        cases h3
        simpa [av_isL] using hr
      · cases h2
    · obtain ⟨-, h3⟩ := av_bif h2
      cases h3
      simpa [av_isL] using hr
    · cases h2
  · split at h2
    · cases h2
      simpa [av_isL] using hr
    · cases h2
  · cases h2
theorem av_call_okM {M : av_M} {q : av_Q} {S : av_S} {j : Nat} {av stk : List av_V} (ok : av_ok Ts cl mt M q) (h9 : q.2.2.2.1 ≠ 9999) (h : av_call q S = some (j, av, stk)) : av_okM Ts (mt j) := by
  obtain ⟨pc, ins, len, a, b, z⟩ := q
  obtain ⟨-, -, hok⟩ := ok
  unfold av_call at h
  dsimp only at h hok h9
  obtain ⟨hc, h2⟩ := av_bif h
  clear h
  cases ins <;> first | (cases h2; done) | skip
  case invokestatic i => cases h2; exact hok.1
  case invokevirtual i =>
    dsimp only at h2
    split at h2
    · split at h2
      · obtain ⟨-, h3⟩ := av_bif h2
        cases h3
        exact hok.1
      · cases h2
    · obtain ⟨-, h3⟩ := av_bif h2
      cases h3
      exact hok.1
    · cases h2
  case invokespecial i =>
    dsimp only at h2
    split at h2
    · cases h2
      exact (hok.2 h9).1
    · cases h2
theorem av_call9 {q : av_Q} {S : av_S} {j : Nat} {av stk : List av_V} {M' : av_M} (h : av_call q S = some (j, av, stk)) (h9 : q.2.2.2.1 = 9999) : j = 9999 := by
  obtain ⟨pc, ins, len, a, b, z⟩ := q
  dsimp only at h9
  subst h9
  unfold av_call at h
  dsimp only at h
  obtain ⟨hc, h2⟩ := av_bif h
  clear h
  cases ins <;> first | (cases h2; done) | skip
  case invokestatic i => cases h2; rfl
  case invokevirtual i =>
    dsimp only at h2
    split at h2
    · split at h2
      · obtain ⟨-, h3⟩ := av_bif h2
        cases h3
        rfl
      · cases h2
    · obtain ⟨-, h3⟩ := av_bif h2
      cases h3
      rfl
    · cases h2
  case invokespecial i =>
    dsimp only at h2
    split at h2
    · cases h2
      rfl
    · cases h2
theorem av_run_ok (hgood : GoodIn Ts Ts) (hcls : av_cls Ts cl F) (hcl4 : ∃ T N, cl[1]? = some ("SagGates$Gate", T, N)) (hcl5 : ∃ T N, cl[7]? = some ("SagGates$Told", T, N)) (h100 : cl.length ≤ 100) (h9 : (mt 9999).2.1 = []) (hall : ∀ mi, ∀ q ∈ (mt mi).2.1, av_ok Ts cl mt (mt mi) q) :
    ∀ (fuel : Nat) (X : av_X) (mi : Nat) (sfx : List av_Q) (S : av_S) (outs : av_O), av_run F mt fuel X mi sfx S = some outs → (∀ q ∈ sfx, av_ok Ts cl mt (mt mi) q) →
      ∀ (as0 : List Nat) (p : Program) (e : Env) (R : Room) (s : State) (m : MethodId) (args : Array Value) (below : List Frame) (meth : Method) (c : Code) (Q : State → Prop), av_Cx Ts cl D cy A sv X (mt mi) p R s m args meth c →
        (∀ (q : av_Q) (S : av_S) (r : Option av_V), av_ok Ts cl mt (mt mi) q → q.1 = S.1 → av_ret (mt mi) q S = some r → (r, S.2.2.2.1) ∈ outs → av_Good cl D cy A sv as0 (mt mi).1.2.2.2.1 p l e R s m args below meth c Q S) →
        av_Good cl D cy A sv as0 (mt mi).1.2.2.2.1 p l e R s m args below meth c Q S := by
  intro fuel
  induction fuel with
  | zero => intro X mi sfx S outs h; cases h
  | succ n ih =>
    intro X mi sfx S outs h hok as0 p e R s m args below meth c Q C0 hret
    have hsv := C0.2.2.2.2.2.2.2.2.2.2.1.1
    cases sfx with
    | nil => cases h
    | cons q rest =>
      have h' : (bif q.1 == S.1 then
        match av_one X F q S with
        | some ss => av_all (fun S' => av_run F mt n X mi (bif S'.1 == S.1 + q.2.2.1 then rest else av_from S'.1 (mt mi).2.1) S') ss
        | none =>
        match av_mk (mt mi).2.2.1 (mt mi).2.2.2.1 F q S with
        | some S' => av_run F mt n X mi rest S'
        | none =>
        match av_obj (mt mi) q S with
        | some S' => av_run F mt n X mi rest S'
        | none =>
        match av_call q S with
        | some (j, args, stk) =>
          bif av_fits (mt mi) (mt j) S.2.2.2.2.1 S.2.2.2.2.2 args.length stk then
            match av_run F mt n (X.1, none) j (mt j).2.1 (0, av_ent 0 args, [], S.2.2.2.1, 0, 0) with
            | some outs => av_all (fun (o : Option av_V × av_H) => av_run F mt n X mi rest (S.1 + q.2.2.1, S.2.1, o.1.toList ++ stk, o.2, S.2.2.2.2.1 + (mt j).2.2.1, S.2.2.2.2.2 + (mt j).2.2.2.1)) outs
            | none => none
          else none
        | none =>
        match av_ret (mt mi) q S with
        | some r => some [(r, S.2.2.2.1)]
        | none => none
      else none) = some outs := h
      clear h
      obtain ⟨hq, h1⟩ := av_bif h'
      clear h'
      have hq : q.1 = S.1 := by simpa using hq
      have okq := hok q List.mem_cons_self
      have okr : ∀ q ∈ rest, av_ok Ts cl mt (mt mi) q := fun q' hq' => hok q' (List.mem_cons_of_mem _ hq')
      cases hone : av_one X F q S with
      | some ss =>
        rw [hone] at h1
        refine av_one_ok C0 hcls hcl4 hcl5 h100 okq hq hone fun S' hS' => ?_
        obtain ⟨o', q1, q2⟩ := av_all_mem h1 S' hS'
        refine ih X mi _ S' o' q1 ?_ as0 p e R s m args below meth c Q C0 fun q3 S3 r3 a1 a2 a3 a4 => hret q3 S3 r3 a1 a2 a3 (q2 _ a4)
        cases (S'.1 == S.1 + q.2.2.1) with
        | true => exact okr
        | false => exact fun q' hq' => hall mi q' (av_from_mem hq')
      | none =>
      rw [hone] at h1
      dsimp only at h1
      cases hmk : av_mk (mt mi).2.2.1 (mt mi).2.2.2.1 F q S with
      | some S' =>
        rw [hmk] at h1
        exact av_mk_ok C0 hcls okq hq hmk (ih X mi rest S' outs h1 okr as0 p e R s m args below meth c Q C0 hret)
      | none =>
      rw [hmk] at h1
      dsimp only at h1
      cases hobj : av_obj (mt mi) q S with
      | some S' =>
        rw [hobj] at h1
        have hg := ih X mi rest S' outs h1 okr as0 p e R s m args below meth c Q C0 hret
        obtain ⟨pc, ins, len, a, b, z⟩ := q
        obtain ⟨pc', L, st, hp, cN, sN⟩ := S
        dsimp only at hq
        subst hq
        unfold av_obj at hobj
        dsimp only at hobj
        cases ins <;> first | (cases hobj; done) | skip
        case invokespecial i =>
          dsimp only at hobj
          obtain ⟨ha, hobj2⟩ := av_bif hobj
          split at hobj2
          · rename_i kx st'
            obtain ⟨hc, hobj3⟩ := av_bif hobj2
            cases hobj3
            simp only [Bool.and_eq_true, decide_eq_true_eq] at hc
            exact av_obj_ok C0 okq (by simpa using ha) hc.1 hc.2 hg
          · cases hobj2
      | none =>
      rw [hobj] at h1
      dsimp only at h1
      cases hcall : av_call q S with
      | some jas =>
        obtain ⟨j, av, stk⟩ := jas
        rw [hcall] at h1
        dsimp only at h1
        obtain ⟨hfits, h2⟩ := av_bif h1
        cases hrun : av_run F mt n (X.1, none) j (mt j).2.1 (0, av_ent 0 av, [], S.2.2.2.1, 0, 0) with
        | none => rw [hrun] at h2; cases h2
        | some outs' =>
          rw [hrun] at h2
          dsimp only at h2
          have hn9 : q.2.2.2.1 ≠ 9999 := by
            intro q9
            have := av_call9 (M' := mt j) hcall q9
            subst this
            rw [h9] at hrun
            cases n <;> cases hrun
          have hMet : av_Met Ts cl D cy A sv l X.1 (mt j) av S.2.2.2.1 outs' := by
            refine av_met_ok hsv (av_call_okM okq hn9 hcall) (av_call_all hcall) ?_ ?_
            · unfold av_fits at hfits
              simp only [Bool.and_eq_true, decide_eq_true_eq] at hfits
              exact hfits.1
            · intro as1 p1 e1 R1 s1 m1 args1 below1 meth1 c1 C1
              exact ih (X.1, none) j _ _ outs' hrun (hall j) as1 p1 e1 R1 s1 m1 args1 below1 meth1 c1 _ C1 fun q3 S3 r3 a1 a2 a3 a4 => av_ret_ok C1 a1 a2 a3 a4
          refine av_call_ok C0 hgood h100 okq hq hn9 hcall hfits hMet fun ov hov => ?_
          obtain ⟨o', q1, q2⟩ := av_all_mem h2 ov hov
          exact ih X mi rest _ o' q1 okr as0 p e R s m args below meth c Q C0 fun q3 S3 r3 a1 a2 a3 a4 => hret q3 S3 r3 a1 a2 a3 (q2 _ a4)
      | none =>
      rw [hcall] at h1
      dsimp only at h1
      cases hr : av_ret (mt mi) q S with
      | none => rw [hr] at h1; cases h1
      | some r =>
        rw [hr] at h1
        cases h1
        exact hret q S r okq hq hr (by simp)
end AVR
end
