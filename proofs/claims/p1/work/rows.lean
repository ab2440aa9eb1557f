section
-- ===== PART A: goes FIRST, ahead of the names: the tables' words, and 'selects' of the private methods out of them =====
/-- a private method of a class that the tables say can be made, by its rows of tables_1 -/
def lw_okq (q : MethodName × Nat) : Prop := (q.1.cls ≠ "java/lang/invoke/MethodHandle" ∧ q.1.cls ≠ "java/lang/invoke/VarHandle") ∧ Cond.instantiable q.1.cls q.2 ∈ tables_1 ∧ Cond.privateMethod q.1 ∈ tables_1 ∧ Cond.instanceMethod q.1 ∈ tables_1
theorem lw_p0 : lw_okq (⟨"SagGates", "putOnTape", "(I)V"⟩, 16) := ⟨⟨by decide +kernel, by decide +kernel⟩, List.mem_of_getElem? (i := 26) (by decide +kernel), List.mem_of_getElem? (i := 647) (by decide +kernel), List.mem_of_getElem? (i := 648) (by decide +kernel)⟩
theorem lw_p1 : lw_okq (⟨"SagGates$Tokens", "readLetters", "()V"⟩, 7) := ⟨⟨by decide +kernel, by decide +kernel⟩, List.mem_of_getElem? (i := 253) (by decide +kernel), List.mem_of_getElem? (i := 674) (by decide +kernel), List.mem_of_getElem? (i := 675) (by decide +kernel)⟩
theorem lw_p2 : lw_okq (⟨"SagGates$Tokens", "readDigits", "()V"⟩, 7) := ⟨⟨by decide +kernel, by decide +kernel⟩, List.mem_of_getElem? (i := 253) (by decide +kernel), List.mem_of_getElem? (i := 678) (by decide +kernel), List.mem_of_getElem? (i := 679) (by decide +kernel)⟩
theorem lw_p3 : lw_okq (⟨"SagGates$Tokens", "readSign", "(I)V"⟩, 7) := ⟨⟨by decide +kernel, by decide +kernel⟩, List.mem_of_getElem? (i := 253) (by decide +kernel), List.mem_of_getElem? (i := 683) (by decide +kernel), List.mem_of_getElem? (i := 684) (by decide +kernel)⟩
theorem lw_p4 : lw_okq (⟨"SagGates$Tokens", "takes", "(I)Z"⟩, 7) := ⟨⟨by decide +kernel, by decide +kernel⟩, List.mem_of_getElem? (i := 253) (by decide +kernel), List.mem_of_getElem? (i := 687) (by decide +kernel), List.mem_of_getElem? (i := 688) (by decide +kernel)⟩
theorem lw_p5 : lw_okq (⟨"SagGates$Reader", "readGround", "()V"⟩, 6) := ⟨⟨by decide +kernel, by decide +kernel⟩, List.mem_of_getElem? (i := 247) (by decide +kernel), List.mem_of_getElem? (i := 691) (by decide +kernel), List.mem_of_getElem? (i := 692) (by decide +kernel)⟩
theorem lw_p6 : lw_okq (⟨"SagGates$Reader", "fail", "(I)I"⟩, 6) := ⟨⟨by decide +kernel, by decide +kernel⟩, List.mem_of_getElem? (i := 247) (by decide +kernel), List.mem_of_getElem? (i := 695) (by decide +kernel), List.mem_of_getElem? (i := 696) (by decide +kernel)⟩
theorem lw_p7 : lw_okq (⟨"SagGates$Reader", "readNumber", "(II)I"⟩, 6) := ⟨⟨by decide +kernel, by decide +kernel⟩, List.mem_of_getElem? (i := 247) (by decide +kernel), List.mem_of_getElem? (i := 700) (by decide +kernel), List.mem_of_getElem? (i := 701) (by decide +kernel)⟩
theorem lw_p8 : lw_okq (⟨"SagGates$Reader", "readLaw", "()V"⟩, 6) := ⟨⟨by decide +kernel, by decide +kernel⟩, List.mem_of_getElem? (i := 247) (by decide +kernel), List.mem_of_getElem? (i := 704) (by decide +kernel), List.mem_of_getElem? (i := 705) (by decide +kernel)⟩
theorem lw_p9 : lw_okq (⟨"SagGates$Formula", "signOf", "()I"⟩, 8) := ⟨⟨by decide +kernel, by decide +kernel⟩, List.mem_of_getElem? (i := 338) (by decide +kernel), List.mem_of_getElem? (i := 720) (by decide +kernel), List.mem_of_getElem? (i := 721) (by decide +kernel)⟩
theorem lw_p10 : lw_okq (⟨"SagGates$Formula", "release", "(I)V"⟩, 8) := ⟨⟨by decide +kernel, by decide +kernel⟩, List.mem_of_getElem? (i := 338) (by decide +kernel), List.mem_of_getElem? (i := 728) (by decide +kernel), List.mem_of_getElem? (i := 729) (by decide +kernel)⟩
theorem lw_p11 : lw_okq (⟨"SagGates$Formula", "latestHeld", "()I"⟩, 8) := ⟨⟨by decide +kernel, by decide +kernel⟩, List.mem_of_getElem? (i := 338) (by decide +kernel), List.mem_of_getElem? (i := 732) (by decide +kernel), List.mem_of_getElem? (i := 733) (by decide +kernel)⟩
theorem lw_p12 : lw_okq (⟨"SagGates$Formula", "readValue", "()I"⟩, 8) := ⟨⟨by decide +kernel, by decide +kernel⟩, List.mem_of_getElem? (i := 338) (by decide +kernel), List.mem_of_getElem? (i := 743) (by decide +kernel), List.mem_of_getElem? (i := 744) (by decide +kernel)⟩
theorem lw_p13 : lw_okq (⟨"SagGates$Formula", "openParen", "()I"⟩, 8) := ⟨⟨by decide +kernel, by decide +kernel⟩, List.mem_of_getElem? (i := 338) (by decide +kernel), List.mem_of_getElem? (i := 747) (by decide +kernel), List.mem_of_getElem? (i := 748) (by decide +kernel)⟩
theorem lw_p14 : lw_okq (⟨"SagGates$Formula", "hold", "(I)V"⟩, 8) := ⟨⟨by decide +kernel, by decide +kernel⟩, List.mem_of_getElem? (i := 338) (by decide +kernel), List.mem_of_getElem? (i := 751) (by decide +kernel), List.mem_of_getElem? (i := 752) (by decide +kernel)⟩
theorem lw_p15 : lw_okq (⟨"SagGates$Formula", "holdKnot", "(I)I"⟩, 8) := ⟨⟨by decide +kernel, by decide +kernel⟩, List.mem_of_getElem? (i := 338) (by decide +kernel), List.mem_of_getElem? (i := 755) (by decide +kernel), List.mem_of_getElem? (i := 756) (by decide +kernel)⟩
def lw_privs_1 : List (MethodName × Nat) := [(⟨"SagGates", "putOnTape", "(I)V"⟩, 16), (⟨"SagGates$Tokens", "readLetters", "()V"⟩, 7), (⟨"SagGates$Tokens", "readDigits", "()V"⟩, 7), (⟨"SagGates$Tokens", "readSign", "(I)V"⟩, 7), (⟨"SagGates$Tokens", "takes", "(I)Z"⟩, 7), (⟨"SagGates$Reader", "readGround", "()V"⟩, 6), (⟨"SagGates$Reader", "fail", "(I)I"⟩, 6), (⟨"SagGates$Reader", "readNumber", "(II)I"⟩, 6), (⟨"SagGates$Reader", "readLaw", "()V"⟩, 6), (⟨"SagGates$Formula", "signOf", "()I"⟩, 8), (⟨"SagGates$Formula", "release", "(I)V"⟩, 8), (⟨"SagGates$Formula", "latestHeld", "()I"⟩, 8), (⟨"SagGates$Formula", "readValue", "()I"⟩, 8), (⟨"SagGates$Formula", "openParen", "()I"⟩, 8), (⟨"SagGates$Formula", "hold", "(I)V"⟩, 8), (⟨"SagGates$Formula", "holdKnot", "(I)I"⟩, 8)]
theorem lw_r1 : ∀ q ∈ lw_privs_1, lw_okq q := List.forall_mem_cons.mpr ⟨lw_p0, List.forall_mem_cons.mpr ⟨lw_p1, List.forall_mem_cons.mpr ⟨lw_p2, List.forall_mem_cons.mpr ⟨lw_p3, List.forall_mem_cons.mpr ⟨lw_p4, List.forall_mem_cons.mpr ⟨lw_p5, List.forall_mem_cons.mpr ⟨lw_p6, List.forall_mem_cons.mpr ⟨lw_p7, List.forall_mem_cons.mpr ⟨lw_p8, List.forall_mem_cons.mpr ⟨lw_p9, List.forall_mem_cons.mpr ⟨lw_p10, List.forall_mem_cons.mpr ⟨lw_p11, List.forall_mem_cons.mpr ⟨lw_p12, List.forall_mem_cons.mpr ⟨lw_p13, List.forall_mem_cons.mpr ⟨lw_p14, List.forall_mem_cons.mpr ⟨lw_p15, fun _ h => absurd h List.not_mem_nil⟩⟩⟩⟩⟩⟩⟩⟩⟩⟩⟩⟩⟩⟩⟩⟩
theorem lw_p16 : lw_okq (⟨"SagGates$Formula", "valueKnot", "()I"⟩, 8) := ⟨⟨by decide +kernel, by decide +kernel⟩, List.mem_of_getElem? (i := 338) (by decide +kernel), List.mem_of_getElem? (i := 759) (by decide +kernel), List.mem_of_getElem? (i := 760) (by decide +kernel)⟩
theorem lw_p17 : lw_okq (⟨"SagGates$Formula", "readJoint", "()I"⟩, 8) := ⟨⟨by decide +kernel, by decide +kernel⟩, List.mem_of_getElem? (i := 338) (by decide +kernel), List.mem_of_getElem? (i := 766) (by decide +kernel), List.mem_of_getElem? (i := 767) (by decide +kernel)⟩
theorem lw_p18 : lw_okq (⟨"SagGates$Reader", "readGate", "()V"⟩, 6) := ⟨⟨by decide +kernel, by decide +kernel⟩, List.mem_of_getElem? (i := 247) (by decide +kernel), List.mem_of_getElem? (i := 772) (by decide +kernel), List.mem_of_getElem? (i := 773) (by decide +kernel)⟩
theorem lw_p19 : lw_okq (⟨"SagGates$Reader", "readNewName", "([II)I"⟩, 6) := ⟨⟨by decide +kernel, by decide +kernel⟩, List.mem_of_getElem? (i := 247) (by decide +kernel), List.mem_of_getElem? (i := 776) (by decide +kernel), List.mem_of_getElem? (i := 777) (by decide +kernel)⟩
theorem lw_p20 : lw_okq (⟨"SagGates$Reader", "readPart", "(LSagGates$Told;)V"⟩, 6) := ⟨⟨by decide +kernel, by decide +kernel⟩, List.mem_of_getElem? (i := 247) (by decide +kernel), List.mem_of_getElem? (i := 784) (by decide +kernel), List.mem_of_getElem? (i := 785) (by decide +kernel)⟩
theorem lw_p21 : lw_okq (⟨"SagGates$Reader", "readBrace", "(LSagGates$Told;)V"⟩, 6) := ⟨⟨by decide +kernel, by decide +kernel⟩, List.mem_of_getElem? (i := 247) (by decide +kernel), List.mem_of_getElem? (i := 788) (by decide +kernel), List.mem_of_getElem? (i := 789) (by decide +kernel)⟩
theorem lw_p22 : lw_okq (⟨"SagGates$Reader", "readHas", "(LSagGates$Told;)V"⟩, 6) := ⟨⟨by decide +kernel, by decide +kernel⟩, List.mem_of_getElem? (i := 247) (by decide +kernel), List.mem_of_getElem? (i := 792) (by decide +kernel), List.mem_of_getElem? (i := 793) (by decide +kernel)⟩
theorem lw_p23 : lw_okq (⟨"SagGates$Reader", "readWork", "()V"⟩, 6) := ⟨⟨by decide +kernel, by decide +kernel⟩, List.mem_of_getElem? (i := 247) (by decide +kernel), List.mem_of_getElem? (i := 796) (by decide +kernel), List.mem_of_getElem? (i := 797) (by decide +kernel)⟩
theorem lw_p24 : lw_okq (⟨"SagGates$Reader", "readCause", "()V"⟩, 6) := ⟨⟨by decide +kernel, by decide +kernel⟩, List.mem_of_getElem? (i := 247) (by decide +kernel), List.mem_of_getElem? (i := 806) (by decide +kernel), List.mem_of_getElem? (i := 807) (by decide +kernel)⟩
theorem lw_p25 : lw_okq (⟨"SagGates$Reader", "readSemicolon", "()V"⟩, 6) := ⟨⟨by decide +kernel, by decide +kernel⟩, List.mem_of_getElem? (i := 247) (by decide +kernel), List.mem_of_getElem? (i := 810) (by decide +kernel), List.mem_of_getElem? (i := 811) (by decide +kernel)⟩
theorem lw_p26 : lw_okq (⟨"SagGates", "takeSpare", "()V"⟩, 16) := ⟨⟨by decide +kernel, by decide +kernel⟩, List.mem_of_getElem? (i := 26) (by decide +kernel), List.mem_of_getElem? (i := 814) (by decide +kernel), List.mem_of_getElem? (i := 815) (by decide +kernel)⟩
theorem lw_p27 : lw_okq (⟨"SagGates$Laws", "put", "(IJ)V"⟩, 5) := ⟨⟨by decide +kernel, by decide +kernel⟩, List.mem_of_getElem? (i := 391) (by decide +kernel), List.mem_of_getElem? (i := 893) (by decide +kernel), List.mem_of_getElem? (i := 894) (by decide +kernel)⟩
theorem lw_p28 : lw_okq (⟨"SagGates$Laws", "refresh", "(LSagGates$Plan;I)V"⟩, 5) := ⟨⟨by decide +kernel, by decide +kernel⟩, List.mem_of_getElem? (i := 391) (by decide +kernel), List.mem_of_getElem? (i := 910) (by decide +kernel), List.mem_of_getElem? (i := 911) (by decide +kernel)⟩
theorem lw_p29 : lw_okq (⟨"SagGates$Laws", "valueOf", "(I)J"⟩, 5) := ⟨⟨by decide +kernel, by decide +kernel⟩, List.mem_of_getElem? (i := 391) (by decide +kernel), List.mem_of_getElem? (i := 919) (by decide +kernel), List.mem_of_getElem? (i := 920) (by decide +kernel)⟩
theorem lw_p30 : lw_okq (⟨"SagGates$Laws", "join", "(IJJ)J"⟩, 5) := ⟨⟨by decide +kernel, by decide +kernel⟩, List.mem_of_getElem? (i := 391) (by decide +kernel), List.mem_of_getElem? (i := 923) (by decide +kernel), List.mem_of_getElem? (i := 924) (by decide +kernel)⟩
theorem lw_p31 : lw_okq (⟨"SagGates$Laws", "bounded", "(J)J"⟩, 5) := ⟨⟨by decide +kernel, by decide +kernel⟩, List.mem_of_getElem? (i := 391) (by decide +kernel), List.mem_of_getElem? (i := 927) (by decide +kernel), List.mem_of_getElem? (i := 928) (by decide +kernel)⟩
def lw_privs_2 : List (MethodName × Nat) := [(⟨"SagGates$Formula", "valueKnot", "()I"⟩, 8), (⟨"SagGates$Formula", "readJoint", "()I"⟩, 8), (⟨"SagGates$Reader", "readGate", "()V"⟩, 6), (⟨"SagGates$Reader", "readNewName", "([II)I"⟩, 6), (⟨"SagGates$Reader", "readPart", "(LSagGates$Told;)V"⟩, 6), (⟨"SagGates$Reader", "readBrace", "(LSagGates$Told;)V"⟩, 6), (⟨"SagGates$Reader", "readHas", "(LSagGates$Told;)V"⟩, 6), (⟨"SagGates$Reader", "readWork", "()V"⟩, 6), (⟨"SagGates$Reader", "readCause", "()V"⟩, 6), (⟨"SagGates$Reader", "readSemicolon", "()V"⟩, 6), (⟨"SagGates", "takeSpare", "()V"⟩, 16), (⟨"SagGates$Laws", "put", "(IJ)V"⟩, 5), (⟨"SagGates$Laws", "refresh", "(LSagGates$Plan;I)V"⟩, 5), (⟨"SagGates$Laws", "valueOf", "(I)J"⟩, 5), (⟨"SagGates$Laws", "join", "(IJJ)J"⟩, 5), (⟨"SagGates$Laws", "bounded", "(J)J"⟩, 5)]
theorem lw_r2 : ∀ q ∈ lw_privs_2, lw_okq q := List.forall_mem_cons.mpr ⟨lw_p16, List.forall_mem_cons.mpr ⟨lw_p17, List.forall_mem_cons.mpr ⟨lw_p18, List.forall_mem_cons.mpr ⟨lw_p19, List.forall_mem_cons.mpr ⟨lw_p20, List.forall_mem_cons.mpr ⟨lw_p21, List.forall_mem_cons.mpr ⟨lw_p22, List.forall_mem_cons.mpr ⟨lw_p23, List.forall_mem_cons.mpr ⟨lw_p24, List.forall_mem_cons.mpr ⟨lw_p25, List.forall_mem_cons.mpr ⟨lw_p26, List.forall_mem_cons.mpr ⟨lw_p27, List.forall_mem_cons.mpr ⟨lw_p28, List.forall_mem_cons.mpr ⟨lw_p29, List.forall_mem_cons.mpr ⟨lw_p30, List.forall_mem_cons.mpr ⟨lw_p31, fun _ h => absurd h List.not_mem_nil⟩⟩⟩⟩⟩⟩⟩⟩⟩⟩⟩⟩⟩⟩⟩⟩
theorem lw_p32 : lw_okq (⟨"SagGates$Laws", "times", "(JJ)J"⟩, 5) := ⟨⟨by decide +kernel, by decide +kernel⟩, List.mem_of_getElem? (i := 391) (by decide +kernel), List.mem_of_getElem? (i := 933) (by decide +kernel), List.mem_of_getElem? (i := 934) (by decide +kernel)⟩
theorem lw_p33 : lw_okq (⟨"SagGates$Laws", "by", "(JJ)J"⟩, 5) := ⟨⟨by decide +kernel, by decide +kernel⟩, List.mem_of_getElem? (i := 391) (by decide +kernel), List.mem_of_getElem? (i := 940) (by decide +kernel), List.mem_of_getElem? (i := 941) (by decide +kernel)⟩
theorem lw_p34 : lw_okq (⟨"SagGates", "isGate", "(I)Z"⟩, 16) := ⟨⟨by decide +kernel, by decide +kernel⟩, List.mem_of_getElem? (i := 26) (by decide +kernel), List.mem_of_getElem? (i := 961) (by decide +kernel), List.mem_of_getElem? (i := 962) (by decide +kernel)⟩
theorem lw_p35 : lw_okq (⟨"SagGates$Undone", "dropEarliest", "()V"⟩, 3) := ⟨⟨by decide +kernel, by decide +kernel⟩, List.mem_of_getElem? (i := 419) (by decide +kernel), List.mem_of_getElem? (i := 991) (by decide +kernel), List.mem_of_getElem? (i := 992) (by decide +kernel)⟩
theorem lw_p36 : lw_okq (⟨"SagGates", "holds", "(IIII)Z"⟩, 16) := ⟨⟨by decide +kernel, by decide +kernel⟩, List.mem_of_getElem? (i := 26) (by decide +kernel), List.mem_of_getElem? (i := 1034) (by decide +kernel), List.mem_of_getElem? (i := 1035) (by decide +kernel)⟩
theorem lw_p37 : lw_okq (⟨"SagGates", "dropWithBrace", "(III)I"⟩, 16) := ⟨⟨by decide +kernel, by decide +kernel⟩, List.mem_of_getElem? (i := 26) (by decide +kernel), List.mem_of_getElem? (i := 1042) (by decide +kernel), List.mem_of_getElem? (i := 1043) (by decide +kernel)⟩
theorem lw_p38 : lw_okq (⟨"SagGates$Notes", "findStruck", "()V"⟩, 11) := ⟨⟨by decide +kernel, by decide +kernel⟩, List.mem_of_getElem? (i := 511) (by decide +kernel), List.mem_of_getElem? (i := 1101) (by decide +kernel), List.mem_of_getElem? (i := 1102) (by decide +kernel)⟩
theorem lw_p39 : lw_okq (⟨"SagGates$Trials", "record", "(I)V"⟩, 3) := ⟨⟨by decide +kernel, by decide +kernel⟩, List.mem_of_getElem? (i := 554) (by decide +kernel), List.mem_of_getElem? (i := 1114) (by decide +kernel), List.mem_of_getElem? (i := 1115) (by decide +kernel)⟩
theorem lw_p40 : lw_okq (⟨"SagGates$Trials", "recorded", "(II)I"⟩, 3) := ⟨⟨by decide +kernel, by decide +kernel⟩, List.mem_of_getElem? (i := 554) (by decide +kernel), List.mem_of_getElem? (i := 1159) (by decide +kernel), List.mem_of_getElem? (i := 1160) (by decide +kernel)⟩
theorem lw_p41 : lw_okq (⟨"SagGates", "unlatchedWeeks", "(III)I"⟩, 16) := ⟨⟨by decide +kernel, by decide +kernel⟩, List.mem_of_getElem? (i := 26) (by decide +kernel), List.mem_of_getElem? (i := 1217) (by decide +kernel), List.mem_of_getElem? (i := 1218) (by decide +kernel)⟩
theorem lw_p42 : lw_okq (⟨"SagGates$Turns", "sumOf", "(II)I"⟩, 4) := ⟨⟨by decide +kernel, by decide +kernel⟩, List.mem_of_getElem? (i := 574) (by decide +kernel), List.mem_of_getElem? (i := 1229) (by decide +kernel), List.mem_of_getElem? (i := 1230) (by decide +kernel)⟩
theorem lw_p43 : lw_okq (⟨"SagGates", "costOfAllDone", "()I"⟩, 16) := ⟨⟨by decide +kernel, by decide +kernel⟩, List.mem_of_getElem? (i := 26) (by decide +kernel), List.mem_of_getElem? (i := 1258) (by decide +kernel), List.mem_of_getElem? (i := 1259) (by decide +kernel)⟩
theorem lw_p44 : lw_okq (⟨"java/lang/Throwable", "fillInStackTrace", "(I)Ljava/lang/Throwable;"⟩, 6) := ⟨⟨by decide +kernel, by decide +kernel⟩, List.mem_of_getElem? (i := 1308) (by decide +kernel), List.mem_of_getElem? (i := 1306) (by decide +kernel), List.mem_of_getElem? (i := 1307) (by decide +kernel)⟩
theorem lw_p45 : lw_okq (⟨"SagGatesModel", "plain", "()V"⟩, 69) := ⟨⟨by decide +kernel, by decide +kernel⟩, List.mem_of_getElem? (i := 1354) (by decide +kernel), List.mem_of_getElem? (i := 1360) (by decide +kernel), List.mem_of_getElem? (i := 1361) (by decide +kernel)⟩
theorem lw_p46 : lw_okq (⟨"SagGatesModel", "keepText", "()V"⟩, 69) := ⟨⟨by decide +kernel, by decide +kernel⟩, List.mem_of_getElem? (i := 1354) (by decide +kernel), List.mem_of_getElem? (i := 1364) (by decide +kernel), List.mem_of_getElem? (i := 1365) (by decide +kernel)⟩
theorem lw_p47 : lw_okq (⟨"SagGatesModel", "begins", "(I)V"⟩, 69) := ⟨⟨by decide +kernel, by decide +kernel⟩, List.mem_of_getElem? (i := 1354) (by decide +kernel), List.mem_of_getElem? (i := 1371) (by decide +kernel), List.mem_of_getElem? (i := 1372) (by decide +kernel)⟩
def lw_privs_3 : List (MethodName × Nat) := [(⟨"SagGates$Laws", "times", "(JJ)J"⟩, 5), (⟨"SagGates$Laws", "by", "(JJ)J"⟩, 5), (⟨"SagGates", "isGate", "(I)Z"⟩, 16), (⟨"SagGates$Undone", "dropEarliest", "()V"⟩, 3), (⟨"SagGates", "holds", "(IIII)Z"⟩, 16), (⟨"SagGates", "dropWithBrace", "(III)I"⟩, 16), (⟨"SagGates$Notes", "findStruck", "()V"⟩, 11), (⟨"SagGates$Trials", "record", "(I)V"⟩, 3), (⟨"SagGates$Trials", "recorded", "(II)I"⟩, 3), (⟨"SagGates", "unlatchedWeeks", "(III)I"⟩, 16), (⟨"SagGates$Turns", "sumOf", "(II)I"⟩, 4), (⟨"SagGates", "costOfAllDone", "()I"⟩, 16), (⟨"java/lang/Throwable", "fillInStackTrace", "(I)Ljava/lang/Throwable;"⟩, 6), (⟨"SagGatesModel", "plain", "()V"⟩, 69), (⟨"SagGatesModel", "keepText", "()V"⟩, 69), (⟨"SagGatesModel", "begins", "(I)V"⟩, 69)]
theorem lw_r3 : ∀ q ∈ lw_privs_3, lw_okq q := List.forall_mem_cons.mpr ⟨lw_p32, List.forall_mem_cons.mpr ⟨lw_p33, List.forall_mem_cons.mpr ⟨lw_p34, List.forall_mem_cons.mpr ⟨lw_p35, List.forall_mem_cons.mpr ⟨lw_p36, List.forall_mem_cons.mpr ⟨lw_p37, List.forall_mem_cons.mpr ⟨lw_p38, List.forall_mem_cons.mpr ⟨lw_p39, List.forall_mem_cons.mpr ⟨lw_p40, List.forall_mem_cons.mpr ⟨lw_p41, List.forall_mem_cons.mpr ⟨lw_p42, List.forall_mem_cons.mpr ⟨lw_p43, List.forall_mem_cons.mpr ⟨lw_p44, List.forall_mem_cons.mpr ⟨lw_p45, List.forall_mem_cons.mpr ⟨lw_p46, List.forall_mem_cons.mpr ⟨lw_p47, fun _ h => absurd h List.not_mem_nil⟩⟩⟩⟩⟩⟩⟩⟩⟩⟩⟩⟩⟩⟩⟩⟩
theorem lw_p48 : lw_okq (⟨"SagGatesModel", "token", "()V"⟩, 69) := ⟨⟨by decide +kernel, by decide +kernel⟩, List.mem_of_getElem? (i := 1354) (by decide +kernel), List.mem_of_getElem? (i := 1598) (by decide +kernel), List.mem_of_getElem? (i := 1599) (by decide +kernel)⟩
theorem lw_p49 : lw_okq (⟨"SagGatesModel", "isSmall", "(I)Z"⟩, 69) := ⟨⟨by decide +kernel, by decide +kernel⟩, List.mem_of_getElem? (i := 1354) (by decide +kernel), List.mem_of_getElem? (i := 1602) (by decide +kernel), List.mem_of_getElem? (i := 1603) (by decide +kernel)⟩
theorem lw_p50 : lw_okq (⟨"SagGatesModel", "wordAt", "(II)I"⟩, 69) := ⟨⟨by decide +kernel, by decide +kernel⟩, List.mem_of_getElem? (i := 1354) (by decide +kernel), List.mem_of_getElem? (i := 1606) (by decide +kernel), List.mem_of_getElem? (i := 1607) (by decide +kernel)⟩
theorem lw_p51 : lw_okq (⟨"SagGatesModel", "packed", "(II)I"⟩, 69) := ⟨⟨by decide +kernel, by decide +kernel⟩, List.mem_of_getElem? (i := 1354) (by decide +kernel), List.mem_of_getElem? (i := 1610) (by decide +kernel), List.mem_of_getElem? (i := 1611) (by decide +kernel)⟩
theorem lw_p52 : lw_okq (⟨"SagGatesModel", "isDigit", "(I)Z"⟩, 69) := ⟨⟨by decide +kernel, by decide +kernel⟩, List.mem_of_getElem? (i := 1354) (by decide +kernel), List.mem_of_getElem? (i := 1614) (by decide +kernel), List.mem_of_getElem? (i := 1615) (by decide +kernel)⟩
theorem lw_p53 : lw_okq (⟨"SagGatesModel", "signToken", "()V"⟩, 69) := ⟨⟨by decide +kernel, by decide +kernel⟩, List.mem_of_getElem? (i := 1354) (by decide +kernel), List.mem_of_getElem? (i := 1618) (by decide +kernel), List.mem_of_getElem? (i := 1619) (by decide +kernel)⟩
theorem lw_p54 : lw_okq (⟨"SagGatesModel", "lineRead", "()Z"⟩, 69) := ⟨⟨by decide +kernel, by decide +kernel⟩, List.mem_of_getElem? (i := 1354) (by decide +kernel), List.mem_of_getElem? (i := 1622) (by decide +kernel), List.mem_of_getElem? (i := 1623) (by decide +kernel)⟩
theorem lw_p55 : lw_okq (⟨"SagGatesModel", "wrong", "(I)Z"⟩, 69) := ⟨⟨by decide +kernel, by decide +kernel⟩, List.mem_of_getElem? (i := 1354) (by decide +kernel), List.mem_of_getElem? (i := 1626) (by decide +kernel), List.mem_of_getElem? (i := 1627) (by decide +kernel)⟩
theorem lw_p56 : lw_okq (⟨"SagGatesModel", "groundLine", "()Z"⟩, 69) := ⟨⟨by decide +kernel, by decide +kernel⟩, List.mem_of_getElem? (i := 1354) (by decide +kernel), List.mem_of_getElem? (i := 1630) (by decide +kernel), List.mem_of_getElem? (i := 1631) (by decide +kernel)⟩
theorem lw_p57 : lw_okq (⟨"SagGatesModel", "numbers", "([IIIII)Z"⟩, 69) := ⟨⟨by decide +kernel, by decide +kernel⟩, List.mem_of_getElem? (i := 1354) (by decide +kernel), List.mem_of_getElem? (i := 1634) (by decide +kernel), List.mem_of_getElem? (i := 1635) (by decide +kernel)⟩
theorem lw_p58 : lw_okq (⟨"SagGatesModel", "number", "(II)Z"⟩, 69) := ⟨⟨by decide +kernel, by decide +kernel⟩, List.mem_of_getElem? (i := 1354) (by decide +kernel), List.mem_of_getElem? (i := 1638) (by decide +kernel), List.mem_of_getElem? (i := 1639) (by decide +kernel)⟩
theorem lw_p59 : lw_okq (⟨"SagGatesModel", "lawLine", "()Z"⟩, 69) := ⟨⟨by decide +kernel, by decide +kernel⟩, List.mem_of_getElem? (i := 1354) (by decide +kernel), List.mem_of_getElem? (i := 1645) (by decide +kernel), List.mem_of_getElem? (i := 1646) (by decide +kernel)⟩
theorem lw_p60 : lw_okq (⟨"SagGatesModel", "sumRead", "()Z"⟩, 69) := ⟨⟨by decide +kernel, by decide +kernel⟩, List.mem_of_getElem? (i := 1354) (by decide +kernel), List.mem_of_getElem? (i := 1649) (by decide +kernel), List.mem_of_getElem? (i := 1650) (by decide +kernel)⟩
theorem lw_p61 : lw_okq (⟨"SagGatesModel", "isSign", "(I)Z"⟩, 69) := ⟨⟨by decide +kernel, by decide +kernel⟩, List.mem_of_getElem? (i := 1354) (by decide +kernel), List.mem_of_getElem? (i := 1653) (by decide +kernel), List.mem_of_getElem? (i := 1654) (by decide +kernel)⟩
theorem lw_p62 : lw_okq (⟨"SagGatesModel", "leafRead", "()Z"⟩, 69) := ⟨⟨by decide +kernel, by decide +kernel⟩, List.mem_of_getElem? (i := 1354) (by decide +kernel), List.mem_of_getElem? (i := 1657) (by decide +kernel), List.mem_of_getElem? (i := 1658) (by decide +kernel)⟩
theorem lw_p63 : lw_okq (⟨"SagGatesModel", "waitsFor", "(I)V"⟩, 69) := ⟨⟨by decide +kernel, by decide +kernel⟩, List.mem_of_getElem? (i := 1354) (by decide +kernel), List.mem_of_getElem? (i := 1661) (by decide +kernel), List.mem_of_getElem? (i := 1662) (by decide +kernel)⟩
def lw_privs_4 : List (MethodName × Nat) := [(⟨"SagGatesModel", "token", "()V"⟩, 69), (⟨"SagGatesModel", "isSmall", "(I)Z"⟩, 69), (⟨"SagGatesModel", "wordAt", "(II)I"⟩, 69), (⟨"SagGatesModel", "packed", "(II)I"⟩, 69), (⟨"SagGatesModel", "isDigit", "(I)Z"⟩, 69), (⟨"SagGatesModel", "signToken", "()V"⟩, 69), (⟨"SagGatesModel", "lineRead", "()Z"⟩, 69), (⟨"SagGatesModel", "wrong", "(I)Z"⟩, 69), (⟨"SagGatesModel", "groundLine", "()Z"⟩, 69), (⟨"SagGatesModel", "numbers", "([IIIII)Z"⟩, 69), (⟨"SagGatesModel", "number", "(II)Z"⟩, 69), (⟨"SagGatesModel", "lawLine", "()Z"⟩, 69), (⟨"SagGatesModel", "sumRead", "()Z"⟩, 69), (⟨"SagGatesModel", "isSign", "(I)Z"⟩, 69), (⟨"SagGatesModel", "leafRead", "()Z"⟩, 69), (⟨"SagGatesModel", "waitsFor", "(I)V"⟩, 69)]
theorem lw_r4 : ∀ q ∈ lw_privs_4, lw_okq q := List.forall_mem_cons.mpr ⟨lw_p48, List.forall_mem_cons.mpr ⟨lw_p49, List.forall_mem_cons.mpr ⟨lw_p50, List.forall_mem_cons.mpr ⟨lw_p51, List.forall_mem_cons.mpr ⟨lw_p52, List.forall_mem_cons.mpr ⟨lw_p53, List.forall_mem_cons.mpr ⟨lw_p54, List.forall_mem_cons.mpr ⟨lw_p55, List.forall_mem_cons.mpr ⟨lw_p56, List.forall_mem_cons.mpr ⟨lw_p57, List.forall_mem_cons.mpr ⟨lw_p58, List.forall_mem_cons.mpr ⟨lw_p59, List.forall_mem_cons.mpr ⟨lw_p60, List.forall_mem_cons.mpr ⟨lw_p61, List.forall_mem_cons.mpr ⟨lw_p62, List.forall_mem_cons.mpr ⟨lw_p63, fun _ h => absurd h List.not_mem_nil⟩⟩⟩⟩⟩⟩⟩⟩⟩⟩⟩⟩⟩⟩⟩⟩
theorem lw_p64 : lw_okq (⟨"SagGatesModel", "isKey", "(I)Z"⟩, 69) := ⟨⟨by decide +kernel, by decide +kernel⟩, List.mem_of_getElem? (i := 1354) (by decide +kernel), List.mem_of_getElem? (i := 1665) (by decide +kernel), List.mem_of_getElem? (i := 1666) (by decide +kernel)⟩
theorem lw_p65 : lw_okq (⟨"SagGatesModel", "isCounted", "()Z"⟩, 69) := ⟨⟨by decide +kernel, by decide +kernel⟩, List.mem_of_getElem? (i := 1354) (by decide +kernel), List.mem_of_getElem? (i := 1669) (by decide +kernel), List.mem_of_getElem? (i := 1670) (by decide +kernel)⟩
theorem lw_p66 : lw_okq (⟨"SagGatesModel", "grown", "(III)V"⟩, 69) := ⟨⟨by decide +kernel, by decide +kernel⟩, List.mem_of_getElem? (i := 1354) (by decide +kernel), List.mem_of_getElem? (i := 1673) (by decide +kernel), List.mem_of_getElem? (i := 1674) (by decide +kernel)⟩
theorem lw_p67 : lw_okq (⟨"SagGatesModel", "signs", "()Z"⟩, 69) := ⟨⟨by decide +kernel, by decide +kernel⟩, List.mem_of_getElem? (i := 1354) (by decide +kernel), List.mem_of_getElem? (i := 1677) (by decide +kernel), List.mem_of_getElem? (i := 1678) (by decide +kernel)⟩
theorem lw_p68 : lw_okq (⟨"SagGatesModel", "bind", "(I)V"⟩, 69) := ⟨⟨by decide +kernel, by decide +kernel⟩, List.mem_of_getElem? (i := 1354) (by decide +kernel), List.mem_of_getElem? (i := 1681) (by decide +kernel), List.mem_of_getElem? (i := 1682) (by decide +kernel)⟩
theorem lw_p69 : lw_okq (⟨"SagGatesModel", "dropHeld", "()I"⟩, 69) := ⟨⟨by decide +kernel, by decide +kernel⟩, List.mem_of_getElem? (i := 1354) (by decide +kernel), List.mem_of_getElem? (i := 1688) (by decide +kernel), List.mem_of_getElem? (i := 1689) (by decide +kernel)⟩
theorem lw_p70 : lw_okq (⟨"SagGatesModel", "gateLine", "()Z"⟩, 69) := ⟨⟨by decide +kernel, by decide +kernel⟩, List.mem_of_getElem? (i := 1354) (by decide +kernel), List.mem_of_getElem? (i := 1692) (by decide +kernel), List.mem_of_getElem? (i := 1693) (by decide +kernel)⟩
theorem lw_p71 : lw_okq (⟨"SagGatesModel", "newName", "([III)Z"⟩, 69) := ⟨⟨by decide +kernel, by decide +kernel⟩, List.mem_of_getElem? (i := 1354) (by decide +kernel), List.mem_of_getElem? (i := 1696) (by decide +kernel), List.mem_of_getElem? (i := 1697) (by decide +kernel)⟩
theorem lw_p72 : lw_okq (⟨"SagGatesModel", "hasWord", "()I"⟩, 69) := ⟨⟨by decide +kernel, by decide +kernel⟩, List.mem_of_getElem? (i := 1354) (by decide +kernel), List.mem_of_getElem? (i := 1703) (by decide +kernel), List.mem_of_getElem? (i := 1704) (by decide +kernel)⟩
theorem lw_p73 : lw_okq (⟨"SagGatesModel", "hasRead", "(II)Z"⟩, 69) := ⟨⟨by decide +kernel, by decide +kernel⟩, List.mem_of_getElem? (i := 1354) (by decide +kernel), List.mem_of_getElem? (i := 1710) (by decide +kernel), List.mem_of_getElem? (i := 1711) (by decide +kernel)⟩
theorem lw_p74 : lw_okq (⟨"SagGatesModel", "hooksRead", "(I)Z"⟩, 69) := ⟨⟨by decide +kernel, by decide +kernel⟩, List.mem_of_getElem? (i := 1354) (by decide +kernel), List.mem_of_getElem? (i := 1714) (by decide +kernel), List.mem_of_getElem? (i := 1715) (by decide +kernel)⟩
theorem lw_p75 : lw_okq (⟨"SagGatesModel", "signed", "(I)Z"⟩, 69) := ⟨⟨by decide +kernel, by decide +kernel⟩, List.mem_of_getElem? (i := 1354) (by decide +kernel), List.mem_of_getElem? (i := 1718) (by decide +kernel), List.mem_of_getElem? (i := 1719) (by decide +kernel)⟩
theorem lw_p76 : lw_okq (⟨"SagGatesModel", "causeRead", "(I)Z"⟩, 69) := ⟨⟨by decide +kernel, by decide +kernel⟩, List.mem_of_getElem? (i := 1354) (by decide +kernel), List.mem_of_getElem? (i := 1722) (by decide +kernel), List.mem_of_getElem? (i := 1723) (by decide +kernel)⟩
theorem lw_p77 : lw_okq (⟨"SagGatesModel", "workLine", "()Z"⟩, 69) := ⟨⟨by decide +kernel, by decide +kernel⟩, List.mem_of_getElem? (i := 1354) (by decide +kernel), List.mem_of_getElem? (i := 1726) (by decide +kernel), List.mem_of_getElem? (i := 1727) (by decide +kernel)⟩
theorem lw_p78 : lw_okq (⟨"SagGatesModel", "workWord", "()I"⟩, 69) := ⟨⟨by decide +kernel, by decide +kernel⟩, List.mem_of_getElem? (i := 1354) (by decide +kernel), List.mem_of_getElem? (i := 1730) (by decide +kernel), List.mem_of_getElem? (i := 1731) (by decide +kernel)⟩
theorem lw_p79 : lw_okq (⟨"SagGatesModel", "causeLine", "()Z"⟩, 69) := ⟨⟨by decide +kernel, by decide +kernel⟩, List.mem_of_getElem? (i := 1354) (by decide +kernel), List.mem_of_getElem? (i := 1737) (by decide +kernel), List.mem_of_getElem? (i := 1738) (by decide +kernel)⟩
def lw_privs_5 : List (MethodName × Nat) := [(⟨"SagGatesModel", "isKey", "(I)Z"⟩, 69), (⟨"SagGatesModel", "isCounted", "()Z"⟩, 69), (⟨"SagGatesModel", "grown", "(III)V"⟩, 69), (⟨"SagGatesModel", "signs", "()Z"⟩, 69), (⟨"SagGatesModel", "bind", "(I)V"⟩, 69), (⟨"SagGatesModel", "dropHeld", "()I"⟩, 69), (⟨"SagGatesModel", "gateLine", "()Z"⟩, 69), (⟨"SagGatesModel", "newName", "([III)Z"⟩, 69), (⟨"SagGatesModel", "hasWord", "()I"⟩, 69), (⟨"SagGatesModel", "hasRead", "(II)Z"⟩, 69), (⟨"SagGatesModel", "hooksRead", "(I)Z"⟩, 69), (⟨"SagGatesModel", "signed", "(I)Z"⟩, 69), (⟨"SagGatesModel", "causeRead", "(I)Z"⟩, 69), (⟨"SagGatesModel", "workLine", "()Z"⟩, 69), (⟨"SagGatesModel", "workWord", "()I"⟩, 69), (⟨"SagGatesModel", "causeLine", "()Z"⟩, 69)]
theorem lw_r5 : ∀ q ∈ lw_privs_5, lw_okq q := List.forall_mem_cons.mpr ⟨lw_p64, List.forall_mem_cons.mpr ⟨lw_p65, List.forall_mem_cons.mpr ⟨lw_p66, List.forall_mem_cons.mpr ⟨lw_p67, List.forall_mem_cons.mpr ⟨lw_p68, List.forall_mem_cons.mpr ⟨lw_p69, List.forall_mem_cons.mpr ⟨lw_p70, List.forall_mem_cons.mpr ⟨lw_p71, List.forall_mem_cons.mpr ⟨lw_p72, List.forall_mem_cons.mpr ⟨lw_p73, List.forall_mem_cons.mpr ⟨lw_p74, List.forall_mem_cons.mpr ⟨lw_p75, List.forall_mem_cons.mpr ⟨lw_p76, List.forall_mem_cons.mpr ⟨lw_p77, List.forall_mem_cons.mpr ⟨lw_p78, List.forall_mem_cons.mpr ⟨lw_p79, fun _ h => absurd h List.not_mem_nil⟩⟩⟩⟩⟩⟩⟩⟩⟩⟩⟩⟩⟩⟩⟩⟩
theorem lw_p80 : lw_okq (⟨"SagGatesModel", "isGate", "(I)Z"⟩, 69) := ⟨⟨by decide +kernel, by decide +kernel⟩, List.mem_of_getElem? (i := 1354) (by decide +kernel), List.mem_of_getElem? (i := 1753) (by decide +kernel), List.mem_of_getElem? (i := 1754) (by decide +kernel)⟩
theorem lw_p81 : lw_okq (⟨"SagGatesModel", "fails", "(I)I"⟩, 69) := ⟨⟨by decide +kernel, by decide +kernel⟩, List.mem_of_getElem? (i := 1354) (by decide +kernel), List.mem_of_getElem? (i := 1757) (by decide +kernel), List.mem_of_getElem? (i := 1758) (by decide +kernel)⟩
theorem lw_p82 : lw_okq (⟨"SagGatesModel", "loads", "(I)V"⟩, 69) := ⟨⟨by decide +kernel, by decide +kernel⟩, List.mem_of_getElem? (i := 1354) (by decide +kernel), List.mem_of_getElem? (i := 1761) (by decide +kernel), List.mem_of_getElem? (i := 1762) (by decide +kernel)⟩
theorem lw_p83 : lw_okq (⟨"SagGatesModel", "spanOf", "(I)I"⟩, 69) := ⟨⟨by decide +kernel, by decide +kernel⟩, List.mem_of_getElem? (i := 1354) (by decide +kernel), List.mem_of_getElem? (i := 1765) (by decide +kernel), List.mem_of_getElem? (i := 1766) (by decide +kernel)⟩
theorem lw_p84 : lw_okq (⟨"SagGatesModel", "pullOf", "(I)I"⟩, 69) := ⟨⟨by decide +kernel, by decide +kernel⟩, List.mem_of_getElem? (i := 1354) (by decide +kernel), List.mem_of_getElem? (i := 1769) (by decide +kernel), List.mem_of_getElem? (i := 1770) (by decide +kernel)⟩
theorem lw_p85 : lw_okq (⟨"SagGatesModel", "firmOf", "(I)I"⟩, 69) := ⟨⟨by decide +kernel, by decide +kernel⟩, List.mem_of_getElem? (i := 1354) (by decide +kernel), List.mem_of_getElem? (i := 1781) (by decide +kernel), List.mem_of_getElem? (i := 1782) (by decide +kernel)⟩
theorem lw_p86 : lw_okq (⟨"SagGatesModel", "goesOn", "(II)V"⟩, 69) := ⟨⟨by decide +kernel, by decide +kernel⟩, List.mem_of_getElem? (i := 1354) (by decide +kernel), List.mem_of_getElem? (i := 1789) (by decide +kernel), List.mem_of_getElem? (i := 1790) (by decide +kernel)⟩
theorem lw_p87 : lw_okq (⟨"SagGatesModel", "goes", "(II)V"⟩, 69) := ⟨⟨by decide +kernel, by decide +kernel⟩, List.mem_of_getElem? (i := 1354) (by decide +kernel), List.mem_of_getElem? (i := 1793) (by decide +kernel), List.mem_of_getElem? (i := 1794) (by decide +kernel)⟩
theorem lw_p88 : lw_okq (⟨"SagGatesModel", "layNames", "(III)V"⟩, 69) := ⟨⟨by decide +kernel, by decide +kernel⟩, List.mem_of_getElem? (i := 1354) (by decide +kernel), List.mem_of_getElem? (i := 1797) (by decide +kernel), List.mem_of_getElem? (i := 1798) (by decide +kernel)⟩
theorem lw_p89 : lw_okq (⟨"SagGatesModel", "dropOf", "(I)I"⟩, 69) := ⟨⟨by decide +kernel, by decide +kernel⟩, List.mem_of_getElem? (i := 1354) (by decide +kernel), List.mem_of_getElem? (i := 1801) (by decide +kernel), List.mem_of_getElem? (i := 1802) (by decide +kernel)⟩
theorem lw_p90 : lw_okq (⟨"SagGatesModel", "partOf", "(II)I"⟩, 69) := ⟨⟨by decide +kernel, by decide +kernel⟩, List.mem_of_getElem? (i := 1354) (by decide +kernel), List.mem_of_getElem? (i := 1805) (by decide +kernel), List.mem_of_getElem? (i := 1806) (by decide +kernel)⟩
theorem lw_p91 : lw_okq (⟨"SagGatesModel", "lawOf", "(I)J"⟩, 69) := ⟨⟨by decide +kernel, by decide +kernel⟩, List.mem_of_getElem? (i := 1354) (by decide +kernel), List.mem_of_getElem? (i := 1809) (by decide +kernel), List.mem_of_getElem? (i := 1810) (by decide +kernel)⟩
theorem lw_p92 : lw_okq (⟨"SagGatesModel", "valueOf", "(I)J"⟩, 69) := ⟨⟨by decide +kernel, by decide +kernel⟩, List.mem_of_getElem? (i := 1354) (by decide +kernel), List.mem_of_getElem? (i := 1813) (by decide +kernel), List.mem_of_getElem? (i := 1814) (by decide +kernel)⟩
theorem lw_p93 : lw_okq (⟨"SagGatesModel", "bounded", "(J)J"⟩, 69) := ⟨⟨by decide +kernel, by decide +kernel⟩, List.mem_of_getElem? (i := 1354) (by decide +kernel), List.mem_of_getElem? (i := 1817) (by decide +kernel), List.mem_of_getElem? (i := 1818) (by decide +kernel)⟩
theorem lw_p94 : lw_okq (⟨"SagGatesModel", "times", "(JJ)J"⟩, 69) := ⟨⟨by decide +kernel, by decide +kernel⟩, List.mem_of_getElem? (i := 1354) (by decide +kernel), List.mem_of_getElem? (i := 1823) (by decide +kernel), List.mem_of_getElem? (i := 1824) (by decide +kernel)⟩
theorem lw_p95 : lw_okq (⟨"SagGatesModel", "isLatched", "(I)Z"⟩, 69) := ⟨⟨by decide +kernel, by decide +kernel⟩, List.mem_of_getElem? (i := 1354) (by decide +kernel), List.mem_of_getElem? (i := 1841) (by decide +kernel), List.mem_of_getElem? (i := 1842) (by decide +kernel)⟩
def lw_privs_6 : List (MethodName × Nat) := [(⟨"SagGatesModel", "isGate", "(I)Z"⟩, 69), (⟨"SagGatesModel", "fails", "(I)I"⟩, 69), (⟨"SagGatesModel", "loads", "(I)V"⟩, 69), (⟨"SagGatesModel", "spanOf", "(I)I"⟩, 69), (⟨"SagGatesModel", "pullOf", "(I)I"⟩, 69), (⟨"SagGatesModel", "firmOf", "(I)I"⟩, 69), (⟨"SagGatesModel", "goesOn", "(II)V"⟩, 69), (⟨"SagGatesModel", "goes", "(II)V"⟩, 69), (⟨"SagGatesModel", "layNames", "(III)V"⟩, 69), (⟨"SagGatesModel", "dropOf", "(I)I"⟩, 69), (⟨"SagGatesModel", "partOf", "(II)I"⟩, 69), (⟨"SagGatesModel", "lawOf", "(I)J"⟩, 69), (⟨"SagGatesModel", "valueOf", "(I)J"⟩, 69), (⟨"SagGatesModel", "bounded", "(J)J"⟩, 69), (⟨"SagGatesModel", "times", "(JJ)J"⟩, 69), (⟨"SagGatesModel", "isLatched", "(I)Z"⟩, 69)]
theorem lw_r6 : ∀ q ∈ lw_privs_6, lw_okq q := List.forall_mem_cons.mpr ⟨lw_p80, List.forall_mem_cons.mpr ⟨lw_p81, List.forall_mem_cons.mpr ⟨lw_p82, List.forall_mem_cons.mpr ⟨lw_p83, List.forall_mem_cons.mpr ⟨lw_p84, List.forall_mem_cons.mpr ⟨lw_p85, List.forall_mem_cons.mpr ⟨lw_p86, List.forall_mem_cons.mpr ⟨lw_p87, List.forall_mem_cons.mpr ⟨lw_p88, List.forall_mem_cons.mpr ⟨lw_p89, List.forall_mem_cons.mpr ⟨lw_p90, List.forall_mem_cons.mpr ⟨lw_p91, List.forall_mem_cons.mpr ⟨lw_p92, List.forall_mem_cons.mpr ⟨lw_p93, List.forall_mem_cons.mpr ⟨lw_p94, List.forall_mem_cons.mpr ⟨lw_p95, fun _ h => absurd h List.not_mem_nil⟩⟩⟩⟩⟩⟩⟩⟩⟩⟩⟩⟩⟩⟩⟩⟩
theorem lw_p96 : lw_okq (⟨"SagGatesModel", "does", "(I)V"⟩, 69) := ⟨⟨by decide +kernel, by decide +kernel⟩, List.mem_of_getElem? (i := 1354) (by decide +kernel), List.mem_of_getElem? (i := 1853) (by decide +kernel), List.mem_of_getElem? (i := 1854) (by decide +kernel)⟩
theorem lw_p97 : lw_okq (⟨"SagGatesModel", "costOf", "(I)I"⟩, 69) := ⟨⟨by decide +kernel, by decide +kernel⟩, List.mem_of_getElem? (i := 1354) (by decide +kernel), List.mem_of_getElem? (i := 1874) (by decide +kernel), List.mem_of_getElem? (i := 1875) (by decide +kernel)⟩
theorem lw_p98 : lw_okq (⟨"SagGatesModel", "dropBy", "(III)I"⟩, 69) := ⟨⟨by decide +kernel, by decide +kernel⟩, List.mem_of_getElem? (i := 1354) (by decide +kernel), List.mem_of_getElem? (i := 1882) (by decide +kernel), List.mem_of_getElem? (i := 1883) (by decide +kernel)⟩
theorem lw_p99 : lw_okq (⟨"SagGatesModel", "fitting", "(I)I"⟩, 69) := ⟨⟨by decide +kernel, by decide +kernel⟩, List.mem_of_getElem? (i := 1354) (by decide +kernel), List.mem_of_getElem? (i := 1917) (by decide +kernel), List.mem_of_getElem? (i := 1918) (by decide +kernel)⟩
theorem lw_p100 : lw_okq (⟨"SagGatesModel", "layCounts", "()V"⟩, 69) := ⟨⟨by decide +kernel, by decide +kernel⟩, List.mem_of_getElem? (i := 1354) (by decide +kernel), List.mem_of_getElem? (i := 1921) (by decide +kernel), List.mem_of_getElem? (i := 1922) (by decide +kernel)⟩
theorem lw_p101 : lw_okq (⟨"SagGatesModel", "knownMany", "()I"⟩, 69) := ⟨⟨by decide +kernel, by decide +kernel⟩, List.mem_of_getElem? (i := 1354) (by decide +kernel), List.mem_of_getElem? (i := 1925) (by decide +kernel), List.mem_of_getElem? (i := 1926) (by decide +kernel)⟩
theorem lw_p102 : lw_okq (⟨"SagGatesModel", "isFit", "(II)Z"⟩, 69) := ⟨⟨by decide +kernel, by decide +kernel⟩, List.mem_of_getElem? (i := 1354) (by decide +kernel), List.mem_of_getElem? (i := 1929) (by decide +kernel), List.mem_of_getElem? (i := 1930) (by decide +kernel)⟩
theorem lw_p103 : lw_okq (⟨"SagGatesModel", "beginsBy", "(II)V"⟩, 69) := ⟨⟨by decide +kernel, by decide +kernel⟩, List.mem_of_getElem? (i := 1354) (by decide +kernel), List.mem_of_getElem? (i := 1933) (by decide +kernel), List.mem_of_getElem? (i := 1934) (by decide +kernel)⟩
theorem lw_p104 : lw_okq (⟨"SagGatesModel", "isSo", "(II)Z"⟩, 69) := ⟨⟨by decide +kernel, by decide +kernel⟩, List.mem_of_getElem? (i := 1354) (by decide +kernel), List.mem_of_getElem? (i := 1937) (by decide +kernel), List.mem_of_getElem? (i := 1938) (by decide +kernel)⟩
theorem lw_p105 : lw_okq (⟨"SagGatesModel", "valueNow", "(II)I"⟩, 69) := ⟨⟨by decide +kernel, by decide +kernel⟩, List.mem_of_getElem? (i := 1354) (by decide +kernel), List.mem_of_getElem? (i := 1941) (by decide +kernel), List.mem_of_getElem? (i := 1942) (by decide +kernel)⟩
theorem lw_p106 : lw_okq (⟨"SagGatesModel", "weightOf", "(I)I"⟩, 69) := ⟨⟨by decide +kernel, by decide +kernel⟩, List.mem_of_getElem? (i := 1354) (by decide +kernel), List.mem_of_getElem? (i := 1949) (by decide +kernel), List.mem_of_getElem? (i := 1950) (by decide +kernel)⟩
theorem lw_p107 : lw_okq (⟨"SagGatesModel", "heaviest", "(III)I"⟩, 69) := ⟨⟨by decide +kernel, by decide +kernel⟩, List.mem_of_getElem? (i := 1354) (by decide +kernel), List.mem_of_getElem? (i := 1960) (by decide +kernel), List.mem_of_getElem? (i := 1961) (by decide +kernel)⟩
theorem lw_p108 : lw_okq (⟨"SagGatesModel", "isAngle", "(I)Z"⟩, 69) := ⟨⟨by decide +kernel, by decide +kernel⟩, List.mem_of_getElem? (i := 1354) (by decide +kernel), List.mem_of_getElem? (i := 1968) (by decide +kernel), List.mem_of_getElem? (i := 1969) (by decide +kernel)⟩
theorem lw_p109 : lw_okq (⟨"SagGatesModel", "lowOf", "(II)I"⟩, 69) := ⟨⟨by decide +kernel, by decide +kernel⟩, List.mem_of_getElem? (i := 1354) (by decide +kernel), List.mem_of_getElem? (i := 1972) (by decide +kernel), List.mem_of_getElem? (i := 1973) (by decide +kernel)⟩
theorem lw_p110 : lw_okq (⟨"SagGatesModel", "shutsFrom", "(I)I"⟩, 69) := ⟨⟨by decide +kernel, by decide +kernel⟩, List.mem_of_getElem? (i := 1354) (by decide +kernel), List.mem_of_getElem? (i := 1984) (by decide +kernel), List.mem_of_getElem? (i := 1985) (by decide +kernel)⟩
theorem lw_p111 : lw_okq (⟨"SagGatesModel", "aboveOf", "(II)I"⟩, 69) := ⟨⟨by decide +kernel, by decide +kernel⟩, List.mem_of_getElem? (i := 1354) (by decide +kernel), List.mem_of_getElem? (i := 1992) (by decide +kernel), List.mem_of_getElem? (i := 1993) (by decide +kernel)⟩
def lw_privs_7 : List (MethodName × Nat) := [(⟨"SagGatesModel", "does", "(I)V"⟩, 69), (⟨"SagGatesModel", "costOf", "(I)I"⟩, 69), (⟨"SagGatesModel", "dropBy", "(III)I"⟩, 69), (⟨"SagGatesModel", "fitting", "(I)I"⟩, 69), (⟨"SagGatesModel", "layCounts", "()V"⟩, 69), (⟨"SagGatesModel", "knownMany", "()I"⟩, 69), (⟨"SagGatesModel", "isFit", "(II)Z"⟩, 69), (⟨"SagGatesModel", "beginsBy", "(II)V"⟩, 69), (⟨"SagGatesModel", "isSo", "(II)Z"⟩, 69), (⟨"SagGatesModel", "valueNow", "(II)I"⟩, 69), (⟨"SagGatesModel", "weightOf", "(I)I"⟩, 69), (⟨"SagGatesModel", "heaviest", "(III)I"⟩, 69), (⟨"SagGatesModel", "isAngle", "(I)Z"⟩, 69), (⟨"SagGatesModel", "lowOf", "(II)I"⟩, 69), (⟨"SagGatesModel", "shutsFrom", "(I)I"⟩, 69), (⟨"SagGatesModel", "aboveOf", "(II)I"⟩, 69)]
theorem lw_r7 : ∀ q ∈ lw_privs_7, lw_okq q := List.forall_mem_cons.mpr ⟨lw_p96, List.forall_mem_cons.mpr ⟨lw_p97, List.forall_mem_cons.mpr ⟨lw_p98, List.forall_mem_cons.mpr ⟨lw_p99, List.forall_mem_cons.mpr ⟨lw_p100, List.forall_mem_cons.mpr ⟨lw_p101, List.forall_mem_cons.mpr ⟨lw_p102, List.forall_mem_cons.mpr ⟨lw_p103, List.forall_mem_cons.mpr ⟨lw_p104, List.forall_mem_cons.mpr ⟨lw_p105, List.forall_mem_cons.mpr ⟨lw_p106, List.forall_mem_cons.mpr ⟨lw_p107, List.forall_mem_cons.mpr ⟨lw_p108, List.forall_mem_cons.mpr ⟨lw_p109, List.forall_mem_cons.mpr ⟨lw_p110, List.forall_mem_cons.mpr ⟨lw_p111, fun _ h => absurd h List.not_mem_nil⟩⟩⟩⟩⟩⟩⟩⟩⟩⟩⟩⟩⟩⟩⟩⟩
theorem lw_p112 : lw_okq (⟨"SagGatesModel", "opensTo", "(I)I"⟩, 69) := ⟨⟨by decide +kernel, by decide +kernel⟩, List.mem_of_getElem? (i := 1354) (by decide +kernel), List.mem_of_getElem? (i := 2002) (by decide +kernel), List.mem_of_getElem? (i := 2003) (by decide +kernel)⟩
theorem lw_p113 : lw_okq (⟨"SagGatesModel", "sumBy", "(I)I"⟩, 69) := ⟨⟨by decide +kernel, by decide +kernel⟩, List.mem_of_getElem? (i := 1354) (by decide +kernel), List.mem_of_getElem? (i := 2017) (by decide +kernel), List.mem_of_getElem? (i := 2018) (by decide +kernel)⟩
theorem lw_p114 : lw_okq (⟨"SagGatesModel", "weekOfAll", "(I)I"⟩, 69) := ⟨⟨by decide +kernel, by decide +kernel⟩, List.mem_of_getElem? (i := 1354) (by decide +kernel), List.mem_of_getElem? (i := 2021) (by decide +kernel), List.mem_of_getElem? (i := 2022) (by decide +kernel)⟩
def lw_privs_8 : List (MethodName × Nat) := [(⟨"SagGatesModel", "opensTo", "(I)I"⟩, 69), (⟨"SagGatesModel", "sumBy", "(I)I"⟩, 69), (⟨"SagGatesModel", "weekOfAll", "(I)I"⟩, 69)]
theorem lw_r8 : ∀ q ∈ lw_privs_8, lw_okq q := List.forall_mem_cons.mpr ⟨lw_p112, List.forall_mem_cons.mpr ⟨lw_p113, List.forall_mem_cons.mpr ⟨lw_p114, fun _ h => absurd h List.not_mem_nil⟩⟩⟩
def lw_privs : List (MethodName × Nat) := lw_privs_1 ++ (lw_privs_2 ++ (lw_privs_3 ++ (lw_privs_4 ++ (lw_privs_5 ++ (lw_privs_6 ++ (lw_privs_7 ++ (lw_privs_8)))))))
def lw_tbl : List Cond := k2_sels lw_privs ++ tables_1
theorem lw_privs_ok : ∀ q ∈ lw_privs, lw_okq q := by
  show ∀ q ∈ lw_privs_1 ++ (lw_privs_2 ++ (lw_privs_3 ++ (lw_privs_4 ++ (lw_privs_5 ++ (lw_privs_6 ++ (lw_privs_7 ++ (lw_privs_8))))))), lw_okq q
  exact List.forall_mem_append.mpr ⟨lw_r1, List.forall_mem_append.mpr ⟨lw_r2, List.forall_mem_append.mpr ⟨lw_r3, List.forall_mem_append.mpr ⟨lw_r4, List.forall_mem_append.mpr ⟨lw_r5, List.forall_mem_append.mpr ⟨lw_r6, List.forall_mem_append.mpr ⟨lw_r7, lw_r8⟩⟩⟩⟩⟩⟩⟩
end
section
/-! ===== an evaluator of bytecode over intervals: abstract values, cells, frames; what it says of the machine is proved in the next parts ===== -/
abbrev av_V : Type := Option Nat ⊕ ((Int × Int) ⊕ ((Int × Int) ⊕ Nat))
abbrev av_C : Type := (Nat × List av_V) ⊕ (Nat × List av_V)
abbrev av_H : Type := List av_C
abbrev av_Q : Type := Nat × Instr × Nat × Nat × Nat × Int
abbrev av_L : Type := List (Nat × av_V)
abbrev av_S : Type := Nat × av_L × List av_V × av_H × Nat × Nat
abbrev av_M : Type := (String × MethodName × ByteArray × Nat × Option FieldType) × List av_Q × Nat × Nat × Nat × Nat
abbrev av_i (a : Int × Int) : av_V := .inr (.inl a)
abbrev av_l (a : Int × Int) : av_V := .inr (.inr (.inl a))
abbrev av_r (k : Nat) : av_V := .inl (some k)
abbrev av_s (j : Nat) : av_V := .inr (.inr (.inr j))
def av_top : Int × Int := (-2147483648, 2147483647)
def av_c (x : Int32) : av_V := av_i (x.toInt, x.toInt)
def av_b2 (f : Int32 → Int32 → Int32) (a b : Int × Int) : Int × Int :=
  bif decide (a.1 = a.2) && decide (b.1 = b.2) then ((f (Int32.ofInt a.1) (Int32.ofInt b.1)).toInt, (f (Int32.ofInt a.1) (Int32.ofInt b.1)).toInt) else av_top
def av_u1 (f : Int32 → Int32) (a : Int × Int) : Int × Int :=
  bif decide (a.1 = a.2) then ((f (Int32.ofInt a.1)).toInt, (f (Int32.ofInt a.1)).toInt) else av_top
def av_mul (a b : Int × Int) : Int × Int :=
  bif decide (b.1 = b.2) && (decide (0 ≤ a.1) && (decide (0 ≤ b.1) && (decide (a.1 < a.2) && decide (a.2 * b.1 ≤ 2147483647)))) then (a.1 * b.1, a.2 * b.1) else av_b2 (fun x y => x * y) a b
def av_div (a b : Int × Int) : Option (Int × Int) :=
  bif decide (b.1 = b.2) && (decide (0 < b.1) && (decide (0 ≤ a.1) && decide (a.1 < a.2))) then some (0, a.2) else
  bif decide (b.1 = b.2) && (decide (a.1 = a.2) && !decide (b.1 = 0)) then some (av_b2 (fun x y => x / y) a b) else none
def av_rem (a b : Int × Int) : Option (Int × Int) :=
  bif decide (b.1 = b.2) && (decide (0 < b.1) && (decide (0 ≤ a.1) && decide (a.1 < a.2))) then some (0, b.1 - 1) else
  bif decide (b.1 = b.2) && (decide (a.1 = a.2) && !decide (b.1 = 0)) then some (av_b2 (fun x y => x - x / y * y) a b) else none
/-- binary operations on ints -/
def av_bin (q : Instr) : Option ((Int × Int) → (Int × Int) → Option (Int × Int)) := match q with
  | .iadd => some fun a b => some (av_b2 (fun x y => x + y) a b)
  | .isub => some fun a b => some (av_b2 (fun x y => x - y) a b)
  | .imul => some fun a b => some (av_mul a b)
  | .iand => some fun a b => some (av_b2 (fun x y => x &&& y) a b)
  | .ior => some fun a b => some (av_b2 (fun x y => x ||| y) a b)
  | .ishl => some fun a b => some (av_b2 (fun x y => x <<< (y &&& 31)) a b)
  | .ishr => some fun a b => some (av_b2 (fun x y => x >>> (y &&& 31)) a b)
  | .iushr => some fun a b => some (av_b2 (fun x y => (x.toUInt32 >>> (y.toUInt32 &&& Int32.toUInt32 31)).toInt32) a b)
  | .idiv => some av_div
  | .irem => some av_rem
  | _ => none
/-- what is pushed -/
def av_push (q : av_Q) : Option av_V := match q.2.1 with
  | .iconst n => some (av_c (Int32.ofInt n))
  | .bipush n => some (av_c (Int8.ofInt n).toInt32)
  | .sipush n => some (av_c (Int16.ofInt n).toInt32)
  | .ldc _ => some (bif q.2.2.2.1 == 0 then av_c (Int32.ofInt q.2.2.2.2.2) else av_s 0)
  | .ldc_w _ => some (av_c (Int32.ofInt q.2.2.2.2.2))
  | .ldc2_w _ => some (av_l ((Int64.ofInt q.2.2.2.2.2).toInt, (Int64.ofInt q.2.2.2.2.2).toInt))
  | .getstatic _ => some (bif q.2.2.2.1 == 0 then av_c 1 else av_s 3)
  | _ => none
def av_load (q : Instr) : Option Nat := match q with
  | .iload_n k => some k.val
  | .iload k => some k
  | .aload_n k => some k.val
  | .aload k => some k
  | _ => none
/-- 1: the local i gets an int; 2: a reference -/
def av_store (q : Instr) : Option (Nat × Nat) := match q with
  | .istore_n k => some (k.val, 1)
  | .istore k => some (k, 1)
  | .astore_n k => some (k.val, 2)
  | .astore k => some (k, 2)
  | _ => none
def av_isI : av_V → Bool
  | .inr (.inl _) => true
  | _ => false
def av_isL : av_V → Bool
  | .inr (.inr (.inl _)) => true
  | _ => false
def av_isR : av_V → Bool
  | .inl (some _) => true
  | .inr (.inr (.inr _)) => true
  | _ => false
def av_get (L : av_L) (i : Nat) : Option av_V := (L.find? (fun q => q.1 == i)).map Prod.snd
def av_set (L : av_L) (i : Nat) (v : av_V) : av_L := (i, v) :: L.filter (fun q => !(q.1 == i) && !(q.1 + 1 == i && av_isL q.2))
/-- always, never, or not known -/
def av_lt (a b : Int × Int) : Option Bool := bif decide (a.2 < b.1) then some true else bif decide (b.2 ≤ a.1) then some false else none
def av_eq (a b : Int × Int) : Option Bool := bif decide (a.1 = a.2) && (decide (b.1 = b.2) && decide (a.1 = b.1)) then some true else bif decide (a.2 < b.1) || decide (b.2 < a.1) then some false else none
def av_cmp (c : Jvm.ClassFile.Cond) (a b : Int × Int) : Option Bool := match c with
  | .lt => av_lt a b
  | .ge => (av_lt a b).map not
  | .gt => av_lt b a
  | .le => (av_lt b a).map not
  | .eq => av_eq a b
  | .ne => (av_eq a b).map not
def av_tgt (pc : Nat) (off : Int) : Nat := ((pc : Int) + off).toNat
def av_jmp (pc : Nat) (off : Int) : Bool := decide (((pc : Int) + off) = ((((pc : Int) + off).toNat : Nat) : Int))
def av_br (r : Option Bool) (t f : av_S) : List av_S := match r with
  | some true => [t]
  | some false => [f]
  | none => [t, f]
/-- does the value fit a place of this kind: 0 int, 1 byte, 2 boolean, 3 long, 4 and on references -/
def av_fit (t : Nat) (v : av_V) : Bool := match t, v with
  | 0, .inr (.inl _) => true
  | 1, .inr (.inl a) => decide (-128 ≤ a.1) && decide (a.2 ≤ 127)
  | 2, .inr (.inl a) => decide (0 ≤ a.1) && decide (a.2 ≤ 1)
  | 3, .inr (.inr (.inl _)) => true
  | 4, .inl _ => true
  | _, _ => false
/-- the hull of the elements from i on, n + 1 of them -/
def av_hull (xs : List av_V) : Option (Int × Int) := match xs with
  | [] => none
  | x :: l => l.foldl (fun r y => match r, y with
    | some a, .inr (.inl b) => some (bif decide (a.1 ≤ b.1) then a.1 else b.1, bif decide (a.2 ≤ b.2) then b.2 else a.2)
    | _, _ => none) (match x with
    | .inr (.inl a) => some a
    | _ => none)
/-- reading an array's element: kind t is wanted -/
def av_rd (xs : List av_V) (i : Int × Int) : Option av_V :=
  bif decide (0 ≤ i.1) && decide (i.2 < (xs.length : Int)) then
    bif decide (i.1 = i.2) then xs[i.1.toNat]? else (av_hull ((xs.drop i.1.toNat).take ((i.2 - i.1).toNat + 1))).map av_i
  else none
def av_dfl (t : Nat) : av_V := match t with
  | 3 => av_l (0, 0)
  | 4 => .inl none
  | 5 => .inl none
  | _ => av_i (0, 0)
/-- what an array's element may be: 0 int, 1 byte, 2 boolean, 3 long, 4 and 5 references -/
def av_ldk (q : Instr) : Option Nat := match q with
  | .iaload => some 0
  | .baload => some 1
  | .laload => some 3
  | .aaload => some 4
  | _ => none
def av_stk (q : Instr) : Option Nat := match q with
  | .iastore => some 0
  | .bastore => some 1
  | .aastore => some 4
  | _ => none
/-- static rows: the bytes of the text (1) and the script (2) -/
abbrev av_X : Type := List av_V × Option (List av_V)
def av_row (X : av_X) (j : Nat) : Option (List av_V) := match j with
  | 1 => some X.1
  | 2 => X.2
  | _ => none
/-- the kinds of the fields of a class's objects -/
abbrev av_F : Type := List (List Nat)
def av_one (X : av_X) (F : av_F) (q : av_Q) (S : av_S) : Option (List av_S) :=
  let pc := S.1
  let L := S.2.1
  let st := S.2.2.1
  let h := S.2.2.2.1
  let c := S.2.2.2.2.1
  let n := S.2.2.2.2.2
  let nx := pc + q.2.2.1
  match av_push q with
  | some v => some [(nx, L, v :: st, h, c, n)]
  | none =>
  match av_load q.2.1 with
  | some i => (av_get L i).map fun v => [(nx, L, v :: st, h, c, n)]
  | none =>
  match av_store q.2.1 with
  | some (i, k) => match st with
    | v :: st => bif (bif k == 1 then av_isI v else av_isR v) then some [(nx, av_set L i v, st, h, c, n)] else none
    | _ => none
  | none =>
  match av_bin q.2.1 with
  | some f => match st with
    | .inr (.inl b) :: .inr (.inl a) :: st => (f a b).map fun r => [(nx, L, av_i r :: st, h, c, n)]
    | _ => none
  | none =>
  match av_ldk q.2.1 with
  | some t => match st with
    | .inr (.inl i) :: .inl (some k) :: st => match h[k]? with
      | some (.inl (t', xs)) => bif t' == t || (t == 1 && t' == 2) || (t == 4 && t' == 5) then (av_rd xs i).map fun v => [(nx, L, v :: st, h, c, n)] else none
      | _ => none
    | .inr (.inl i) :: .inr (.inr (.inr j)) :: st => match av_row X j with
      | some xs => bif t + j == 2 then (av_rd xs i).map fun v => [(nx, L, v :: st, h, c, n)] else none
      | none => none
    | _ => none
  | none =>
  match av_stk q.2.1 with
  | some t => match st with
    | v :: .inr (.inl i) :: .inl (some k) :: st => match h[k]? with
      | some (.inl (t', xs)) => bif (t' == t || (t == 1 && t' == 2) || (t == 4 && t' == 5)) && (decide (i.1 = i.2) && (decide (0 ≤ i.1) && (decide (i.1 < (xs.length : Int)) && bif t == 4 then (match v with
          | .inl (some j) => match h[j]? with
            | some (.inr (ci, _)) => ci == (bif t' == 4 then 1 else 7)
            | _ => false
          | _ => false) else av_fit t' v)))
          then some [(nx, L, st, h.set k (.inl (t', xs.set i.1.toNat v)), c, n)] else none
      | _ => none
    | _ => none
  | none =>
  match q.2.1 with
  | .getfield _ => match st with
    | .inl (some k) :: st => match h[k]? with
      | some (.inr (ci, fs)) => bif ci == q.2.2.2.1 then (fs[q.2.2.2.2.1]?).map fun v => [(nx, L, v :: st, h, c, n)] else none
      | _ => none
    | .inr (.inr (.inr 0)) :: st => bif q.2.2.2.1 == 100 then some [(nx, L, (bif q.2.2.2.2.1 == 0 then av_s 1 else av_c 0) :: st, h, c, n)] else none
    | _ => none
  | .putfield _ => match st with
    | v :: .inl (some k) :: st => match h[k]? with
      | some (.inr (ci, fs)) => bif ci == q.2.2.2.1 && (decide (q.2.2.2.2.1 < fs.length) && av_fit q.2.2.2.2.2.toNat v) then some [(nx, L, st, h.set k (.inr (ci, fs.set q.2.2.2.2.1 v)), c, n)] else none
      | _ => none
    | _ => none
  | .iinc i z => match av_get L i with
    | some (.inr (.inl a)) => some [(nx, av_set L i (av_i (av_b2 (fun x y => x + y) a (z, z))), st, h, c, n)]
    | _ => none
  | .goto off => bif av_jmp pc off then some [(av_tgt pc off, L, st, h, c, n)] else none
  | .if_icmp o off => match st with
    | .inr (.inl b) :: .inr (.inl a) :: st => bif av_jmp pc off then some (av_br (av_cmp o a b) (av_tgt pc off, L, st, h, c, n) (nx, L, st, h, c, n)) else none
    | _ => none
  | .ifCond o off => match st with
    | .inr (.inl a) :: st => bif av_jmp pc off then some (av_br (av_cmp o a (0, 0)) (av_tgt pc off, L, st, h, c, n) (nx, L, st, h, c, n)) else none
    | _ => none
  | .dup => match st with
    | v :: st => bif !av_isL v then some [(nx, L, v :: v :: st, h, c, n)] else none
    | _ => none
  | .pop => match st with
    | v :: st => bif !av_isL v then some [(nx, L, st, h, c, n)] else none
    | _ => none
  | .dup2 => match st with
    | v :: w :: st => bif !av_isL v && !av_isL w then some [(nx, L, v :: w :: v :: w :: st, h, c, n)] else none
    | _ => none
  | .arraylength => match st with
    | .inl (some k) :: st => match h[k]? with
      | some (.inl (_, xs)) => some [(nx, L, av_c (Int32.ofNat xs.length) :: st, h, c, n)]
      | _ => none
    | .inr (.inr (.inr j)) :: st => (av_row X j).map fun xs => [(nx, L, av_c (Int32.ofNat xs.length) :: st, h, c, n)]
    | _ => none
  | .i2c => match st with
    | .inr (.inl a) :: st => some [(nx, L, av_i (av_u1 (fun x => (x.toUInt32 % 65536).toInt32) a) :: st, h, c, n)]
    | _ => none
  | .i2b => match st with
    | .inr (.inl a) :: st => some [(nx, L, av_i (bif decide (a.1 = a.2) then av_u1 (fun x => x.toInt8.toInt32) a else (-128, 127)) :: st, h, c, n)]
    | _ => none
  | .lcmp => match st with
    | .inr (.inr (.inl b)) :: .inr (.inr (.inl a)) :: st => bif decide (a.1 = a.2) && (decide (b.1 = b.2) && decide (a.1 = b.1)) then some [(nx, L, av_c 0 :: st, h, c, n)] else none
    | _ => none
  | .tableswitch d lo hi offs => match st with
    | .inr (.inl a) :: st => bif decide (a.2 < lo) || decide (hi < a.1) then (bif av_jmp pc d then some [(av_tgt pc d, L, st, h, c, n)] else none) else
      bif decide (a.1 = a.2) && (decide (lo ≤ a.1) && decide (a.1 ≤ hi)) then (match offs[(a.1 - lo).toNat]? with
        | some off => bif av_jmp pc off then some [(av_tgt pc off, L, st, h, c, n)] else none
        | none => none) else none
    | _ => none
  | _ => none
/-- what makes cells -/
def av_mk (mc ms : Nat) (F : av_F) (q : av_Q) (S : av_S) : Option av_S :=
  let pc := S.1
  let L := S.2.1
  let st := S.2.2.1
  let h := S.2.2.2.1
  let c := S.2.2.2.2.1
  let n := S.2.2.2.2.2
  let nx := pc + q.2.2.1
  match q.2.1 with
  | .new _ => match F[q.2.2.2.1]? with
    | some ks => bif decide (c + 1 ≤ mc) && decide (n + ks.length ≤ ms) then some (nx, L, av_r h.length :: st, h ++ [.inr (q.2.2.2.1, ks.map av_dfl)], c + 1, n + ks.length) else none
    | none => none
  | .newarray _ => match st with
    | .inr (.inl a) :: st => bif decide (a.1 = a.2) && (decide (0 ≤ a.1) && (decide (a.1 ≤ 10000) && (decide (q.2.2.2.1 ≤ 3) && (decide (c + 1 ≤ mc) && decide (n + a.1.toNat ≤ ms))))) then
        some (nx, L, av_r h.length :: st, h ++ [.inl (q.2.2.2.1, List.replicate a.1.toNat (av_dfl q.2.2.2.1))], c + 1, n + a.1.toNat) else none
    | _ => none
  | .anewarray _ => match st with
    | .inr (.inl a) :: st => bif decide (a.1 = a.2) && (decide (0 ≤ a.1) && (decide (a.1 ≤ 10000) && ((q.2.2.2.1 == 4 || q.2.2.2.1 == 5) && (decide (c + 1 ≤ mc) && decide (n + a.1.toNat ≤ ms))))) then
        some (nx, L, av_r h.length :: st, h ++ [.inl (q.2.2.2.1, List.replicate a.1.toNat (.inl none))], c + 1, n + a.1.toNat) else none
    | _ => none
  | _ => none
def av_all {α β : Type} (f : α → Option (List β)) : List α → Option (List β)
  | [] => some []
  | x :: l => match f x with
    | none => none
    | some a => match av_all f l with
      | none => none
      | some b => some (a ++ b)
def av_from (pc : Nat) : List av_Q → List av_Q
  | [] => []
  | q :: l => bif q.1 == pc then q :: l else av_from pc l
def av_ent (i : Nat) : List av_V → av_L
  | [] => []
  | v :: l => (i, v) :: av_ent (i + 1) l
def av_wid (st : List av_V) : Nat := (st.map fun v => bif av_isL v then 2 else 1).sum
/-- a callee's room within the caller's -/
def av_fits (M M' : av_M) (c n : Nat) (rest : List av_V) : Bool :=
  decide (c + M'.2.2.1 ≤ M.2.2.1) && (decide (n + M'.2.2.2.1 ≤ M.2.2.2.1) && (decide (M'.2.2.2.2.1 + 1 ≤ M.2.2.2.2.1) && (decide (8 + (M'.1.2.2.2.1 + 11) + M'.2.2.2.2.2 ≤ M.2.2.2.2.2) && decide (av_wid rest ≤ 8))))
/-- the call's callee, its arguments, the rest of the stack; 0 virtual, 1 special, 2 static -/
def av_call (q : av_Q) (S : av_S) : Option (Nat × List av_V × List av_V) :=
  let st := S.2.2.1
  let h := S.2.2.2.1
  let np := q.2.2.2.2.1
  bif decide (np ≤ st.length) && (st.take np).all (fun v => !av_isL v) then
    match q.2.1 with
    | .invokestatic _ => some (q.2.2.2.1, (st.take np).reverse, st.drop np)
    | .invokevirtual _ => match st.drop np with
      | .inl (some k) :: rest => match h[k]? with
        | some (.inr (ci, _)) => bif ci == q.2.2.2.2.2.toNat then some (q.2.2.2.1, av_r k :: (st.take np).reverse, rest) else none
        | _ => none
      | .inr (.inr (.inr 0)) :: rest => bif q.2.2.2.2.2.toNat == 100 then some (q.2.2.2.1, av_s 0 :: (st.take np).reverse, rest) else none
      | _ => none
    | .invokespecial _ => match st.drop np with
      | .inl (some k) :: rest => some (q.2.2.2.1, av_r k :: (st.take np).reverse, rest)
      | _ => none
    | _ => none
  else none
/-- a return: what is returned -/
def av_ret (M : av_M) (q : av_Q) (S : av_S) : Option (Option av_V) :=
  bif decide (S.2.2.2.2.1 ≤ M.2.2.1) && decide (S.2.2.2.2.2 ≤ M.2.2.2.1) then
  match q.2.1, S.2.2.1, M.1.2.2.2.2 with
  | .ireturn, [.inr (.inl a)], some .int => some (some (av_i a))
  | .ireturn, [.inr (.inl a)], some .boolean => bif av_fit 2 (av_i a) then some (some (av_i a)) else none
  | .ireturn, [.inr (.inl a)], some .byte => bif av_fit 1 (av_i a) then some (some (av_i a)) else none
  | .ireturn, [.inr (.inl a)], some .char => bif decide (0 ≤ a.1) && decide (a.2 ≤ 65535) then some (some (av_i a)) else none
  | .lreturn, [.inr (.inr (.inl a))], some .long => some (some (av_l a))
  | .return_, [], none => some none
  | _, _, _ => none
  else none
abbrev av_O : Type := List (Option av_V × av_H)
/-- Object.<init> -/
def av_obj (M : av_M) (q : av_Q) (S : av_S) : Option av_S := match q.2.1 with
  | .invokespecial _ => bif q.2.2.2.1 == 9999 then (match S.2.2.1 with
    | .inl (some _) :: rest => bif decide (1 ≤ M.2.2.2.2.1) && decide (av_wid rest + 12 ≤ M.2.2.2.2.2) then some (S.1 + q.2.2.1, S.2.1, rest, S.2.2.2) else none
    | _ => none) else none
  | _ => none
noncomputable def av_run (F : av_F) (mt : Nat → av_M) (fuel : Nat) : av_X → Nat → List av_Q → av_S → Option av_O :=
  Nat.rec (motive := fun _ => av_X → Nat → List av_Q → av_S → Option av_O) (fun _ _ _ _ => none) (fun _ ih X mi sfx S =>
    match sfx with
    | [] => none
    | q :: rest =>
      bif q.1 == S.1 then
        match av_one X F q S with
        | some ss => av_all (fun S' => ih X mi (bif S'.1 == S.1 + q.2.2.1 then rest else av_from S'.1 (mt mi).2.1) S') ss
        | none =>
        match av_mk (mt mi).2.2.1 (mt mi).2.2.2.1 F q S with
        | some S' => ih X mi rest S'
        | none =>
        match av_obj (mt mi) q S with
        | some S' => ih X mi rest S'
        | none =>
        match av_call q S with
        | some (j, args, stk) =>
          bif av_fits (mt mi) (mt j) S.2.2.2.2.1 S.2.2.2.2.2 stk then
            match ih (X.1, none) j (mt j).2.1 (0, av_ent 0 args, [], S.2.2.2.1, 0, 0) with
            | some outs => av_all (fun (o : Option av_V × av_H) => ih X mi rest (S.1 + q.2.2.1, S.2.1, o.1.toList ++ stk, o.2, S.2.2.2.2.1 + (mt j).2.2.1, S.2.2.2.2.2 + (mt j).2.2.2.1)) outs
            | none => none
          else none
        | none =>
        match av_ret (mt mi) q S with
        | some r => some [(r, S.2.2.2.1)]
        | none => none
      else none) fuel
end
