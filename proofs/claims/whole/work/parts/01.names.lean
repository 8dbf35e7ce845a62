-- ===== PART A: goes FIRST, ahead of the names: the tables' words, and 'selects' of the private methods out of them =====
/-- a private method of a class that the tables say can be made, by its rows of tables_1 -/
def lw_okq (q : MethodName × Nat) : Prop := (q.1.cls ≠ "java/lang/invoke/MethodHandle" ∧ q.1.cls ≠ "java/lang/invoke/VarHandle") ∧ Cond.instantiable q.1.cls q.2 ∈ tables_1 ∧ Cond.privateMethod q.1 ∈ tables_1 ∧ Cond.instanceMethod q.1 ∈ tables_1
theorem lw_p0 : lw_okq (⟨"PathCycle$Paths", "spell", "(ILPathCycle$Pulses;)V"⟩, 6) := ⟨⟨by decide +kernel, by decide +kernel⟩, List.mem_of_getElem? (i := 139) (by decide +kernel), List.mem_of_getElem? (i := 335) (by decide +kernel), List.mem_of_getElem? (i := 336) (by decide +kernel)⟩
theorem lw_p1 : lw_okq (⟨"PathCycle$Paths", "keepsKinds", "(LPathCycle$Pulses;)Z"⟩, 6) := ⟨⟨by decide +kernel, by decide +kernel⟩, List.mem_of_getElem? (i := 139) (by decide +kernel), List.mem_of_getElem? (i := 339) (by decide +kernel), List.mem_of_getElem? (i := 340) (by decide +kernel)⟩
theorem lw_p2 : lw_okq (⟨"PathCycle", "pathsTold", "()V"⟩, 16) := ⟨⟨by decide +kernel, by decide +kernel⟩, List.mem_of_getElem? (i := 19) (by decide +kernel), List.mem_of_getElem? (i := 415) (by decide +kernel), List.mem_of_getElem? (i := 416) (by decide +kernel)⟩
theorem lw_p3 : lw_okq (⟨"PathCycle", "cycleTold", "()V"⟩, 16) := ⟨⟨by decide +kernel, by decide +kernel⟩, List.mem_of_getElem? (i := 19) (by decide +kernel), List.mem_of_getElem? (i := 423) (by decide +kernel), List.mem_of_getElem? (i := 424) (by decide +kernel)⟩
theorem lw_p4 : lw_okq (⟨"PathCycle", "goneTold", "()V"⟩, 16) := ⟨⟨by decide +kernel, by decide +kernel⟩, List.mem_of_getElem? (i := 19) (by decide +kernel), List.mem_of_getElem? (i := 427) (by decide +kernel), List.mem_of_getElem? (i := 428) (by decide +kernel)⟩
theorem lw_p5 : lw_okq (⟨"PathCycle", "searchesTold", "()V"⟩, 16) := ⟨⟨by decide +kernel, by decide +kernel⟩, List.mem_of_getElem? (i := 19) (by decide +kernel), List.mem_of_getElem? (i := 431) (by decide +kernel), List.mem_of_getElem? (i := 432) (by decide +kernel)⟩
theorem lw_p6 : lw_okq (⟨"PathCycle", "isPulse", "(I)Z"⟩, 16) := ⟨⟨by decide +kernel, by decide +kernel⟩, List.mem_of_getElem? (i := 19) (by decide +kernel), List.mem_of_getElem? (i := 439) (by decide +kernel), List.mem_of_getElem? (i := 440) (by decide +kernel)⟩
theorem lw_p7 : lw_okq (⟨"PathCycle", "isRow", "(I)Z"⟩, 16) := ⟨⟨by decide +kernel, by decide +kernel⟩, List.mem_of_getElem? (i := 19) (by decide +kernel), List.mem_of_getElem? (i := 467) (by decide +kernel), List.mem_of_getElem? (i := 468) (by decide +kernel)⟩
theorem lw_p8 : lw_okq (⟨"PathCycle", "mark", "(IIZ)Z"⟩, 16) := ⟨⟨by decide +kernel, by decide +kernel⟩, List.mem_of_getElem? (i := 19) (by decide +kernel), List.mem_of_getElem? (i := 495) (by decide +kernel), List.mem_of_getElem? (i := 496) (by decide +kernel)⟩
theorem lw_p9 : lw_okq (⟨"PathCycle", "isPath", "(I)Z"⟩, 16) := ⟨⟨by decide +kernel, by decide +kernel⟩, List.mem_of_getElem? (i := 19) (by decide +kernel), List.mem_of_getElem? (i := 499) (by decide +kernel), List.mem_of_getElem? (i := 500) (by decide +kernel)⟩
theorem lw_p10 : lw_okq (⟨"PathCycle$Tape", "skipBlanks", "()V"⟩, 7) := ⟨⟨by decide +kernel, by decide +kernel⟩, List.mem_of_getElem? (i := 106) (by decide +kernel), List.mem_of_getElem? (i := 533) (by decide +kernel), List.mem_of_getElem? (i := 534) (by decide +kernel)⟩
theorem lw_p11 : lw_okq (⟨"PathCycle$Tape", "byteHere", "()I"⟩, 7) := ⟨⟨by decide +kernel, by decide +kernel⟩, List.mem_of_getElem? (i := 106) (by decide +kernel), List.mem_of_getElem? (i := 537) (by decide +kernel), List.mem_of_getElem? (i := 538) (by decide +kernel)⟩
theorem lw_p12 : lw_okq (⟨"PathCycle$Tape", "readRow", "(II)Z"⟩, 7) := ⟨⟨by decide +kernel, by decide +kernel⟩, List.mem_of_getElem? (i := 106) (by decide +kernel), List.mem_of_getElem? (i := 541) (by decide +kernel), List.mem_of_getElem? (i := 542) (by decide +kernel)⟩
theorem lw_p13 : lw_okq (⟨"PathCycle$Tape", "readName", "(I)I"⟩, 7) := ⟨⟨by decide +kernel, by decide +kernel⟩, List.mem_of_getElem? (i := 106) (by decide +kernel), List.mem_of_getElem? (i := 545) (by decide +kernel), List.mem_of_getElem? (i := 546) (by decide +kernel)⟩
theorem lw_p14 : lw_okq (⟨"PathCycle$Tape", "fail", "(II)Z"⟩, 7) := ⟨⟨by decide +kernel, by decide +kernel⟩, List.mem_of_getElem? (i := 106) (by decide +kernel), List.mem_of_getElem? (i := 549) (by decide +kernel), List.mem_of_getElem? (i := 550) (by decide +kernel)⟩
theorem lw_p15 : lw_okq (⟨"PathCycle$Tape", "readNumbers", "(II)Z"⟩, 7) := ⟨⟨by decide +kernel, by decide +kernel⟩, List.mem_of_getElem? (i := 106) (by decide +kernel), List.mem_of_getElem? (i := 553) (by decide +kernel), List.mem_of_getElem? (i := 554) (by decide +kernel)⟩
def lw_privs_1 : List (MethodName × Nat) := [(⟨"PathCycle$Paths", "spell", "(ILPathCycle$Pulses;)V"⟩, 6), (⟨"PathCycle$Paths", "keepsKinds", "(LPathCycle$Pulses;)Z"⟩, 6), (⟨"PathCycle", "pathsTold", "()V"⟩, 16), (⟨"PathCycle", "cycleTold", "()V"⟩, 16), (⟨"PathCycle", "goneTold", "()V"⟩, 16), (⟨"PathCycle", "searchesTold", "()V"⟩, 16), (⟨"PathCycle", "isPulse", "(I)Z"⟩, 16), (⟨"PathCycle", "isRow", "(I)Z"⟩, 16), (⟨"PathCycle", "mark", "(IIZ)Z"⟩, 16), (⟨"PathCycle", "isPath", "(I)Z"⟩, 16), (⟨"PathCycle$Tape", "skipBlanks", "()V"⟩, 7), (⟨"PathCycle$Tape", "byteHere", "()I"⟩, 7), (⟨"PathCycle$Tape", "readRow", "(II)Z"⟩, 7), (⟨"PathCycle$Tape", "readName", "(I)I"⟩, 7), (⟨"PathCycle$Tape", "fail", "(II)Z"⟩, 7), (⟨"PathCycle$Tape", "readNumbers", "(II)Z"⟩, 7)]
theorem lw_r1 : ∀ q ∈ lw_privs_1, lw_okq q := List.forall_mem_cons.mpr ⟨lw_p0, List.forall_mem_cons.mpr ⟨lw_p1, List.forall_mem_cons.mpr ⟨lw_p2, List.forall_mem_cons.mpr ⟨lw_p3, List.forall_mem_cons.mpr ⟨lw_p4, List.forall_mem_cons.mpr ⟨lw_p5, List.forall_mem_cons.mpr ⟨lw_p6, List.forall_mem_cons.mpr ⟨lw_p7, List.forall_mem_cons.mpr ⟨lw_p8, List.forall_mem_cons.mpr ⟨lw_p9, List.forall_mem_cons.mpr ⟨lw_p10, List.forall_mem_cons.mpr ⟨lw_p11, List.forall_mem_cons.mpr ⟨lw_p12, List.forall_mem_cons.mpr ⟨lw_p13, List.forall_mem_cons.mpr ⟨lw_p14, List.forall_mem_cons.mpr ⟨lw_p15, fun _ h => absurd h List.not_mem_nil⟩⟩⟩⟩⟩⟩⟩⟩⟩⟩⟩⟩⟩⟩⟩⟩
theorem lw_p16 : lw_okq (⟨"PathCycle$Tape", "digitHere", "()Z"⟩, 7) := ⟨⟨by decide +kernel, by decide +kernel⟩, List.mem_of_getElem? (i := 106) (by decide +kernel), List.mem_of_getElem? (i := 557) (by decide +kernel), List.mem_of_getElem? (i := 558) (by decide +kernel)⟩
theorem lw_p17 : lw_okq (⟨"PathCycle$Tape", "readNumber", "()I"⟩, 7) := ⟨⟨by decide +kernel, by decide +kernel⟩, List.mem_of_getElem? (i := 106) (by decide +kernel), List.mem_of_getElem? (i := 561) (by decide +kernel), List.mem_of_getElem? (i := 562) (by decide +kernel)⟩
theorem lw_p18 : lw_okq (⟨"PathCycle", "findFewest", "()V"⟩, 16) := ⟨⟨by decide +kernel, by decide +kernel⟩, List.mem_of_getElem? (i := 19) (by decide +kernel), List.mem_of_getElem? (i := 586) (by decide +kernel), List.mem_of_getElem? (i := 587) (by decide +kernel)⟩
theorem lw_p19 : lw_okq (⟨"PathCycle", "gatherWants", "()V"⟩, 16) := ⟨⟨by decide +kernel, by decide +kernel⟩, List.mem_of_getElem? (i := 19) (by decide +kernel), List.mem_of_getElem? (i := 590) (by decide +kernel), List.mem_of_getElem? (i := 591) (by decide +kernel)⟩
theorem lw_p20 : lw_okq (⟨"PathCycle", "weighPaths", "()V"⟩, 16) := ⟨⟨by decide +kernel, by decide +kernel⟩, List.mem_of_getElem? (i := 19) (by decide +kernel), List.mem_of_getElem? (i := 594) (by decide +kernel), List.mem_of_getElem? (i := 595) (by decide +kernel)⟩
theorem lw_p21 : lw_okq (⟨"PathCycle$Wants", "sort", "(LPathCycle$Pulses;LPathCycle$Paths;I)V"⟩, 9) := ⟨⟨by decide +kernel, by decide +kernel⟩, List.mem_of_getElem? (i := 239) (by decide +kernel), List.mem_of_getElem? (i := 612) (by decide +kernel), List.mem_of_getElem? (i := 613) (by decide +kernel)⟩
theorem lw_p22 : lw_okq (⟨"PathCycle", "layFewest", "()Z"⟩, 16) := ⟨⟨by decide +kernel, by decide +kernel⟩, List.mem_of_getElem? (i := 19) (by decide +kernel), List.mem_of_getElem? (i := 641) (by decide +kernel), List.mem_of_getElem? (i := 642) (by decide +kernel)⟩
theorem lw_p23 : lw_okq (⟨"PathCycle", "findCogs", "()V"⟩, 16) := ⟨⟨by decide +kernel, by decide +kernel⟩, List.mem_of_getElem? (i := 19) (by decide +kernel), List.mem_of_getElem? (i := 645) (by decide +kernel), List.mem_of_getElem? (i := 646) (by decide +kernel)⟩
theorem lw_p24 : lw_okq (⟨"PathCycle$Cogs", "sortOut", "(LPathCycle$Wants;LPathCycle$Paths;[B)V"⟩, 5) := ⟨⟨by decide +kernel, by decide +kernel⟩, List.mem_of_getElem? (i := 306) (by decide +kernel), List.mem_of_getElem? (i := 653) (by decide +kernel), List.mem_of_getElem? (i := 654) (by decide +kernel)⟩
theorem lw_p25 : lw_okq (⟨"PathCycle$Cogs", "fits", "(LPathCycle$Wants;LPathCycle$Paths;[BII)Z"⟩, 5) := ⟨⟨by decide +kernel, by decide +kernel⟩, List.mem_of_getElem? (i := 306) (by decide +kernel), List.mem_of_getElem? (i := 661) (by decide +kernel), List.mem_of_getElem? (i := 662) (by decide +kernel)⟩
theorem lw_p26 : lw_okq (⟨"PathCycle", "layCogs", "()Z"⟩, 16) := ⟨⟨by decide +kernel, by decide +kernel⟩, List.mem_of_getElem? (i := 19) (by decide +kernel), List.mem_of_getElem? (i := 666) (by decide +kernel), List.mem_of_getElem? (i := 667) (by decide +kernel)⟩
theorem lw_p27 : lw_okq (⟨"PathCycle", "isScan", "(I)Z"⟩, 16) := ⟨⟨by decide +kernel, by decide +kernel⟩, List.mem_of_getElem? (i := 19) (by decide +kernel), List.mem_of_getElem? (i := 682) (by decide +kernel), List.mem_of_getElem? (i := 683) (by decide +kernel)⟩
theorem lw_p28 : lw_okq (⟨"PathCycle", "buildScans", "()V"⟩, 16) := ⟨⟨by decide +kernel, by decide +kernel⟩, List.mem_of_getElem? (i := 19) (by decide +kernel), List.mem_of_getElem? (i := 686) (by decide +kernel), List.mem_of_getElem? (i := 687) (by decide +kernel)⟩
theorem lw_p29 : lw_okq (⟨"PathCycle$Scans", "addPulse", "(II[I[I)V"⟩, 8) := ⟨⟨by decide +kernel, by decide +kernel⟩, List.mem_of_getElem? (i := 172) (by decide +kernel), List.mem_of_getElem? (i := 705) (by decide +kernel), List.mem_of_getElem? (i := 706) (by decide +kernel)⟩
theorem lw_p30 : lw_okq (⟨"PathCycle", "stateOf", "(I)I"⟩, 16) := ⟨⟨by decide +kernel, by decide +kernel⟩, List.mem_of_getElem? (i := 19) (by decide +kernel), List.mem_of_getElem? (i := 734) (by decide +kernel), List.mem_of_getElem? (i := 735) (by decide +kernel)⟩
theorem lw_p31 : lw_okq (⟨"PathCycle$Sum", "factor", "(I)V"⟩, 8) := ⟨⟨by decide +kernel, by decide +kernel⟩, List.mem_of_getElem? (i := 208) (by decide +kernel), List.mem_of_getElem? (i := 747) (by decide +kernel), List.mem_of_getElem? (i := 748) (by decide +kernel)⟩
def lw_privs_2 : List (MethodName × Nat) := [(⟨"PathCycle$Tape", "digitHere", "()Z"⟩, 7), (⟨"PathCycle$Tape", "readNumber", "()I"⟩, 7), (⟨"PathCycle", "findFewest", "()V"⟩, 16), (⟨"PathCycle", "gatherWants", "()V"⟩, 16), (⟨"PathCycle", "weighPaths", "()V"⟩, 16), (⟨"PathCycle$Wants", "sort", "(LPathCycle$Pulses;LPathCycle$Paths;I)V"⟩, 9), (⟨"PathCycle", "layFewest", "()Z"⟩, 16), (⟨"PathCycle", "findCogs", "()V"⟩, 16), (⟨"PathCycle$Cogs", "sortOut", "(LPathCycle$Wants;LPathCycle$Paths;[B)V"⟩, 5), (⟨"PathCycle$Cogs", "fits", "(LPathCycle$Wants;LPathCycle$Paths;[BII)Z"⟩, 5), (⟨"PathCycle", "layCogs", "()Z"⟩, 16), (⟨"PathCycle", "isScan", "(I)Z"⟩, 16), (⟨"PathCycle", "buildScans", "()V"⟩, 16), (⟨"PathCycle$Scans", "addPulse", "(II[I[I)V"⟩, 8), (⟨"PathCycle", "stateOf", "(I)I"⟩, 16), (⟨"PathCycle$Sum", "factor", "(I)V"⟩, 8)]
theorem lw_r2 : ∀ q ∈ lw_privs_2, lw_okq q := List.forall_mem_cons.mpr ⟨lw_p16, List.forall_mem_cons.mpr ⟨lw_p17, List.forall_mem_cons.mpr ⟨lw_p18, List.forall_mem_cons.mpr ⟨lw_p19, List.forall_mem_cons.mpr ⟨lw_p20, List.forall_mem_cons.mpr ⟨lw_p21, List.forall_mem_cons.mpr ⟨lw_p22, List.forall_mem_cons.mpr ⟨lw_p23, List.forall_mem_cons.mpr ⟨lw_p24, List.forall_mem_cons.mpr ⟨lw_p25, List.forall_mem_cons.mpr ⟨lw_p26, List.forall_mem_cons.mpr ⟨lw_p27, List.forall_mem_cons.mpr ⟨lw_p28, List.forall_mem_cons.mpr ⟨lw_p29, List.forall_mem_cons.mpr ⟨lw_p30, List.forall_mem_cons.mpr ⟨lw_p31, fun _ h => absurd h List.not_mem_nil⟩⟩⟩⟩⟩⟩⟩⟩⟩⟩⟩⟩⟩⟩⟩⟩
theorem lw_p32 : lw_okq (⟨"PathCycle", "isIn", "(II)Z"⟩, 16) := ⟨⟨by decide +kernel, by decide +kernel⟩, List.mem_of_getElem? (i := 19) (by decide +kernel), List.mem_of_getElem? (i := 760) (by decide +kernel), List.mem_of_getElem? (i := 761) (by decide +kernel)⟩
theorem lw_p33 : lw_okq (⟨"PathCycle", "isGone", "(I)Z"⟩, 16) := ⟨⟨by decide +kernel, by decide +kernel⟩, List.mem_of_getElem? (i := 19) (by decide +kernel), List.mem_of_getElem? (i := 764) (by decide +kernel), List.mem_of_getElem? (i := 765) (by decide +kernel)⟩
theorem lw_p34 : lw_okq (⟨"PathCycle", "count", "(I)I"⟩, 16) := ⟨⟨by decide +kernel, by decide +kernel⟩, List.mem_of_getElem? (i := 19) (by decide +kernel), List.mem_of_getElem? (i := 782) (by decide +kernel), List.mem_of_getElem? (i := 783) (by decide +kernel)⟩
theorem lw_p35 : lw_okq (⟨"PathCycle", "member", "(II)I"⟩, 16) := ⟨⟨by decide +kernel, by decide +kernel⟩, List.mem_of_getElem? (i := 19) (by decide +kernel), List.mem_of_getElem? (i := 786) (by decide +kernel), List.mem_of_getElem? (i := 787) (by decide +kernel)⟩
theorem lw_p36 : lw_okq (⟨"PathCycle", "gatherLeaks", "()I"⟩, 16) := ⟨⟨by decide +kernel, by decide +kernel⟩, List.mem_of_getElem? (i := 19) (by decide +kernel), List.mem_of_getElem? (i := 794) (by decide +kernel), List.mem_of_getElem? (i := 795) (by decide +kernel)⟩
theorem lw_p37 : lw_okq (⟨"PathCycle", "leakByWeight", "(II)I"⟩, 16) := ⟨⟨by decide +kernel, by decide +kernel⟩, List.mem_of_getElem? (i := 19) (by decide +kernel), List.mem_of_getElem? (i := 798) (by decide +kernel), List.mem_of_getElem? (i := 799) (by decide +kernel)⟩
theorem lw_p38 : lw_okq (⟨"PathCycle", "leakOfWeight", "(III)I"⟩, 16) := ⟨⟨by decide +kernel, by decide +kernel⟩, List.mem_of_getElem? (i := 19) (by decide +kernel), List.mem_of_getElem? (i := 803) (by decide +kernel), List.mem_of_getElem? (i := 804) (by decide +kernel)⟩
theorem lw_p39 : lw_okq (⟨"PathCycle", "isStoppedBy", "(II)Z"⟩, 16) := ⟨⟨by decide +kernel, by decide +kernel⟩, List.mem_of_getElem? (i := 19) (by decide +kernel), List.mem_of_getElem? (i := 811) (by decide +kernel), List.mem_of_getElem? (i := 812) (by decide +kernel)⟩
theorem lw_p40 : lw_okq (⟨"PathCycle", "pace", "(II)I"⟩, 16) := ⟨⟨by decide +kernel, by decide +kernel⟩, List.mem_of_getElem? (i := 19) (by decide +kernel), List.mem_of_getElem? (i := 815) (by decide +kernel), List.mem_of_getElem? (i := 816) (by decide +kernel)⟩
theorem lw_p41 : lw_okq (⟨"PathCycle", "wouldBeGood", "()Z"⟩, 16) := ⟨⟨by decide +kernel, by decide +kernel⟩, List.mem_of_getElem? (i := 19) (by decide +kernel), List.mem_of_getElem? (i := 830) (by decide +kernel), List.mem_of_getElem? (i := 831) (by decide +kernel)⟩
theorem lw_p42 : lw_okq (⟨"PathCycle", "matters", "(I)Z"⟩, 16) := ⟨⟨by decide +kernel, by decide +kernel⟩, List.mem_of_getElem? (i := 19) (by decide +kernel), List.mem_of_getElem? (i := 834) (by decide +kernel), List.mem_of_getElem? (i := 835) (by decide +kernel)⟩
theorem lw_p43 : lw_okq (⟨"PathCycle", "earlyState", "(II)I"⟩, 16) := ⟨⟨by decide +kernel, by decide +kernel⟩, List.mem_of_getElem? (i := 19) (by decide +kernel), List.mem_of_getElem? (i := 838) (by decide +kernel), List.mem_of_getElem? (i := 839) (by decide +kernel)⟩
theorem lw_p44 : lw_okq (⟨"PathCycle", "strikeScans", "(I)V"⟩, 16) := ⟨⟨by decide +kernel, by decide +kernel⟩, List.mem_of_getElem? (i := 19) (by decide +kernel), List.mem_of_getElem? (i := 852) (by decide +kernel), List.mem_of_getElem? (i := 853) (by decide +kernel)⟩
theorem lw_p45 : lw_okq (⟨"PathCycle", "divisor", "(I)I"⟩, 16) := ⟨⟨by decide +kernel, by decide +kernel⟩, List.mem_of_getElem? (i := 19) (by decide +kernel), List.mem_of_getElem? (i := 898) (by decide +kernel), List.mem_of_getElem? (i := 899) (by decide +kernel)⟩
theorem lw_p46 : lw_okq (⟨"PathCycle", "dividend", "(I)I"⟩, 16) := ⟨⟨by decide +kernel, by decide +kernel⟩, List.mem_of_getElem? (i := 19) (by decide +kernel), List.mem_of_getElem? (i := 902) (by decide +kernel), List.mem_of_getElem? (i := 903) (by decide +kernel)⟩
theorem lw_p47 : lw_okq (⟨"PathCycle", "countWeights", "(I)I"⟩, 16) := ⟨⟨by decide +kernel, by decide +kernel⟩, List.mem_of_getElem? (i := 19) (by decide +kernel), List.mem_of_getElem? (i := 941) (by decide +kernel), List.mem_of_getElem? (i := 942) (by decide +kernel)⟩
def lw_privs_3 : List (MethodName × Nat) := [(⟨"PathCycle", "isIn", "(II)Z"⟩, 16), (⟨"PathCycle", "isGone", "(I)Z"⟩, 16), (⟨"PathCycle", "count", "(I)I"⟩, 16), (⟨"PathCycle", "member", "(II)I"⟩, 16), (⟨"PathCycle", "gatherLeaks", "()I"⟩, 16), (⟨"PathCycle", "leakByWeight", "(II)I"⟩, 16), (⟨"PathCycle", "leakOfWeight", "(III)I"⟩, 16), (⟨"PathCycle", "isStoppedBy", "(II)Z"⟩, 16), (⟨"PathCycle", "pace", "(II)I"⟩, 16), (⟨"PathCycle", "wouldBeGood", "()Z"⟩, 16), (⟨"PathCycle", "matters", "(I)Z"⟩, 16), (⟨"PathCycle", "earlyState", "(II)I"⟩, 16), (⟨"PathCycle", "strikeScans", "(I)V"⟩, 16), (⟨"PathCycle", "divisor", "(I)I"⟩, 16), (⟨"PathCycle", "dividend", "(I)I"⟩, 16), (⟨"PathCycle", "countWeights", "(I)I"⟩, 16)]
theorem lw_r3 : ∀ q ∈ lw_privs_3, lw_okq q := List.forall_mem_cons.mpr ⟨lw_p32, List.forall_mem_cons.mpr ⟨lw_p33, List.forall_mem_cons.mpr ⟨lw_p34, List.forall_mem_cons.mpr ⟨lw_p35, List.forall_mem_cons.mpr ⟨lw_p36, List.forall_mem_cons.mpr ⟨lw_p37, List.forall_mem_cons.mpr ⟨lw_p38, List.forall_mem_cons.mpr ⟨lw_p39, List.forall_mem_cons.mpr ⟨lw_p40, List.forall_mem_cons.mpr ⟨lw_p41, List.forall_mem_cons.mpr ⟨lw_p42, List.forall_mem_cons.mpr ⟨lw_p43, List.forall_mem_cons.mpr ⟨lw_p44, List.forall_mem_cons.mpr ⟨lw_p45, List.forall_mem_cons.mpr ⟨lw_p46, List.forall_mem_cons.mpr ⟨lw_p47, fun _ h => absurd h List.not_mem_nil⟩⟩⟩⟩⟩⟩⟩⟩⟩⟩⟩⟩⟩⟩⟩⟩
theorem lw_p48 : lw_okq (⟨"PathCycle", "lookAtParts", "(I)I"⟩, 16) := ⟨⟨by decide +kernel, by decide +kernel⟩, List.mem_of_getElem? (i := 19) (by decide +kernel), List.mem_of_getElem? (i := 945) (by decide +kernel), List.mem_of_getElem? (i := 946) (by decide +kernel)⟩
theorem lw_p49 : lw_okq (⟨"PathCycleModel", "laysPaths", "()V"⟩, 30) := ⟨⟨by decide +kernel, by decide +kernel⟩, List.mem_of_getElem? (i := 949) (by decide +kernel), List.mem_of_getElem? (i := 955) (by decide +kernel), List.mem_of_getElem? (i := 956) (by decide +kernel)⟩
theorem lw_p50 : lw_okq (⟨"PathCycleModel", "m", "()I"⟩, 30) := ⟨⟨by decide +kernel, by decide +kernel⟩, List.mem_of_getElem? (i := 949) (by decide +kernel), List.mem_of_getElem? (i := 959) (by decide +kernel), List.mem_of_getElem? (i := 960) (by decide +kernel)⟩
theorem lw_p51 : lw_okq (⟨"PathCycleModel", "n", "()I"⟩, 30) := ⟨⟨by decide +kernel, by decide +kernel⟩, List.mem_of_getElem? (i := 949) (by decide +kernel), List.mem_of_getElem? (i := 963) (by decide +kernel), List.mem_of_getElem? (i := 964) (by decide +kernel)⟩
theorem lw_p52 : lw_okq (⟨"PathCycleModel", "orderOf", "(II)I"⟩, 30) := ⟨⟨by decide +kernel, by decide +kernel⟩, List.mem_of_getElem? (i := 949) (by decide +kernel), List.mem_of_getElem? (i := 967) (by decide +kernel), List.mem_of_getElem? (i := 968) (by decide +kernel)⟩
theorem lw_p53 : lw_okq (⟨"PathCycleModel", "mayFollow", "(III)Z"⟩, 30) := ⟨⟨by decide +kernel, by decide +kernel⟩, List.mem_of_getElem? (i := 949) (by decide +kernel), List.mem_of_getElem? (i := 971) (by decide +kernel), List.mem_of_getElem? (i := 972) (by decide +kernel)⟩
theorem lw_p54 : lw_okq (⟨"PathCycleModel", "laysPrimitive", "()V"⟩, 30) := ⟨⟨by decide +kernel, by decide +kernel⟩, List.mem_of_getElem? (i := 949) (by decide +kernel), List.mem_of_getElem? (i := 975) (by decide +kernel), List.mem_of_getElem? (i := 976) (by decide +kernel)⟩
theorem lw_p55 : lw_okq (⟨"PathCycleModel", "turnOf", "()I"⟩, 30) := ⟨⟨by decide +kernel, by decide +kernel⟩, List.mem_of_getElem? (i := 949) (by decide +kernel), List.mem_of_getElem? (i := 979) (by decide +kernel), List.mem_of_getElem? (i := 980) (by decide +kernel)⟩
theorem lw_p56 : lw_okq (⟨"PathCycleModel", "dividesBy", "(II)I"⟩, 30) := ⟨⟨by decide +kernel, by decide +kernel⟩, List.mem_of_getElem? (i := 949) (by decide +kernel), List.mem_of_getElem? (i := 984) (by decide +kernel), List.mem_of_getElem? (i := 985) (by decide +kernel)⟩
theorem lw_p57 : lw_okq (⟨"PathCycleModel", "isIn", "(III)Z"⟩, 30) := ⟨⟨by decide +kernel, by decide +kernel⟩, List.mem_of_getElem? (i := 949) (by decide +kernel), List.mem_of_getElem? (i := 1085) (by decide +kernel), List.mem_of_getElem? (i := 1086) (by decide +kernel)⟩
theorem lw_p58 : lw_okq (⟨"PathCycleModel", "clearsCycle", "()V"⟩, 30) := ⟨⟨by decide +kernel, by decide +kernel⟩, List.mem_of_getElem? (i := 949) (by decide +kernel), List.mem_of_getElem? (i := 1089) (by decide +kernel), List.mem_of_getElem? (i := 1090) (by decide +kernel)⟩
theorem lw_p59 : lw_okq (⟨"PathCycleModel", "wishesNothing", "()V"⟩, 30) := ⟨⟨by decide +kernel, by decide +kernel⟩, List.mem_of_getElem? (i := 949) (by decide +kernel), List.mem_of_getElem? (i := 1093) (by decide +kernel), List.mem_of_getElem? (i := 1094) (by decide +kernel)⟩
theorem lw_p60 : lw_okq (⟨"PathCycleModel", "isPulse", "(I)Z"⟩, 30) := ⟨⟨by decide +kernel, by decide +kernel⟩, List.mem_of_getElem? (i := 949) (by decide +kernel), List.mem_of_getElem? (i := 1101) (by decide +kernel), List.mem_of_getElem? (i := 1102) (by decide +kernel)⟩
theorem lw_p61 : lw_okq (⟨"PathCycleModel", "isCounter", "(I)Z"⟩, 30) := ⟨⟨by decide +kernel, by decide +kernel⟩, List.mem_of_getElem? (i := 949) (by decide +kernel), List.mem_of_getElem? (i := 1113) (by decide +kernel), List.mem_of_getElem? (i := 1114) (by decide +kernel)⟩
theorem lw_p62 : lw_okq (⟨"PathCycleModel", "scans", "()I"⟩, 30) := ⟨⟨by decide +kernel, by decide +kernel⟩, List.mem_of_getElem? (i := 949) (by decide +kernel), List.mem_of_getElem? (i := 1117) (by decide +kernel), List.mem_of_getElem? (i := 1118) (by decide +kernel)⟩
theorem lw_p63 : lw_okq (⟨"PathCycleModel", "lengthOf", "(I)I"⟩, 30) := ⟨⟨by decide +kernel, by decide +kernel⟩, List.mem_of_getElem? (i := 949) (by decide +kernel), List.mem_of_getElem? (i := 1121) (by decide +kernel), List.mem_of_getElem? (i := 1122) (by decide +kernel)⟩
def lw_privs_4 : List (MethodName × Nat) := [(⟨"PathCycle", "lookAtParts", "(I)I"⟩, 16), (⟨"PathCycleModel", "laysPaths", "()V"⟩, 30), (⟨"PathCycleModel", "m", "()I"⟩, 30), (⟨"PathCycleModel", "n", "()I"⟩, 30), (⟨"PathCycleModel", "orderOf", "(II)I"⟩, 30), (⟨"PathCycleModel", "mayFollow", "(III)Z"⟩, 30), (⟨"PathCycleModel", "laysPrimitive", "()V"⟩, 30), (⟨"PathCycleModel", "turnOf", "()I"⟩, 30), (⟨"PathCycleModel", "dividesBy", "(II)I"⟩, 30), (⟨"PathCycleModel", "isIn", "(III)Z"⟩, 30), (⟨"PathCycleModel", "clearsCycle", "()V"⟩, 30), (⟨"PathCycleModel", "wishesNothing", "()V"⟩, 30), (⟨"PathCycleModel", "isPulse", "(I)Z"⟩, 30), (⟨"PathCycleModel", "isCounter", "(I)Z"⟩, 30), (⟨"PathCycleModel", "scans", "()I"⟩, 30), (⟨"PathCycleModel", "lengthOf", "(I)I"⟩, 30)]
theorem lw_r4 : ∀ q ∈ lw_privs_4, lw_okq q := List.forall_mem_cons.mpr ⟨lw_p48, List.forall_mem_cons.mpr ⟨lw_p49, List.forall_mem_cons.mpr ⟨lw_p50, List.forall_mem_cons.mpr ⟨lw_p51, List.forall_mem_cons.mpr ⟨lw_p52, List.forall_mem_cons.mpr ⟨lw_p53, List.forall_mem_cons.mpr ⟨lw_p54, List.forall_mem_cons.mpr ⟨lw_p55, List.forall_mem_cons.mpr ⟨lw_p56, List.forall_mem_cons.mpr ⟨lw_p57, List.forall_mem_cons.mpr ⟨lw_p58, List.forall_mem_cons.mpr ⟨lw_p59, List.forall_mem_cons.mpr ⟨lw_p60, List.forall_mem_cons.mpr ⟨lw_p61, List.forall_mem_cons.mpr ⟨lw_p62, List.forall_mem_cons.mpr ⟨lw_p63, fun _ h => absurd h List.not_mem_nil⟩⟩⟩⟩⟩⟩⟩⟩⟩⟩⟩⟩⟩⟩⟩⟩
theorem lw_p64 : lw_okq (⟨"PathCycleModel", "isSource", "(I)Z"⟩, 30) := ⟨⟨by decide +kernel, by decide +kernel⟩, List.mem_of_getElem? (i := 949) (by decide +kernel), List.mem_of_getElem? (i := 1129) (by decide +kernel), List.mem_of_getElem? (i := 1130) (by decide +kernel)⟩
theorem lw_p65 : lw_okq (⟨"PathCycleModel", "swaps", "(II)V"⟩, 30) := ⟨⟨by decide +kernel, by decide +kernel⟩, List.mem_of_getElem? (i := 949) (by decide +kernel), List.mem_of_getElem? (i := 1145) (by decide +kernel), List.mem_of_getElem? (i := 1146) (by decide +kernel)⟩
theorem lw_p66 : lw_okq (⟨"PathCycleModel", "follows", "()Z"⟩, 30) := ⟨⟨by decide +kernel, by decide +kernel⟩, List.mem_of_getElem? (i := 949) (by decide +kernel), List.mem_of_getElem? (i := 1153) (by decide +kernel), List.mem_of_getElem? (i := 1154) (by decide +kernel)⟩
theorem lw_p67 : lw_okq (⟨"PathCycleModel", "becomes", "(IIZ)Z"⟩, 30) := ⟨⟨by decide +kernel, by decide +kernel⟩, List.mem_of_getElem? (i := 949) (by decide +kernel), List.mem_of_getElem? (i := 1161) (by decide +kernel), List.mem_of_getElem? (i := 1162) (by decide +kernel)⟩
theorem lw_p68 : lw_okq (⟨"PathCycleModel", "isPath", "(I)Z"⟩, 30) := ⟨⟨by decide +kernel, by decide +kernel⟩, List.mem_of_getElem? (i := 949) (by decide +kernel), List.mem_of_getElem? (i := 1165) (by decide +kernel), List.mem_of_getElem? (i := 1166) (by decide +kernel)⟩
theorem lw_p69 : lw_okq (⟨"PathCycleModel", "types", "(I)V"⟩, 30) := ⟨⟨by decide +kernel, by decide +kernel⟩, List.mem_of_getElem? (i := 949) (by decide +kernel), List.mem_of_getElem? (i := 1181) (by decide +kernel), List.mem_of_getElem? (i := 1182) (by decide +kernel)⟩
theorem lw_p70 : lw_okq (⟨"PathCycleModel", "behindBlanks", "()I"⟩, 30) := ⟨⟨by decide +kernel, by decide +kernel⟩, List.mem_of_getElem? (i := 949) (by decide +kernel), List.mem_of_getElem? (i := 1193) (by decide +kernel), List.mem_of_getElem? (i := 1194) (by decide +kernel)⟩
theorem lw_p71 : lw_okq (⟨"PathCycleModel", "here", "()I"⟩, 30) := ⟨⟨by decide +kernel, by decide +kernel⟩, List.mem_of_getElem? (i := 949) (by decide +kernel), List.mem_of_getElem? (i := 1197) (by decide +kernel), List.mem_of_getElem? (i := 1198) (by decide +kernel)⟩
theorem lw_p72 : lw_okq (⟨"PathCycleModel", "readLine", "()Z"⟩, 30) := ⟨⟨by decide +kernel, by decide +kernel⟩, List.mem_of_getElem? (i := 949) (by decide +kernel), List.mem_of_getElem? (i := 1201) (by decide +kernel), List.mem_of_getElem? (i := 1202) (by decide +kernel)⟩
theorem lw_p73 : lw_okq (⟨"PathCycleModel", "readName", "()I"⟩, 30) := ⟨⟨by decide +kernel, by decide +kernel⟩, List.mem_of_getElem? (i := 949) (by decide +kernel), List.mem_of_getElem? (i := 1205) (by decide +kernel), List.mem_of_getElem? (i := 1206) (by decide +kernel)⟩
theorem lw_p74 : lw_okq (⟨"PathCycleModel", "errs", "(II)Z"⟩, 30) := ⟨⟨by decide +kernel, by decide +kernel⟩, List.mem_of_getElem? (i := 949) (by decide +kernel), List.mem_of_getElem? (i := 1209) (by decide +kernel), List.mem_of_getElem? (i := 1210) (by decide +kernel)⟩
theorem lw_p75 : lw_okq (⟨"PathCycleModel", "isDigit", "(I)Z"⟩, 30) := ⟨⟨by decide +kernel, by decide +kernel⟩, List.mem_of_getElem? (i := 949) (by decide +kernel), List.mem_of_getElem? (i := 1213) (by decide +kernel), List.mem_of_getElem? (i := 1214) (by decide +kernel)⟩
theorem lw_p76 : lw_okq (⟨"PathCycleModel", "laysFewest", "()I"⟩, 30) := ⟨⟨by decide +kernel, by decide +kernel⟩, List.mem_of_getElem? (i := 949) (by decide +kernel), List.mem_of_getElem? (i := 1225) (by decide +kernel), List.mem_of_getElem? (i := 1226) (by decide +kernel)⟩
theorem lw_p77 : lw_okq (⟨"PathCycleModel", "laysMattering", "()Z"⟩, 30) := ⟨⟨by decide +kernel, by decide +kernel⟩, List.mem_of_getElem? (i := 949) (by decide +kernel), List.mem_of_getElem? (i := 1229) (by decide +kernel), List.mem_of_getElem? (i := 1230) (by decide +kernel)⟩
theorem lw_p78 : lw_okq (⟨"PathCycleModel", "chief", "()I"⟩, 30) := ⟨⟨by decide +kernel, by decide +kernel⟩, List.mem_of_getElem? (i := 949) (by decide +kernel), List.mem_of_getElem? (i := 1233) (by decide +kernel), List.mem_of_getElem? (i := 1234) (by decide +kernel)⟩
theorem lw_p79 : lw_okq (⟨"PathCycleModel", "isWished", "(I)Z"⟩, 30) := ⟨⟨by decide +kernel, by decide +kernel⟩, List.mem_of_getElem? (i := 949) (by decide +kernel), List.mem_of_getElem? (i := 1237) (by decide +kernel), List.mem_of_getElem? (i := 1238) (by decide +kernel)⟩
def lw_privs_5 : List (MethodName × Nat) := [(⟨"PathCycleModel", "isSource", "(I)Z"⟩, 30), (⟨"PathCycleModel", "swaps", "(II)V"⟩, 30), (⟨"PathCycleModel", "follows", "()Z"⟩, 30), (⟨"PathCycleModel", "becomes", "(IIZ)Z"⟩, 30), (⟨"PathCycleModel", "isPath", "(I)Z"⟩, 30), (⟨"PathCycleModel", "types", "(I)V"⟩, 30), (⟨"PathCycleModel", "behindBlanks", "()I"⟩, 30), (⟨"PathCycleModel", "here", "()I"⟩, 30), (⟨"PathCycleModel", "readLine", "()Z"⟩, 30), (⟨"PathCycleModel", "readName", "()I"⟩, 30), (⟨"PathCycleModel", "errs", "(II)Z"⟩, 30), (⟨"PathCycleModel", "isDigit", "(I)Z"⟩, 30), (⟨"PathCycleModel", "laysFewest", "()I"⟩, 30), (⟨"PathCycleModel", "laysMattering", "()Z"⟩, 30), (⟨"PathCycleModel", "chief", "()I"⟩, 30), (⟨"PathCycleModel", "isWished", "(I)Z"⟩, 30)]
theorem lw_r5 : ∀ q ∈ lw_privs_5, lw_okq q := List.forall_mem_cons.mpr ⟨lw_p64, List.forall_mem_cons.mpr ⟨lw_p65, List.forall_mem_cons.mpr ⟨lw_p66, List.forall_mem_cons.mpr ⟨lw_p67, List.forall_mem_cons.mpr ⟨lw_p68, List.forall_mem_cons.mpr ⟨lw_p69, List.forall_mem_cons.mpr ⟨lw_p70, List.forall_mem_cons.mpr ⟨lw_p71, List.forall_mem_cons.mpr ⟨lw_p72, List.forall_mem_cons.mpr ⟨lw_p73, List.forall_mem_cons.mpr ⟨lw_p74, List.forall_mem_cons.mpr ⟨lw_p75, List.forall_mem_cons.mpr ⟨lw_p76, List.forall_mem_cons.mpr ⟨lw_p77, List.forall_mem_cons.mpr ⟨lw_p78, List.forall_mem_cons.mpr ⟨lw_p79, fun _ h => absurd h List.not_mem_nil⟩⟩⟩⟩⟩⟩⟩⟩⟩⟩⟩⟩⟩⟩⟩⟩
theorem lw_p80 : lw_okq (⟨"PathCycleModel", "isOther", "(I)Z"⟩, 30) := ⟨⟨by decide +kernel, by decide +kernel⟩, List.mem_of_getElem? (i := 949) (by decide +kernel), List.mem_of_getElem? (i := 1241) (by decide +kernel), List.mem_of_getElem? (i := 1242) (by decide +kernel)⟩
theorem lw_p81 : lw_okq (⟨"PathCycleModel", "isGone", "(I)Z"⟩, 30) := ⟨⟨by decide +kernel, by decide +kernel⟩, List.mem_of_getElem? (i := 949) (by decide +kernel), List.mem_of_getElem? (i := 1245) (by decide +kernel), List.mem_of_getElem? (i := 1246) (by decide +kernel)⟩
theorem lw_p82 : lw_okq (⟨"PathCycleModel", "isSpoiled", "(I)Z"⟩, 30) := ⟨⟨by decide +kernel, by decide +kernel⟩, List.mem_of_getElem? (i := 949) (by decide +kernel), List.mem_of_getElem? (i := 1249) (by decide +kernel), List.mem_of_getElem? (i := 1250) (by decide +kernel)⟩
theorem lw_p83 : lw_okq (⟨"PathCycleModel", "weighs", "(I)I"⟩, 30) := ⟨⟨by decide +kernel, by decide +kernel⟩, List.mem_of_getElem? (i := 949) (by decide +kernel), List.mem_of_getElem? (i := 1253) (by decide +kernel), List.mem_of_getElem? (i := 1254) (by decide +kernel)⟩
theorem lw_p84 : lw_okq (⟨"PathCycleModel", "changeOf", "(II)I"⟩, 30) := ⟨⟨by decide +kernel, by decide +kernel⟩, List.mem_of_getElem? (i := 949) (by decide +kernel), List.mem_of_getElem? (i := 1257) (by decide +kernel), List.mem_of_getElem? (i := 1258) (by decide +kernel)⟩
theorem lw_p85 : lw_okq (⟨"PathCycleModel", "size", "(I)I"⟩, 30) := ⟨⟨by decide +kernel, by decide +kernel⟩, List.mem_of_getElem? (i := 949) (by decide +kernel), List.mem_of_getElem? (i := 1261) (by decide +kernel), List.mem_of_getElem? (i := 1262) (by decide +kernel)⟩
theorem lw_p86 : lw_okq (⟨"PathCycleModel", "weightOf", "(II)I"⟩, 30) := ⟨⟨by decide +kernel, by decide +kernel⟩, List.mem_of_getElem? (i := 949) (by decide +kernel), List.mem_of_getElem? (i := 1265) (by decide +kernel), List.mem_of_getElem? (i := 1266) (by decide +kernel)⟩
theorem lw_p87 : lw_okq (⟨"PathCycleModel", "matters", "(IIZ)V"⟩, 30) := ⟨⟨by decide +kernel, by decide +kernel⟩, List.mem_of_getElem? (i := 949) (by decide +kernel), List.mem_of_getElem? (i := 1269) (by decide +kernel), List.mem_of_getElem? (i := 1270) (by decide +kernel)⟩
theorem lw_p88 : lw_okq (⟨"PathCycleModel", "product", "()I"⟩, 30) := ⟨⟨by decide +kernel, by decide +kernel⟩, List.mem_of_getElem? (i := 949) (by decide +kernel), List.mem_of_getElem? (i := 1273) (by decide +kernel), List.mem_of_getElem? (i := 1274) (by decide +kernel)⟩
theorem lw_p89 : lw_okq (⟨"PathCycleModel", "doSteps", "()Z"⟩, 30) := ⟨⟨by decide +kernel, by decide +kernel⟩, List.mem_of_getElem? (i := 949) (by decide +kernel), List.mem_of_getElem? (i := 1277) (by decide +kernel), List.mem_of_getElem? (i := 1278) (by decide +kernel)⟩
theorem lw_p90 : lw_okq (⟨"PathCycleModel", "isLeftBySteps", "(I)Z"⟩, 30) := ⟨⟨by decide +kernel, by decide +kernel⟩, List.mem_of_getElem? (i := 949) (by decide +kernel), List.mem_of_getElem? (i := 1281) (by decide +kernel), List.mem_of_getElem? (i := 1282) (by decide +kernel)⟩
theorem lw_p91 : lw_okq (⟨"PathCycleModel", "goesOn", "(II)Z"⟩, 30) := ⟨⟨by decide +kernel, by decide +kernel⟩, List.mem_of_getElem? (i := 949) (by decide +kernel), List.mem_of_getElem? (i := 1285) (by decide +kernel), List.mem_of_getElem? (i := 1286) (by decide +kernel)⟩
theorem lw_p92 : lw_okq (⟨"PathCycleModel", "nextNumber", "(III)I"⟩, 30) := ⟨⟨by decide +kernel, by decide +kernel⟩, List.mem_of_getElem? (i := 949) (by decide +kernel), List.mem_of_getElem? (i := 1289) (by decide +kernel), List.mem_of_getElem? (i := 1290) (by decide +kernel)⟩
theorem lw_p93 : lw_okq (⟨"PathCycleModel", "laysCogs", "()I"⟩, 30) := ⟨⟨by decide +kernel, by decide +kernel⟩, List.mem_of_getElem? (i := 949) (by decide +kernel), List.mem_of_getElem? (i := 1297) (by decide +kernel), List.mem_of_getElem? (i := 1298) (by decide +kernel)⟩
theorem lw_p94 : lw_okq (⟨"PathCycleModel", "doCogs", "(I)Z"⟩, 30) := ⟨⟨by decide +kernel, by decide +kernel⟩, List.mem_of_getElem? (i := 949) (by decide +kernel), List.mem_of_getElem? (i := 1301) (by decide +kernel), List.mem_of_getElem? (i := 1302) (by decide +kernel)⟩
theorem lw_p95 : lw_okq (⟨"PathCycleModel", "isLeftByCogs", "(II)Z"⟩, 30) := ⟨⟨by decide +kernel, by decide +kernel⟩, List.mem_of_getElem? (i := 949) (by decide +kernel), List.mem_of_getElem? (i := 1305) (by decide +kernel), List.mem_of_getElem? (i := 1306) (by decide +kernel)⟩
def lw_privs_6 : List (MethodName × Nat) := [(⟨"PathCycleModel", "isOther", "(I)Z"⟩, 30), (⟨"PathCycleModel", "isGone", "(I)Z"⟩, 30), (⟨"PathCycleModel", "isSpoiled", "(I)Z"⟩, 30), (⟨"PathCycleModel", "weighs", "(I)I"⟩, 30), (⟨"PathCycleModel", "changeOf", "(II)I"⟩, 30), (⟨"PathCycleModel", "size", "(I)I"⟩, 30), (⟨"PathCycleModel", "weightOf", "(II)I"⟩, 30), (⟨"PathCycleModel", "matters", "(IIZ)V"⟩, 30), (⟨"PathCycleModel", "product", "()I"⟩, 30), (⟨"PathCycleModel", "doSteps", "()Z"⟩, 30), (⟨"PathCycleModel", "isLeftBySteps", "(I)Z"⟩, 30), (⟨"PathCycleModel", "goesOn", "(II)Z"⟩, 30), (⟨"PathCycleModel", "nextNumber", "(III)I"⟩, 30), (⟨"PathCycleModel", "laysCogs", "()I"⟩, 30), (⟨"PathCycleModel", "doCogs", "(I)Z"⟩, 30), (⟨"PathCycleModel", "isLeftByCogs", "(II)Z"⟩, 30)]
theorem lw_r6 : ∀ q ∈ lw_privs_6, lw_okq q := List.forall_mem_cons.mpr ⟨lw_p80, List.forall_mem_cons.mpr ⟨lw_p81, List.forall_mem_cons.mpr ⟨lw_p82, List.forall_mem_cons.mpr ⟨lw_p83, List.forall_mem_cons.mpr ⟨lw_p84, List.forall_mem_cons.mpr ⟨lw_p85, List.forall_mem_cons.mpr ⟨lw_p86, List.forall_mem_cons.mpr ⟨lw_p87, List.forall_mem_cons.mpr ⟨lw_p88, List.forall_mem_cons.mpr ⟨lw_p89, List.forall_mem_cons.mpr ⟨lw_p90, List.forall_mem_cons.mpr ⟨lw_p91, List.forall_mem_cons.mpr ⟨lw_p92, List.forall_mem_cons.mpr ⟨lw_p93, List.forall_mem_cons.mpr ⟨lw_p94, List.forall_mem_cons.mpr ⟨lw_p95, fun _ h => absurd h List.not_mem_nil⟩⟩⟩⟩⟩⟩⟩⟩⟩⟩⟩⟩⟩⟩⟩⟩
theorem lw_p96 : lw_okq (⟨"PathCycleModel", "layFewest", "()I"⟩, 30) := ⟨⟨by decide +kernel, by decide +kernel⟩, List.mem_of_getElem? (i := 949) (by decide +kernel), List.mem_of_getElem? (i := 1313) (by decide +kernel), List.mem_of_getElem? (i := 1314) (by decide +kernel)⟩
theorem lw_p97 : lw_okq (⟨"PathCycleModel", "layCogs", "()I"⟩, 30) := ⟨⟨by decide +kernel, by decide +kernel⟩, List.mem_of_getElem? (i := 949) (by decide +kernel), List.mem_of_getElem? (i := 1317) (by decide +kernel), List.mem_of_getElem? (i := 1318) (by decide +kernel)⟩
theorem lw_p98 : lw_okq (⟨"PathCycleModel", "isStep", "(I)Z"⟩, 30) := ⟨⟨by decide +kernel, by decide +kernel⟩, List.mem_of_getElem? (i := 949) (by decide +kernel), List.mem_of_getElem? (i := 1325) (by decide +kernel), List.mem_of_getElem? (i := 1326) (by decide +kernel)⟩
theorem lw_p99 : lw_okq (⟨"PathCycleModel", "isScan", "(I)Z"⟩, 30) := ⟨⟨by decide +kernel, by decide +kernel⟩, List.mem_of_getElem? (i := 949) (by decide +kernel), List.mem_of_getElem? (i := 1341) (by decide +kernel), List.mem_of_getElem? (i := 1342) (by decide +kernel)⟩
theorem lw_p100 : lw_okq (⟨"PathCycleModel", "laysPhases", "()V"⟩, 30) := ⟨⟨by decide +kernel, by decide +kernel⟩, List.mem_of_getElem? (i := 949) (by decide +kernel), List.mem_of_getElem? (i := 1345) (by decide +kernel), List.mem_of_getElem? (i := 1346) (by decide +kernel)⟩
theorem lw_p101 : lw_okq (⟨"PathCycleModel", "ownPhase", "(II)I"⟩, 30) := ⟨⟨by decide +kernel, by decide +kernel⟩, List.mem_of_getElem? (i := 949) (by decide +kernel), List.mem_of_getElem? (i := 1349) (by decide +kernel), List.mem_of_getElem? (i := 1350) (by decide +kernel)⟩
theorem lw_p102 : lw_okq (⟨"PathCycleModel", "rowLong", "(I)I"⟩, 30) := ⟨⟨by decide +kernel, by decide +kernel⟩, List.mem_of_getElem? (i := 949) (by decide +kernel), List.mem_of_getElem? (i := 1353) (by decide +kernel), List.mem_of_getElem? (i := 1354) (by decide +kernel)⟩
theorem lw_p103 : lw_okq (⟨"PathCycleModel", "rowOf", "(II)I"⟩, 30) := ⟨⟨by decide +kernel, by decide +kernel⟩, List.mem_of_getElem? (i := 949) (by decide +kernel), List.mem_of_getElem? (i := 1357) (by decide +kernel), List.mem_of_getElem? (i := 1358) (by decide +kernel)⟩
theorem lw_p104 : lw_okq (⟨"PathCycleModel", "stepOf", "(II)I"⟩, 30) := ⟨⟨by decide +kernel, by decide +kernel⟩, List.mem_of_getElem? (i := 949) (by decide +kernel), List.mem_of_getElem? (i := 1361) (by decide +kernel), List.mem_of_getElem? (i := 1362) (by decide +kernel)⟩
theorem lw_p105 : lw_okq (⟨"PathCycleModel", "rest", "(I)I"⟩, 30) := ⟨⟨by decide +kernel, by decide +kernel⟩, List.mem_of_getElem? (i := 949) (by decide +kernel), List.mem_of_getElem? (i := 1365) (by decide +kernel), List.mem_of_getElem? (i := 1366) (by decide +kernel)⟩
theorem lw_p106 : lw_okq (⟨"PathCycleModel", "residueOf", "(II)I"⟩, 30) := ⟨⟨by decide +kernel, by decide +kernel⟩, List.mem_of_getElem? (i := 949) (by decide +kernel), List.mem_of_getElem? (i := 1373) (by decide +kernel), List.mem_of_getElem? (i := 1374) (by decide +kernel)⟩
theorem lw_p107 : lw_okq (⟨"PathCycleModel", "countsFirst", "(II)V"⟩, 30) := ⟨⟨by decide +kernel, by decide +kernel⟩, List.mem_of_getElem? (i := 949) (by decide +kernel), List.mem_of_getElem? (i := 1381) (by decide +kernel), List.mem_of_getElem? (i := 1382) (by decide +kernel)⟩
theorem lw_p108 : lw_okq (⟨"PathCycleModel", "stateOf", "(I)I"⟩, 30) := ⟨⟨by decide +kernel, by decide +kernel⟩, List.mem_of_getElem? (i := 949) (by decide +kernel), List.mem_of_getElem? (i := 1389) (by decide +kernel), List.mem_of_getElem? (i := 1390) (by decide +kernel)⟩
theorem lw_p109 : lw_okq (⟨"PathCycleModel", "stateNow", "()I"⟩, 30) := ⟨⟨by decide +kernel, by decide +kernel⟩, List.mem_of_getElem? (i := 949) (by decide +kernel), List.mem_of_getElem? (i := 1393) (by decide +kernel), List.mem_of_getElem? (i := 1394) (by decide +kernel)⟩
theorem lw_p110 : lw_okq (⟨"PathCycleModel", "isNothing", "()Z"⟩, 30) := ⟨⟨by decide +kernel, by decide +kernel⟩, List.mem_of_getElem? (i := 949) (by decide +kernel), List.mem_of_getElem? (i := 1397) (by decide +kernel), List.mem_of_getElem? (i := 1398) (by decide +kernel)⟩
theorem lw_p111 : lw_okq (⟨"PathCycleModel", "isOneAlone", "()Z"⟩, 30) := ⟨⟨by decide +kernel, by decide +kernel⟩, List.mem_of_getElem? (i := 949) (by decide +kernel), List.mem_of_getElem? (i := 1401) (by decide +kernel), List.mem_of_getElem? (i := 1402) (by decide +kernel)⟩
def lw_privs_7 : List (MethodName × Nat) := [(⟨"PathCycleModel", "layFewest", "()I"⟩, 30), (⟨"PathCycleModel", "layCogs", "()I"⟩, 30), (⟨"PathCycleModel", "isStep", "(I)Z"⟩, 30), (⟨"PathCycleModel", "isScan", "(I)Z"⟩, 30), (⟨"PathCycleModel", "laysPhases", "()V"⟩, 30), (⟨"PathCycleModel", "ownPhase", "(II)I"⟩, 30), (⟨"PathCycleModel", "rowLong", "(I)I"⟩, 30), (⟨"PathCycleModel", "rowOf", "(II)I"⟩, 30), (⟨"PathCycleModel", "stepOf", "(II)I"⟩, 30), (⟨"PathCycleModel", "rest", "(I)I"⟩, 30), (⟨"PathCycleModel", "residueOf", "(II)I"⟩, 30), (⟨"PathCycleModel", "countsFirst", "(II)V"⟩, 30), (⟨"PathCycleModel", "stateOf", "(I)I"⟩, 30), (⟨"PathCycleModel", "stateNow", "()I"⟩, 30), (⟨"PathCycleModel", "isNothing", "()Z"⟩, 30), (⟨"PathCycleModel", "isOneAlone", "()Z"⟩, 30)]
theorem lw_r7 : ∀ q ∈ lw_privs_7, lw_okq q := List.forall_mem_cons.mpr ⟨lw_p96, List.forall_mem_cons.mpr ⟨lw_p97, List.forall_mem_cons.mpr ⟨lw_p98, List.forall_mem_cons.mpr ⟨lw_p99, List.forall_mem_cons.mpr ⟨lw_p100, List.forall_mem_cons.mpr ⟨lw_p101, List.forall_mem_cons.mpr ⟨lw_p102, List.forall_mem_cons.mpr ⟨lw_p103, List.forall_mem_cons.mpr ⟨lw_p104, List.forall_mem_cons.mpr ⟨lw_p105, List.forall_mem_cons.mpr ⟨lw_p106, List.forall_mem_cons.mpr ⟨lw_p107, List.forall_mem_cons.mpr ⟨lw_p108, List.forall_mem_cons.mpr ⟨lw_p109, List.forall_mem_cons.mpr ⟨lw_p110, List.forall_mem_cons.mpr ⟨lw_p111, fun _ h => absurd h List.not_mem_nil⟩⟩⟩⟩⟩⟩⟩⟩⟩⟩⟩⟩⟩⟩⟩⟩
theorem lw_p112 : lw_okq (⟨"PathCycleModel", "one", "(Z)I"⟩, 30) := ⟨⟨by decide +kernel, by decide +kernel⟩, List.mem_of_getElem? (i := 949) (by decide +kernel), List.mem_of_getElem? (i := 1405) (by decide +kernel), List.mem_of_getElem? (i := 1406) (by decide +kernel)⟩
theorem lw_p113 : lw_okq (⟨"PathCycleModel", "isFree", "(I)Z"⟩, 30) := ⟨⟨by decide +kernel, by decide +kernel⟩, List.mem_of_getElem? (i := 949) (by decide +kernel), List.mem_of_getElem? (i := 1409) (by decide +kernel), List.mem_of_getElem? (i := 1410) (by decide +kernel)⟩
theorem lw_p114 : lw_okq (⟨"PathCycleModel", "isLeak", "(I)Z"⟩, 30) := ⟨⟨by decide +kernel, by decide +kernel⟩, List.mem_of_getElem? (i := 949) (by decide +kernel), List.mem_of_getElem? (i := 1413) (by decide +kernel), List.mem_of_getElem? (i := 1414) (by decide +kernel)⟩
theorem lw_p115 : lw_okq (⟨"PathCycleModel", "changesOf", "(I)I"⟩, 30) := ⟨⟨by decide +kernel, by decide +kernel⟩, List.mem_of_getElem? (i := 949) (by decide +kernel), List.mem_of_getElem? (i := 1417) (by decide +kernel), List.mem_of_getElem? (i := 1418) (by decide +kernel)⟩
theorem lw_p116 : lw_okq (⟨"PathCycleModel", "greatestOrder", "(I)I"⟩, 30) := ⟨⟨by decide +kernel, by decide +kernel⟩, List.mem_of_getElem? (i := 949) (by decide +kernel), List.mem_of_getElem? (i := 1421) (by decide +kernel), List.mem_of_getElem? (i := 1422) (by decide +kernel)⟩
theorem lw_p117 : lw_okq (⟨"PathCycleModel", "leaks", "()I"⟩, 30) := ⟨⟨by decide +kernel, by decide +kernel⟩, List.mem_of_getElem? (i := 949) (by decide +kernel), List.mem_of_getElem? (i := 1429) (by decide +kernel), List.mem_of_getElem? (i := 1430) (by decide +kernel)⟩
theorem lw_p118 : lw_okq (⟨"PathCycleModel", "losts", "()I"⟩, 30) := ⟨⟨by decide +kernel, by decide +kernel⟩, List.mem_of_getElem? (i := 949) (by decide +kernel), List.mem_of_getElem? (i := 1437) (by decide +kernel), List.mem_of_getElem? (i := 1438) (by decide +kernel)⟩
theorem lw_p119 : lw_okq (⟨"PathCycleModel", "isLost", "(I)Z"⟩, 30) := ⟨⟨by decide +kernel, by decide +kernel⟩, List.mem_of_getElem? (i := 949) (by decide +kernel), List.mem_of_getElem? (i := 1441) (by decide +kernel), List.mem_of_getElem? (i := 1442) (by decide +kernel)⟩
theorem lw_p120 : lw_okq (⟨"PathCycleModel", "isStoppedBy", "(III)Z"⟩, 30) := ⟨⟨by decide +kernel, by decide +kernel⟩, List.mem_of_getElem? (i := 949) (by decide +kernel), List.mem_of_getElem? (i := 1453) (by decide +kernel), List.mem_of_getElem? (i := 1454) (by decide +kernel)⟩
theorem lw_p121 : lw_okq (⟨"PathCycleModel", "isGood", "()Z"⟩, 30) := ⟨⟨by decide +kernel, by decide +kernel⟩, List.mem_of_getElem? (i := 949) (by decide +kernel), List.mem_of_getElem? (i := 1461) (by decide +kernel), List.mem_of_getElem? (i := 1462) (by decide +kernel)⟩
theorem lw_p122 : lw_okq (⟨"PathCycleModel", "areAnyGone", "()Z"⟩, 30) := ⟨⟨by decide +kernel, by decide +kernel⟩, List.mem_of_getElem? (i := 949) (by decide +kernel), List.mem_of_getElem? (i := 1469) (by decide +kernel), List.mem_of_getElem? (i := 1470) (by decide +kernel)⟩
theorem lw_p123 : lw_okq (⟨"PathCycleModel", "isGoodSoFar", "()Z"⟩, 30) := ⟨⟨by decide +kernel, by decide +kernel⟩, List.mem_of_getElem? (i := 949) (by decide +kernel), List.mem_of_getElem? (i := 1473) (by decide +kernel), List.mem_of_getElem? (i := 1474) (by decide +kernel)⟩
theorem lw_p124 : lw_okq (⟨"PathCycleModel", "below", "(I)I"⟩, 30) := ⟨⟨by decide +kernel, by decide +kernel⟩, List.mem_of_getElem? (i := 949) (by decide +kernel), List.mem_of_getElem? (i := 1493) (by decide +kernel), List.mem_of_getElem? (i := 1494) (by decide +kernel)⟩
theorem lw_p125 : lw_okq (⟨"PathCycleModel", "above", "(I)I"⟩, 30) := ⟨⟨by decide +kernel, by decide +kernel⟩, List.mem_of_getElem? (i := 949) (by decide +kernel), List.mem_of_getElem? (i := 1497) (by decide +kernel), List.mem_of_getElem? (i := 1498) (by decide +kernel)⟩
theorem lw_p126 : lw_okq (⟨"PathCycleModel", "manyOf", "(I)I"⟩, 30) := ⟨⟨by decide +kernel, by decide +kernel⟩, List.mem_of_getElem? (i := 949) (by decide +kernel), List.mem_of_getElem? (i := 1533) (by decide +kernel), List.mem_of_getElem? (i := 1534) (by decide +kernel)⟩
theorem lw_p127 : lw_okq (⟨"PathCycleModel", "weightsOf", "(Z)I"⟩, 30) := ⟨⟨by decide +kernel, by decide +kernel⟩, List.mem_of_getElem? (i := 949) (by decide +kernel), List.mem_of_getElem? (i := 1537) (by decide +kernel), List.mem_of_getElem? (i := 1538) (by decide +kernel)⟩
def lw_privs_8 : List (MethodName × Nat) := [(⟨"PathCycleModel", "one", "(Z)I"⟩, 30), (⟨"PathCycleModel", "isFree", "(I)Z"⟩, 30), (⟨"PathCycleModel", "isLeak", "(I)Z"⟩, 30), (⟨"PathCycleModel", "changesOf", "(I)I"⟩, 30), (⟨"PathCycleModel", "greatestOrder", "(I)I"⟩, 30), (⟨"PathCycleModel", "leaks", "()I"⟩, 30), (⟨"PathCycleModel", "losts", "()I"⟩, 30), (⟨"PathCycleModel", "isLost", "(I)Z"⟩, 30), (⟨"PathCycleModel", "isStoppedBy", "(III)Z"⟩, 30), (⟨"PathCycleModel", "isGood", "()Z"⟩, 30), (⟨"PathCycleModel", "areAnyGone", "()Z"⟩, 30), (⟨"PathCycleModel", "isGoodSoFar", "()Z"⟩, 30), (⟨"PathCycleModel", "below", "(I)I"⟩, 30), (⟨"PathCycleModel", "above", "(I)I"⟩, 30), (⟨"PathCycleModel", "manyOf", "(I)I"⟩, 30), (⟨"PathCycleModel", "weightsOf", "(Z)I"⟩, 30)]
theorem lw_r8 : ∀ q ∈ lw_privs_8, lw_okq q := List.forall_mem_cons.mpr ⟨lw_p112, List.forall_mem_cons.mpr ⟨lw_p113, List.forall_mem_cons.mpr ⟨lw_p114, List.forall_mem_cons.mpr ⟨lw_p115, List.forall_mem_cons.mpr ⟨lw_p116, List.forall_mem_cons.mpr ⟨lw_p117, List.forall_mem_cons.mpr ⟨lw_p118, List.forall_mem_cons.mpr ⟨lw_p119, List.forall_mem_cons.mpr ⟨lw_p120, List.forall_mem_cons.mpr ⟨lw_p121, List.forall_mem_cons.mpr ⟨lw_p122, List.forall_mem_cons.mpr ⟨lw_p123, List.forall_mem_cons.mpr ⟨lw_p124, List.forall_mem_cons.mpr ⟨lw_p125, List.forall_mem_cons.mpr ⟨lw_p126, List.forall_mem_cons.mpr ⟨lw_p127, fun _ h => absurd h List.not_mem_nil⟩⟩⟩⟩⟩⟩⟩⟩⟩⟩⟩⟩⟩⟩⟩⟩
theorem lw_p128 : lw_okq (⟨"PathCycleModel", "lookAtRows", "(I)I"⟩, 30) := ⟨⟨by decide +kernel, by decide +kernel⟩, List.mem_of_getElem? (i := 949) (by decide +kernel), List.mem_of_getElem? (i := 1541) (by decide +kernel), List.mem_of_getElem? (i := 1542) (by decide +kernel)⟩
def lw_privs_9 : List (MethodName × Nat) := [(⟨"PathCycleModel", "lookAtRows", "(I)I"⟩, 30)]
theorem lw_r9 : ∀ q ∈ lw_privs_9, lw_okq q := List.forall_mem_cons.mpr ⟨lw_p128, fun _ h => absurd h List.not_mem_nil⟩
def lw_privs : List (MethodName × Nat) := lw_privs_1 ++ (lw_privs_2 ++ (lw_privs_3 ++ (lw_privs_4 ++ (lw_privs_5 ++ (lw_privs_6 ++ (lw_privs_7 ++ (lw_privs_8 ++ (lw_privs_9))))))))
def lw_tbl : List Cond := k2_sels lw_privs ++ tables_1
theorem lw_privs_ok : ∀ q ∈ lw_privs, lw_okq q := by
  show ∀ q ∈ lw_privs_1 ++ (lw_privs_2 ++ (lw_privs_3 ++ (lw_privs_4 ++ (lw_privs_5 ++ (lw_privs_6 ++ (lw_privs_7 ++ (lw_privs_8 ++ (lw_privs_9)))))))), lw_okq q
  exact List.forall_mem_append.mpr ⟨lw_r1, List.forall_mem_append.mpr ⟨lw_r2, List.forall_mem_append.mpr ⟨lw_r3, List.forall_mem_append.mpr ⟨lw_r4, List.forall_mem_append.mpr ⟨lw_r5, List.forall_mem_append.mpr ⟨lw_r6, List.forall_mem_append.mpr ⟨lw_r7, List.forall_mem_append.mpr ⟨lw_r8, lw_r9⟩⟩⟩⟩⟩⟩⟩⟩
/-- the streams that the claim lets the run draw from -/
abbrev lw_cs : List Choice := [Jvm.Choice.named "NaN.bits"]
theorem lw_bits : nanBits ∈ lw_cs := by first | decide | exact List.mem_cons_self | simp [lw_cs, nanBits]

/-! ===== BEGIN words of one list among another's, by their places ===== -/
theorem goodIn_r {big : List Cond} (ws : List Cond) (ps : List Nat) (hp : ws = ps.filterMap (fun i => big[i]?)) (h : ws.all goodWord = true) : GoodIn big ws := by
  intro w hw
  have h1 := List.all_eq_true.mp h w hw
  rw [hp] at hw
  obtain ⟨i, -, hi⟩ := List.mem_filterMap.mp hw
  have hm : w ∈ big := by first | exact List.mem_of_getElem? hi | exact List.getElem?_mem hi
  exact ⟨hm, good_of_word h1⟩
theorem goodIn_app {big a b : List Cond} (ha : GoodIn big a) (hb : GoodIn big b) : GoodIn big (a ++ b) := fun w h => (List.mem_append.mp h).elim (ha w) (hb w)
theorem goodIn_ca {big a b : List Cond} {c : Cond} (ha : GoodIn big (c :: a)) (hb : GoodIn big b) : GoodIn big (c :: (a ++ b)) := fun w h => (List.mem_cons.mp h).elim (fun e => ha w (List.mem_cons.mpr (Or.inl e))) (fun h => (List.mem_append.mp h).elim (fun h => ha w (List.mem_cons.mpr (Or.inr h))) (hb w))
theorem goodIn_sub {big ws : List Cond} (hm : ∀ w ∈ ws, w ∈ big) (h : ws.all goodWord = true) : GoodIn big ws := fun w hw => ⟨hm w hw, good_of_word (List.all_eq_true.mp h w hw)⟩
/-! ===== END ===== -/

/-! ===== BEGIN new T[n][m]: the outer array a place, the inner ones among the pooled ===== -/
/-- f, but v at every address of l -/
def vr_up {α : Type} (f : Nat → α) (l : List Nat) (v : α) : Nat → α := fun a => if a ∈ l then v else f a
theorem vr_up_in {α : Type} {f : Nat → α} {l : List Nat} {v : α} {a : Nat} (h : a ∈ l) : vr_up f l v a = v := if_pos h
theorem vr_up_ne {α : Type} {f : Nat → α} {l : List Nat} {v : α} {a : Nat} (h : a ∉ l) : vr_up f l v a = f a := if_neg h
theorem vr_outer (c : ClassId) (N h0 : Nat) : ∀ i : Nat, Jvm.Free.Multi.outerC c N h0 i = arrV c N (fun j => va_rf (if j < i then some (h0 + 1 + j) else none))
  | 0 => by
    show ({ cls := c, slots := Array.replicate N .null, vm := .none } : Cell) = _
    rw [arrV_new]
    refine congrArg (arrV c N) (funext fun j => ?_)
    simp [va_rf]
  | i + 1 => by
    show (Jvm.Free.Multi.outerC c N h0 i).setSlot i (.ref (h0 + 1 + i)) = _
    rw [vr_outer c N h0 i, arrV_store]
    refine congrArg (arrV c N) (funext fun j => ?_)
    by_cases e : j = i
    · subst e
      simp [updV, va_rf]
    · by_cases h : j < i
      · simp [updV, e, h, Nat.lt_succ_of_lt h]
      · simp [updV, e, h, show ¬ j < i + 1 by omega]

/-! ===== END ===== -/

def RX0 : String := "PathCycle$Cogs"
def TX0 : u_T := fun k => match k with
  | 0 => ("PathCycle$Cogs", "known", "Z", false)
  | 1 => ("PathCycle$Cogs", "length", "I", false)
  | 2 => ("PathCycle$Cogs", "picks", "[I", true)
  | 3 => ("PathCycle$Cogs", "sorted", "[I", true)
  | _ => ("PathCycle$Cogs", "starts", "[I", true)
def tyX0 : Nat → FieldType := fun k => match k with
  | 0 => .boolean
  | 1 => .int
  | 2 => .array .int
  | 3 => .array .int
  | _ => .array .int
abbrev wsX00 : List Cond := u_ws RX0 TX0 5
theorem nmX0 : ∀ a, a < 5 → ∀ b, b < 5 → a ≠ b → (TX0 a).2.1 ≠ (TX0 b).2.1 := by decide +kernel
theorem tyX0_ok : ∀ k, k < 5 → parseFieldDescriptor (TX0 k).2.2.1 = some (tyX0 k) := by decide +kernel
abbrev cX0_init : ByteArray := prog_2_method_1_code
def yX0_init : MethodName := ⟨RX0, "<init>", "()V"⟩
abbrev cX0_search : ByteArray := prog_2_method_2_code
def yX0_search : MethodName := ⟨RX0, "search", "(LPathCycle$Wants;LPathCycle$Paths;[BI)V"⟩
abbrev cX0_sortOut : ByteArray := prog_2_method_3_code
def yX0_sortOut : MethodName := ⟨RX0, "sortOut", "(LPathCycle$Wants;LPathCycle$Paths;[B)V"⟩
abbrev cX0_pick : ByteArray := prog_2_method_4_code
def yX0_pick : MethodName := ⟨RX0, "pick", "(LPathCycle$Cogs;LPathCycle$Wants;LPathCycle$Paths;[BII)Z"⟩
abbrev cX0_fits : ByteArray := prog_2_method_5_code
def yX0_fits : MethodName := ⟨RX0, "fits", "(LPathCycle$Wants;LPathCycle$Paths;[BII)Z"⟩
def RX1 : String := "PathCycle$Cycle"
def TX1 : u_T := fun k => match k with
  | 0 => ("PathCycle$Cycle", "units", "I", false)
  | 1 => ("PathCycle$Cycle", "follows", "Z", false)
  | 2 => ("PathCycle$Cycle", "lengths", "[I", true)
  | 3 => ("PathCycle$Cycle", "steps", "[I", true)
  | 4 => ("PathCycle$Cycle", "rows", "[I", true)
  | _ => ("PathCycle$Cycle", "sizes", "[I", true)
def tyX1 : Nat → FieldType := fun k => match k with
  | 0 => .int
  | 1 => .boolean
  | 2 => .array .int
  | 3 => .array .int
  | 4 => .array .int
  | _ => .array .int
abbrev wsX10 : List Cond := u_ws RX1 TX1 6
theorem nmX1 : ∀ a, a < 6 → ∀ b, b < 6 → a ≠ b → (TX1 a).2.1 ≠ (TX1 b).2.1 := by decide +kernel
theorem tyX1_ok : ∀ k, k < 6 → parseFieldDescriptor (TX1 k).2.2.1 = some (tyX1 k) := by decide +kernel
abbrev cX1_init : ByteArray := prog_3_method_1_code
def yX1_init : MethodName := ⟨RX1, "<init>", "()V"⟩
abbrev cX1_begin : ByteArray := prog_3_method_2_code
def yX1_begin : MethodName := ⟨RX1, "begin", "()V"⟩
abbrev cX1_copyFrom : ByteArray := prog_3_method_3_code
def yX1_copyFrom : MethodName := ⟨RX1, "copyFrom", "(LPathCycle$Cycle;)V"⟩
abbrev cX1_countScans : ByteArray := prog_3_method_4_code
def yX1_countScans : MethodName := ⟨RX1, "countScans", "()I"⟩
abbrev cX1_scansBut : ByteArray := prog_3_method_5_code
def yX1_scansBut : MethodName := ⟨RX1, "scansBut", "(I)I"⟩
abbrev cX1_exchange : ByteArray := prog_3_method_6_code
def yX1_exchange : MethodName := ⟨RX1, "exchange", "(II)V"⟩
abbrev cX1_takeRows : ByteArray := prog_3_method_7_code
def yX1_takeRows : MethodName := ⟨RX1, "takeRows", "([I[I)V"⟩
abbrev cX1_ownPhase : ByteArray := prog_3_method_8_code
def yX1_ownPhase : MethodName := ⟨RX1, "ownPhase", "(II)I"⟩
def RX2 : String := "PathCycle$Fewest"
def TX2 : u_T := fun k => match k with
  | 0 => ("PathCycle$Fewest", "known", "Z", false)
  | 1 => ("PathCycle$Fewest", "product", "I", false)
  | 2 => ("PathCycle$Fewest", "best", "[I", true)
  | 3 => ("PathCycle$Fewest", "picks", "[I", true)
  | _ => ("PathCycle$Fewest", "limit", "I", false)
def tyX2 : Nat → FieldType := fun k => match k with
  | 0 => .boolean
  | 1 => .int
  | 2 => .array .int
  | 3 => .array .int
  | _ => .int
abbrev wsX20 : List Cond := u_ws RX2 TX2 5
theorem nmX2 : ∀ a, a < 5 → ∀ b, b < 5 → a ≠ b → (TX2 a).2.1 ≠ (TX2 b).2.1 := by decide +kernel
theorem tyX2_ok : ∀ k, k < 5 → parseFieldDescriptor (TX2 k).2.2.1 = some (tyX2 k) := by decide +kernel
abbrev cX2_init : ByteArray := prog_4_method_1_code
def yX2_init : MethodName := ⟨RX2, "<init>", "()V"⟩
abbrev cX2_search : ByteArray := prog_4_method_2_code
def yX2_search : MethodName := ⟨RX2, "search", "(LPathCycle$Wants;LPathCycle$Paths;I)V"⟩
abbrev cX2_pick : ByteArray := prog_4_method_3_code
def yX2_pick : MethodName := ⟨RX2, "pick", "(LPathCycle$Fewest;LPathCycle$Wants;LPathCycle$Paths;IIII)V"⟩
def RX3 : String := "PathCycle$Paths"
def TX3 : u_T := fun k => match k with
  | 0 => ("PathCycle$Paths", "count", "I", false)
  | 1 => ("PathCycle$Paths", "weighed", "Z", false)
  | 2 => ("PathCycle$Paths", "orders", "[B", true)
  | 3 => ("PathCycle$Paths", "numbers", "[S", true)
  | 4 => ("PathCycle$Paths", "weights", "[I", true)
  | _ => ("PathCycle$Paths", "spoiled", "[B", true)
def tyX3 : Nat → FieldType := fun k => match k with
  | 0 => .int
  | 1 => .boolean
  | 2 => .array .byte
  | 3 => .array .short
  | 4 => .array .int
  | _ => .array .byte
abbrev wsX30 : List Cond := u_ws RX3 TX3 6
theorem nmX3 : ∀ a, a < 6 → ∀ b, b < 6 → a ≠ b → (TX3 a).2.1 ≠ (TX3 b).2.1 := by decide +kernel
theorem tyX3_ok : ∀ k, k < 6 → parseFieldDescriptor (TX3 k).2.2.1 = some (tyX3 k) := by decide +kernel
abbrev cX3_init : ByteArray := prog_5_method_1_code
def yX3_init : MethodName := ⟨RX3, "<init>", "()V"⟩
abbrev cX3_list : ByteArray := prog_5_method_2_code
def yX3_list : MethodName := ⟨RX3, "list", "(LPathCycle$Pulses;)V"⟩
abbrev cX3_spell : ByteArray := prog_5_method_3_code
def yX3_spell : MethodName := ⟨RX3, "spell", "(ILPathCycle$Pulses;)V"⟩
abbrev cX3_keepsKinds : ByteArray := prog_5_method_4_code
def yX3_keepsKinds : MethodName := ⟨RX3, "keepsKinds", "(LPathCycle$Pulses;)Z"⟩
abbrev cX3_weigh : ByteArray := prog_5_method_5_code
def yX3_weigh : MethodName := ⟨RX3, "weigh", "(LPathCycle$Pulses;)V"⟩
abbrev cX3_isGone : ByteArray := prog_5_method_6_code
def yX3_isGone : MethodName := ⟨RX3, "isGone", "(I)Z"⟩
abbrev cX3_orderOf : ByteArray := prog_5_method_7_code
def yX3_orderOf : MethodName := ⟨RX3, "orderOf", "(II)I"⟩
abbrev cX3_changeOf : ByteArray := prog_5_method_8_code
def yX3_changeOf : MethodName := ⟨RX3, "changeOf", "(II)I"⟩
abbrev cX3_countChanges : ByteArray := prog_5_method_9_code
def yX3_countChanges : MethodName := ⟨RX3, "countChanges", "(II)I"⟩
abbrev cX3_greatestOrder : ByteArray := prog_5_method_10_code
def yX3_greatestOrder : MethodName := ⟨RX3, "greatestOrder", "(II)I"⟩
def RX4 : String := "PathCycle$Pulses"
def TX4 : u_T := fun k => match k with
  | 0 => ("PathCycle$Pulses", "n", "I", false)
  | 1 => ("PathCycle$Pulses", "most", "I", false)
  | 2 => ("PathCycle$Pulses", "kinds", "[I", true)
  | 3 => ("PathCycle$Pulses", "gradients", "[I", true)
  | 4 => ("PathCycle$Pulses", "weights", "[I", true)
  | _ => ("PathCycle$Pulses", "marks", "[B", true)
def tyX4 : Nat → FieldType := fun k => match k with
  | 0 => .int
  | 1 => .int
  | 2 => .array .int
  | 3 => .array .int
  | 4 => .array .int
  | _ => .array .byte
abbrev wsX40 : List Cond := u_ws RX4 TX4 6
theorem nmX4 : ∀ a, a < 6 → ∀ b, b < 6 → a ≠ b → (TX4 a).2.1 ≠ (TX4 b).2.1 := by decide +kernel
theorem tyX4_ok : ∀ k, k < 6 → parseFieldDescriptor (TX4 k).2.2.1 = some (tyX4 k) := by decide +kernel
abbrev cX4_init : ByteArray := prog_6_method_1_code
def yX4_init : MethodName := ⟨RX4, "<init>", "()V"⟩
abbrev cX4_begin : ByteArray := prog_6_method_2_code
def yX4_begin : MethodName := ⟨RX4, "begin", "(II)V"⟩
abbrev cX4_unmark : ByteArray := prog_6_method_3_code
def yX4_unmark : MethodName := ⟨RX4, "unmark", "()V"⟩
abbrev cX4_copyFrom : ByteArray := prog_6_method_4_code
def yX4_copyFrom : MethodName := ⟨RX4, "copyFrom", "(LPathCycle$Pulses;)V"⟩
abbrev cX4_firstWished : ByteArray := prog_6_method_5_code
def yX4_firstWished : MethodName := ⟨RX4, "firstWished", "(I)I"⟩
abbrev cX4_countMarks : ByteArray := prog_6_method_6_code
def yX4_countMarks : MethodName := ⟨RX4, "countMarks", "(II)I"⟩
def RX5 : String := "PathCycle$Scans"
def TX5 : u_T := fun k => match k with
  | 0 => ("PathCycle$Scans", "built", "Z", false)
  | 1 => ("PathCycle$Scans", "count", "I", false)
  | 2 => ("PathCycle$Scans", "units", "I", false)
  | 3 => ("PathCycle$Scans", "n", "I", false)
  | 4 => ("PathCycle$Scans", "latest", "I", false)
  | 5 => ("PathCycle$Scans", "phases", "[[I", true)
  | 6 => ("PathCycle$Scans", "turned", "[[I", true)
  | _ => ("PathCycle$Scans", "counts", "[I", true)
def tyX5 : Nat → FieldType := fun k => match k with
  | 0 => .boolean
  | 1 => .int
  | 2 => .int
  | 3 => .int
  | 4 => .int
  | 5 => .array (.array .int)
  | 6 => .array (.array .int)
  | _ => .array .int
abbrev wsX50 : List Cond := u_ws RX5 TX5 8
theorem nmX5 : ∀ a, a < 8 → ∀ b, b < 8 → a ≠ b → (TX5 a).2.1 ≠ (TX5 b).2.1 := by decide +kernel
theorem tyX5_ok : ∀ k, k < 8 → parseFieldDescriptor (TX5 k).2.2.1 = some (tyX5 k) := by decide +kernel
abbrev cX5_init : ByteArray := prog_7_method_1_code
def yX5_init : MethodName := ⟨RX5, "<init>", "()V"⟩
abbrev cX5_build : ByteArray := prog_7_method_2_code
def yX5_build : MethodName := ⟨RX5, "build", "(LPathCycle$Cycle;I)V"⟩
abbrev cX5_trackChief : ByteArray := prog_7_method_3_code
def yX5_trackChief : MethodName := ⟨RX5, "trackChief", "(LPathCycle$Paths;I)V"⟩
abbrev cX5_begin : ByteArray := prog_7_method_4_code
def yX5_begin : MethodName := ⟨RX5, "begin", "()V"⟩
abbrev cX5_addPulse : ByteArray := prog_7_method_5_code
def yX5_addPulse : MethodName := ⟨RX5, "addPulse", "(II[I[I)V"⟩
abbrev cX5_residues : ByteArray := prog_7_method_6_code
def yX5_residues : MethodName := ⟨RX5, "residues", "(LPathCycle$Paths;I)[I"⟩
abbrev cX5_tally : ByteArray := prog_7_method_7_code
def yX5_tally : MethodName := ⟨RX5, "tally", "(LPathCycle$Paths;II)[I"⟩
def RX6 : String := "PathCycle$Sum"
def TX6 : u_T := fun k => match k with
  | 0 => ("PathCycle$Sum", "units", "I", false)
  | 1 => ("PathCycle$Sum", "terms", "I", false)
  | 2 => ("PathCycle$Sum", "shifts", "[I", true)
  | 3 => ("PathCycle$Sum", "signs", "[I", true)
  | 4 => ("PathCycle$Sum", "turned", "[I", true)
  | 5 => ("PathCycle$Sum", "alive", "I", false)
  | 6 => ("PathCycle$Sum", "first", "I", false)
  | _ => ("PathCycle$Sum", "mixed", "Z", false)
def tyX6 : Nat → FieldType := fun k => match k with
  | 0 => .int
  | 1 => .int
  | 2 => .array .int
  | 3 => .array .int
  | 4 => .array .int
  | 5 => .int
  | 6 => .int
  | _ => .boolean
abbrev wsX60 : List Cond := u_ws RX6 TX6 8
theorem nmX6 : ∀ a, a < 8 → ∀ b, b < 8 → a ≠ b → (TX6 a).2.1 ≠ (TX6 b).2.1 := by decide +kernel
theorem tyX6_ok : ∀ k, k < 8 → parseFieldDescriptor (TX6 k).2.2.1 = some (tyX6 k) := by decide +kernel
abbrev cX6_init : ByteArray := prog_8_method_1_code
def yX6_init : MethodName := ⟨RX6, "<init>", "()V"⟩
abbrev cX6_begin : ByteArray := prog_8_method_2_code
def yX6_begin : MethodName := ⟨RX6, "begin", "(I)V"⟩
abbrev cX6_factor : ByteArray := prog_8_method_3_code
def yX6_factor : MethodName := ⟨RX6, "factor", "(I)V"⟩
abbrev cX6_add : ByteArray := prog_8_method_4_code
def yX6_add : MethodName := ⟨RX6, "add", "(II)V"⟩
abbrev cX6_stateOf : ByteArray := prog_8_method_5_code
def yX6_stateOf : MethodName := ⟨RX6, "stateOf", "([II)I"⟩
abbrev cX6_state : ByteArray := prog_8_method_6_code
def yX6_state : MethodName := ⟨RX6, "state", "()I"⟩
def RX7 : String := "PathCycle$Tape"
def TX7 : u_T := fun k => match k with
  | 0 => ("PathCycle$Tape", "size", "I", false)
  | 1 => ("PathCycle$Tape", "fault", "I", false)
  | 2 => ("PathCycle$Tape", "faultPlace", "I", false)
  | 3 => ("PathCycle$Tape", "place", "I", false)
  | 4 => ("PathCycle$Tape", "bytes", "[B", true)
  | 5 => ("PathCycle$Tape", "numbers", "[I", true)
  | _ => ("PathCycle$Tape", "sizes", "[I", true)
def tyX7 : Nat → FieldType := fun k => match k with
  | 0 => .int
  | 1 => .int
  | 2 => .int
  | 3 => .int
  | 4 => .array .byte
  | 5 => .array .int
  | _ => .array .int
abbrev wsX70 : List Cond := u_ws RX7 TX7 7
theorem nmX7 : ∀ a, a < 7 → ∀ b, b < 7 → a ≠ b → (TX7 a).2.1 ≠ (TX7 b).2.1 := by decide +kernel
theorem tyX7_ok : ∀ k, k < 7 → parseFieldDescriptor (TX7 k).2.2.1 = some (tyX7 k) := by decide +kernel
abbrev cX7_init : ByteArray := prog_9_method_1_code
def yX7_init : MethodName := ⟨RX7, "<init>", "()V"⟩
abbrev cX7_put : ByteArray := prog_9_method_2_code
def yX7_put : MethodName := ⟨RX7, "put", "(I)V"⟩
abbrev cX7_read : ByteArray := prog_9_method_3_code
def yX7_read : MethodName := ⟨RX7, "read", "(II)I"⟩
abbrev cX7_readRow : ByteArray := prog_9_method_4_code
def yX7_readRow : MethodName := ⟨RX7, "readRow", "(II)Z"⟩
abbrev cX7_readName : ByteArray := prog_9_method_5_code
def yX7_readName : MethodName := ⟨RX7, "readName", "(I)I"⟩
abbrev cX7_readNumbers : ByteArray := prog_9_method_6_code
def yX7_readNumbers : MethodName := ⟨RX7, "readNumbers", "(II)Z"⟩
abbrev cX7_readNumber : ByteArray := prog_9_method_7_code
def yX7_readNumber : MethodName := ⟨RX7, "readNumber", "()I"⟩
abbrev cX7_skipBlanks : ByteArray := prog_9_method_8_code
def yX7_skipBlanks : MethodName := ⟨RX7, "skipBlanks", "()V"⟩
abbrev cX7_digitHere : ByteArray := prog_9_method_9_code
def yX7_digitHere : MethodName := ⟨RX7, "digitHere", "()Z"⟩
abbrev cX7_byteHere : ByteArray := prog_9_method_10_code
def yX7_byteHere : MethodName := ⟨RX7, "byteHere", "()I"⟩
abbrev cX7_fail : ByteArray := prog_9_method_11_code
def yX7_fail : MethodName := ⟨RX7, "fail", "(II)Z"⟩
def RX8 : String := "PathCycle$Wants"
def TX8 : u_T := fun k => match k with
  | 0 => ("PathCycle$Wants", "known", "Z", false)
  | 1 => ("PathCycle$Wants", "possible", "Z", false)
  | 2 => ("PathCycle$Wants", "n", "I", false)
  | 3 => ("PathCycle$Wants", "count", "I", false)
  | 4 => ("PathCycle$Wants", "chiefs", "[I", true)
  | 5 => ("PathCycle$Wants", "common", "[I", true)
  | 6 => ("PathCycle$Wants", "othersCount", "I", false)
  | 7 => ("PathCycle$Wants", "others", "[I", true)
  | _ => ("PathCycle$Wants", "last", "[B", true)
def tyX8 : Nat → FieldType := fun k => match k with
  | 0 => .boolean
  | 1 => .boolean
  | 2 => .int
  | 3 => .int
  | 4 => .array .int
  | 5 => .array .int
  | 6 => .int
  | 7 => .array .int
  | _ => .array .byte
abbrev wsX80 : List Cond := u_ws RX8 TX8 9
theorem nmX8 : ∀ a, a < 9 → ∀ b, b < 9 → a ≠ b → (TX8 a).2.1 ≠ (TX8 b).2.1 := by decide +kernel
theorem tyX8_ok : ∀ k, k < 9 → parseFieldDescriptor (TX8 k).2.2.1 = some (tyX8 k) := by decide +kernel
abbrev cX8_init : ByteArray := prog_10_method_1_code
def yX8_init : MethodName := ⟨RX8, "<init>", "()V"⟩
abbrev cX8_gather : ByteArray := prog_10_method_2_code
def yX8_gather : MethodName := ⟨RX8, "gather", "(LPathCycle$Pulses;LPathCycle$Paths;I)V"⟩
abbrev cX8_sort : ByteArray := prog_10_method_3_code
def yX8_sort : MethodName := ⟨RX8, "sort", "(LPathCycle$Pulses;LPathCycle$Paths;I)V"⟩
abbrev cX8_gap : ByteArray := prog_10_method_4_code
def yX8_gap : MethodName := ⟨RX8, "gap", "(LPathCycle$Paths;II)I"⟩
abbrev cX8_divisorOf : ByteArray := prog_10_method_5_code
def yX8_divisorOf : MethodName := ⟨RX8, "divisorOf", "(II)I"⟩
abbrev cX8_countLeft : ByteArray := prog_10_method_6_code
def yX8_countLeft : MethodName := ⟨RX8, "countLeft", "(LPathCycle$Paths;[I)I"⟩
abbrev cX8_keepLeft : ByteArray := prog_10_method_7_code
def yX8_keepLeft : MethodName := ⟨RX8, "keepLeft", "(LPathCycle$Paths;III)I"⟩
def RX9 : String := "PathCycle"
def TX9 : u_T := fun k => match k with
  | 0 => ("PathCycle", "told", "LPathCycle$Pulses;", true)
  | 1 => ("PathCycle", "cycle", "LPathCycle$Cycle;", true)
  | 2 => ("PathCycle", "keptTold", "LPathCycle$Pulses;", true)
  | 3 => ("PathCycle", "keptCycle", "LPathCycle$Cycle;", true)
  | 4 => ("PathCycle", "kept", "Z", false)
  | 5 => ("PathCycle", "tape", "LPathCycle$Tape;", true)
  | 6 => ("PathCycle", "paths", "LPathCycle$Paths;", true)
  | 7 => ("PathCycle", "chief", "I", false)
  | 8 => ("PathCycle", "scans", "LPathCycle$Scans;", true)
  | 9 => ("PathCycle", "sum", "LPathCycle$Sum;", true)
  | 10 => ("PathCycle", "states", "[B", true)
  | 11 => ("PathCycle", "statesKnown", "Z", false)
  | 12 => ("PathCycle", "scratch", "[I", true)
  | 13 => ("PathCycle", "wants", "LPathCycle$Wants;", true)
  | 14 => ("PathCycle", "fewestSteps", "LPathCycle$Fewest;", true)
  | _ => ("PathCycle", "cogSteps", "LPathCycle$Cogs;", true)
def tyX9 : Nat → FieldType := fun k => match k with
  | 0 => .object "PathCycle$Pulses"
  | 1 => .object "PathCycle$Cycle"
  | 2 => .object "PathCycle$Pulses"
  | 3 => .object "PathCycle$Cycle"
  | 4 => .boolean
  | 5 => .object "PathCycle$Tape"
  | 6 => .object "PathCycle$Paths"
  | 7 => .int
  | 8 => .object "PathCycle$Scans"
  | 9 => .object "PathCycle$Sum"
  | 10 => .array .byte
  | 11 => .boolean
  | 12 => .array .int
  | 13 => .object "PathCycle$Wants"
  | 14 => .object "PathCycle$Fewest"
  | _ => .object "PathCycle$Cogs"
abbrev wsX90 : List Cond := u_ws RX9 TX9 16
theorem nmX9 : ∀ a, a < 16 → ∀ b, b < 16 → a ≠ b → (TX9 a).2.1 ≠ (TX9 b).2.1 := by decide +kernel
theorem tyX9_ok : ∀ k, k < 16 → parseFieldDescriptor (TX9 k).2.2.1 = some (tyX9 k) := by decide +kernel
abbrev cX9_init : ByteArray := prog_1_method_1_code
def yX9_init : MethodName := ⟨RX9, "<init>", "()V"⟩
abbrev cX9_pulses : ByteArray := prog_1_method_2_code
def yX9_pulses : MethodName := ⟨RX9, "pulses", "(II)I"⟩
abbrev cX9_kind : ByteArray := prog_1_method_3_code
def yX9_kind : MethodName := ⟨RX9, "kind", "(II)Z"⟩
abbrev cX9_turn : ByteArray := prog_1_method_4_code
def yX9_turn : MethodName := ⟨RX9, "turn", "(I)Z"⟩
abbrev cX9_counter : ByteArray := prog_1_method_5_code
def yX9_counter : MethodName := ⟨RX9, "counter", "(II)I"⟩
abbrev cX9_step : ByteArray := prog_1_method_6_code
def yX9_step : MethodName := ⟨RX9, "step", "(III)Z"⟩
abbrev cX9_gradient : ByteArray := prog_1_method_7_code
def yX9_gradient : MethodName := ⟨RX9, "gradient", "(II)Z"⟩
abbrev cX9_weight : ByteArray := prog_1_method_8_code
def yX9_weight : MethodName := ⟨RX9, "weight", "(III)Z"⟩
abbrev cX9_swap : ByteArray := prog_1_method_9_code
def yX9_swap : MethodName := ⟨RX9, "swap", "(II)Z"⟩
abbrev cX9_follow : ByteArray := prog_1_method_10_code
def yX9_follow : MethodName := ⟨RX9, "follow", "(Z)Z"⟩
abbrev cX9_wish : ByteArray := prog_1_method_11_code
def yX9_wish : MethodName := ⟨RX9, "wish", "(IZ)Z"⟩
abbrev cX9_free : ByteArray := prog_1_method_12_code
def yX9_free : MethodName := ⟨RX9, "free", "(IZ)Z"⟩
abbrev cX9_freeAll : ByteArray := prog_1_method_13_code
def yX9_freeAll : MethodName := ⟨RX9, "freeAll", "(II)I"⟩
abbrev cX9_mark : ByteArray := prog_1_method_14_code
def yX9_mark : MethodName := ⟨RX9, "mark", "(IIZ)Z"⟩
abbrev cX9_feed : ByteArray := prog_1_method_15_code
def yX9_feed : MethodName := ⟨RX9, "feed", "(IIIII)I"⟩
abbrev cX9_end : ByteArray := prog_1_method_16_code
def yX9_end : MethodName := ⟨RX9, "end", "(I)Z"⟩
abbrev cX9_rows : ByteArray := prog_1_method_17_code
def yX9_rows : MethodName := ⟨RX9, "rows", "()I"⟩
abbrev cX9_fault : ByteArray := prog_1_method_18_code
def yX9_fault : MethodName := ⟨RX9, "fault", "(I)I"⟩
abbrev cX9_lay : ByteArray := prog_1_method_19_code
def yX9_lay : MethodName := ⟨RX9, "lay", "(I)I"⟩
abbrev cX9_layFewest : ByteArray := prog_1_method_20_code
def yX9_layFewest : MethodName := ⟨RX9, "layFewest", "()Z"⟩
abbrev cX9_layCogs : ByteArray := prog_1_method_21_code
def yX9_layCogs : MethodName := ⟨RX9, "layCogs", "()Z"⟩
abbrev cX9_order : ByteArray := prog_1_method_22_code
def yX9_order : MethodName := ⟨RX9, "order", "(II)I"⟩
abbrev cX9_find : ByteArray := prog_1_method_23_code
def yX9_find : MethodName := ⟨RX9, "find", "(IIII)I"⟩
abbrev cX9_phase : ByteArray := prog_1_method_24_code
def yX9_phase : MethodName := ⟨RX9, "phase", "(II)I"⟩
abbrev cX9_residue : ByteArray := prog_1_method_25_code
def yX9_residue : MethodName := ⟨RX9, "residue", "(II)I"⟩
abbrev cX9_many : ByteArray := prog_1_method_26_code
def yX9_many : MethodName := ⟨RX9, "many", "(II)I"⟩
abbrev cX9_path : ByteArray := prog_1_method_27_code
def yX9_path : MethodName := ⟨RX9, "path", "(II)I"⟩
abbrev cX9_leak : ByteArray := prog_1_method_28_code
def yX9_leak : MethodName := ⟨RX9, "leak", "(I)I"⟩
abbrev cX9_worst : ByteArray := prog_1_method_29_code
def yX9_worst : MethodName := ⟨RX9, "worst", "(II)I"⟩
abbrev cX9_leakByWeight : ByteArray := prog_1_method_30_code
def yX9_leakByWeight : MethodName := ⟨RX9, "leakByWeight", "(II)I"⟩
abbrev cX9_leakOfWeight : ByteArray := prog_1_method_31_code
def yX9_leakOfWeight : MethodName := ⟨RX9, "leakOfWeight", "(III)I"⟩
abbrev cX9_gatherLeaks : ByteArray := prog_1_method_32_code
def yX9_gatherLeaks : MethodName := ⟨RX9, "gatherLeaks", "()I"⟩
abbrev cX9_stopped : ByteArray := prog_1_method_33_code
def yX9_stopped : MethodName := ⟨RX9, "stopped", "(I)I"⟩
abbrev cX9_isStoppedBy : ByteArray := prog_1_method_34_code
def yX9_isStoppedBy : MethodName := ⟨RX9, "isStoppedBy", "(II)Z"⟩
abbrev cX9_pace : ByteArray := prog_1_method_35_code
def yX9_pace : MethodName := ⟨RX9, "pace", "(II)I"⟩
abbrev cX9_spare : ByteArray := prog_1_method_36_code
def yX9_spare : MethodName := ⟨RX9, "spare", "(I)I"⟩
abbrev cX9_wouldBeGood : ByteArray := prog_1_method_37_code
def yX9_wouldBeGood : MethodName := ⟨RX9, "wouldBeGood", "()Z"⟩
abbrev cX9_soonest : ByteArray := prog_1_method_38_code
def yX9_soonest : MethodName := ⟨RX9, "soonest", "()I"⟩
abbrev cX9_strikeScans : ByteArray := prog_1_method_39_code
def yX9_strikeScans : MethodName := ⟨RX9, "strikeScans", "(I)V"⟩
abbrev cX9_lost : ByteArray := prog_1_method_40_code
def yX9_lost : MethodName := ⟨RX9, "lost", "(I)I"⟩
abbrev cX9_early : ByteArray := prog_1_method_41_code
def yX9_early : MethodName := ⟨RX9, "early", "(II)I"⟩
abbrev cX9_earlyState : ByteArray := prog_1_method_42_code
def yX9_earlyState : MethodName := ⟨RX9, "earlyState", "(II)I"⟩
abbrev cX9_until : ByteArray := prog_1_method_43_code
def yX9_until : MethodName := ⟨RX9, "until", "(II)I"⟩
abbrev cX9_fewest : ByteArray := prog_1_method_44_code
def yX9_fewest : MethodName := ⟨RX9, "fewest", "(I)I"⟩
abbrev cX9_cogs : ByteArray := prog_1_method_45_code
def yX9_cogs : MethodName := ⟨RX9, "cogs", "(I)I"⟩
abbrev cX9_power : ByteArray := prog_1_method_46_code
def yX9_power : MethodName := ⟨RX9, "power", "(I)J"⟩
abbrev cX9_twiceCosine : ByteArray := prog_1_method_47_code
def yX9_twiceCosine : MethodName := ⟨RX9, "twiceCosine", "(II)I"⟩
abbrev cX9_would : ByteArray := prog_1_method_48_code
def yX9_would : MethodName := ⟨RX9, "would", "(IIIII)I"⟩
abbrev cX9_share : ByteArray := prog_1_method_49_code
def yX9_share : MethodName := ⟨RX9, "share", "(I)I"⟩
abbrev cX9_part : ByteArray := prog_1_method_50_code
def yX9_part : MethodName := ⟨RX9, "part", "(I)J"⟩
abbrev cX9_dividend : ByteArray := prog_1_method_51_code
def yX9_dividend : MethodName := ⟨RX9, "dividend", "(I)I"⟩
abbrev cX9_divisor : ByteArray := prog_1_method_52_code
def yX9_divisor : MethodName := ⟨RX9, "divisor", "(I)I"⟩
abbrev cX9_bitsOfFloat : ByteArray := prog_1_method_53_code
def yX9_bitsOfFloat : MethodName := ⟨RX9, "bitsOfFloat", "(F)I"⟩
abbrev cX9_bitsOfDouble : ByteArray := prog_1_method_54_code
def yX9_bitsOfDouble : MethodName := ⟨RX9, "bitsOfDouble", "(D)J"⟩
abbrev cX9_image : ByteArray := prog_1_method_55_code
def yX9_image : MethodName := ⟨RX9, "image", "(Z)Z"⟩
abbrev cX9_look : ByteArray := prog_1_method_56_code
def yX9_look : MethodName := ⟨RX9, "look", "(I)I"⟩
abbrev cX9_lookAtParts : ByteArray := prog_1_method_57_code
def yX9_lookAtParts : MethodName := ⟨RX9, "lookAtParts", "(I)I"⟩
abbrev cX9_isPulse : ByteArray := prog_1_method_58_code
def yX9_isPulse : MethodName := ⟨RX9, "isPulse", "(I)Z"⟩
abbrev cX9_isRow : ByteArray := prog_1_method_59_code
def yX9_isRow : MethodName := ⟨RX9, "isRow", "(I)Z"⟩
abbrev cX9_isCounter : ByteArray := prog_1_method_60_code
def yX9_isCounter : MethodName := ⟨RX9, "isCounter", "(I)Z"⟩
abbrev cX9_isPath : ByteArray := prog_1_method_61_code
def yX9_isPath : MethodName := ⟨RX9, "isPath", "(I)Z"⟩
abbrev cX9_isScan : ByteArray := prog_1_method_62_code
def yX9_isScan : MethodName := ⟨RX9, "isScan", "(I)Z"⟩
abbrev cX9_isGone : ByteArray := prog_1_method_63_code
def yX9_isGone : MethodName := ⟨RX9, "isGone", "(I)Z"⟩
abbrev cX9_matters : ByteArray := prog_1_method_64_code
def yX9_matters : MethodName := ⟨RX9, "matters", "(I)Z"⟩
abbrev cX9_isIn : ByteArray := prog_1_method_65_code
def yX9_isIn : MethodName := ⟨RX9, "isIn", "(II)Z"⟩
abbrev cX9_count : ByteArray := prog_1_method_66_code
def yX9_count : MethodName := ⟨RX9, "count", "(I)I"⟩
abbrev cX9_countWeights : ByteArray := prog_1_method_67_code
def yX9_countWeights : MethodName := ⟨RX9, "countWeights", "(I)I"⟩
abbrev cX9_member : ByteArray := prog_1_method_68_code
def yX9_member : MethodName := ⟨RX9, "member", "(II)I"⟩
abbrev cX9_stateOf : ByteArray := prog_1_method_69_code
def yX9_stateOf : MethodName := ⟨RX9, "stateOf", "(I)I"⟩
abbrev cX9_buildScans : ByteArray := prog_1_method_70_code
def yX9_buildScans : MethodName := ⟨RX9, "buildScans", "()V"⟩
abbrev cX9_weighPaths : ByteArray := prog_1_method_71_code
def yX9_weighPaths : MethodName := ⟨RX9, "weighPaths", "()V"⟩
abbrev cX9_gatherWants : ByteArray := prog_1_method_72_code
def yX9_gatherWants : MethodName := ⟨RX9, "gatherWants", "()V"⟩
abbrev cX9_findFewest : ByteArray := prog_1_method_73_code
def yX9_findFewest : MethodName := ⟨RX9, "findFewest", "()V"⟩
abbrev cX9_findCogs : ByteArray := prog_1_method_74_code
def yX9_findCogs : MethodName := ⟨RX9, "findCogs", "()V"⟩
abbrev cX9_pathsTold : ByteArray := prog_1_method_75_code
def yX9_pathsTold : MethodName := ⟨RX9, "pathsTold", "()V"⟩
abbrev cX9_goneTold : ByteArray := prog_1_method_76_code
def yX9_goneTold : MethodName := ⟨RX9, "goneTold", "()V"⟩
abbrev cX9_cycleTold : ByteArray := prog_1_method_77_code
def yX9_cycleTold : MethodName := ⟨RX9, "cycleTold", "()V"⟩
abbrev cX9_searchesTold : ByteArray := prog_1_method_78_code
def yX9_searchesTold : MethodName := ⟨RX9, "searchesTold", "()V"⟩
def RX10 : String := "PathCycleModel"
def TX10 : u_T := fun k => match k with
  | 0 => ("PathCycleModel", "told", "I", false)
  | 1 => ("PathCycleModel", "now", "[I", true)
  | 2 => ("PathCycleModel", "areStates", "Z", false)
  | 3 => ("PathCycleModel", "pathMany", "I", false)
  | 4 => ("PathCycleModel", "orders", "[I", true)
  | 5 => ("PathCycleModel", "tape", "[I", true)
  | 6 => ("PathCycleModel", "taped", "I", false)
  | 7 => ("PathCycleModel", "faultKind", "I", false)
  | 8 => ("PathCycleModel", "faultPlace", "I", false)
  | 9 => ("PathCycleModel", "at", "I", false)
  | 10 => ("PathCycleModel", "stop", "I", false)
  | 11 => ("PathCycleModel", "readLong", "[I", true)
  | 12 => ("PathCycleModel", "readRow", "[I", true)
  | 13 => ("PathCycleModel", "phases", "[I", true)
  | 14 => ("PathCycleModel", "counts", "[I", true)
  | 15 => ("PathCycleModel", "primitive", "[J", true)
  | 16 => ("PathCycleModel", "degree", "I", false)
  | 17 => ("PathCycleModel", "left", "[J", true)
  | 18 => ("PathCycleModel", "table", "[J", true)
  | 19 => ("PathCycleModel", "degrees", "[I", true)
  | 20 => ("PathCycleModel", "states", "[I", true)
  | 21 => ("PathCycleModel", "differs", "[I", true)
  | 22 => ("PathCycleModel", "must", "[Z", true)
  | 23 => ("PathCycleModel", "mattering", "I", false)
  | 24 => ("PathCycleModel", "number", "[I", true)
  | 25 => ("PathCycleModel", "best", "[I", true)
  | 26 => ("PathCycleModel", "heavy", "[I", true)
  | 27 => ("PathCycleModel", "soFar", "[I", true)
  | 28 => ("PathCycleModel", "hasImage", "Z", false)
  | _ => ("PathCycleModel", "images", "[I", true)
def tyX10 : Nat → FieldType := fun k => match k with
  | 0 => .int
  | 1 => .array .int
  | 2 => .boolean
  | 3 => .int
  | 4 => .array .int
  | 5 => .array .int
  | 6 => .int
  | 7 => .int
  | 8 => .int
  | 9 => .int
  | 10 => .int
  | 11 => .array .int
  | 12 => .array .int
  | 13 => .array .int
  | 14 => .array .int
  | 15 => .array .long
  | 16 => .int
  | 17 => .array .long
  | 18 => .array .long
  | 19 => .array .int
  | 20 => .array .int
  | 21 => .array .int
  | 22 => .array .boolean
  | 23 => .int
  | 24 => .array .int
  | 25 => .array .int
  | 26 => .array .int
  | 27 => .array .int
  | 28 => .boolean
  | _ => .array .int
abbrev wsX100 : List Cond := u_ws RX10 TX10 30
theorem nmX10 : ∀ a, a < 30 → ∀ b, b < 30 → a ≠ b → (TX10 a).2.1 ≠ (TX10 b).2.1 := by decide +kernel
theorem tyX10_ok : ∀ k, k < 30 → parseFieldDescriptor (TX10 k).2.2.1 = some (tyX10 k) := by decide +kernel
abbrev cX10_isIn : ByteArray := prog_12_method_2_code
def yX10_isIn : MethodName := ⟨RX10, "isIn", "(III)Z"⟩
abbrev cX10_n : ByteArray := prog_12_method_3_code
def yX10_n : MethodName := ⟨RX10, "n", "()I"⟩
abbrev cX10_m : ByteArray := prog_12_method_4_code
def yX10_m : MethodName := ⟨RX10, "m", "()I"⟩
abbrev cX10_turnOf : ByteArray := prog_12_method_5_code
def yX10_turnOf : MethodName := ⟨RX10, "turnOf", "()I"⟩
abbrev cX10_follows : ByteArray := prog_12_method_6_code
def yX10_follows : MethodName := ⟨RX10, "follows", "()Z"⟩
abbrev cX10_weightOf : ByteArray := prog_12_method_7_code
def yX10_weightOf : MethodName := ⟨RX10, "weightOf", "(II)I"⟩
abbrev cX10_lengthOf : ByteArray := prog_12_method_8_code
def yX10_lengthOf : MethodName := ⟨RX10, "lengthOf", "(I)I"⟩
abbrev cX10_stepOf : ByteArray := prog_12_method_9_code
def yX10_stepOf : MethodName := ⟨RX10, "stepOf", "(II)I"⟩
abbrev cX10_rowLong : ByteArray := prog_12_method_10_code
def yX10_rowLong : MethodName := ⟨RX10, "rowLong", "(I)I"⟩
abbrev cX10_rowOf : ByteArray := prog_12_method_11_code
def yX10_rowOf : MethodName := ⟨RX10, "rowOf", "(II)I"⟩
abbrev cX10_isPulse : ByteArray := prog_12_method_12_code
def yX10_isPulse : MethodName := ⟨RX10, "isPulse", "(I)Z"⟩
abbrev cX10_isCounter : ByteArray := prog_12_method_13_code
def yX10_isCounter : MethodName := ⟨RX10, "isCounter", "(I)Z"⟩
abbrev cX10_mayFollow : ByteArray := prog_12_method_14_code
def yX10_mayFollow : MethodName := ⟨RX10, "mayFollow", "(III)Z"⟩
abbrev cX10_orderOf : ByteArray := prog_12_method_15_code
def yX10_orderOf : MethodName := ⟨RX10, "orderOf", "(II)I"⟩
abbrev cX10_changeOf : ByteArray := prog_12_method_16_code
def yX10_changeOf : MethodName := ⟨RX10, "changeOf", "(II)I"⟩
abbrev cX10_laysPaths : ByteArray := prog_12_method_17_code
def yX10_laysPaths : MethodName := ⟨RX10, "laysPaths", "()V"⟩
abbrev cX10_init : ByteArray := prog_12_method_18_code
def yX10_init : MethodName := ⟨RX10, "<init>", "()V"⟩
abbrev cX10_isPath : ByteArray := prog_12_method_19_code
def yX10_isPath : MethodName := ⟨RX10, "isPath", "(I)Z"⟩
abbrev cX10_isWished : ByteArray := prog_12_method_20_code
def yX10_isWished : MethodName := ⟨RX10, "isWished", "(I)Z"⟩
abbrev cX10_isFree : ByteArray := prog_12_method_21_code
def yX10_isFree : MethodName := ⟨RX10, "isFree", "(I)Z"⟩
abbrev cX10_chief : ByteArray := prog_12_method_22_code
def yX10_chief : MethodName := ⟨RX10, "chief", "()I"⟩
abbrev cX10_isSpoiled : ByteArray := prog_12_method_23_code
def yX10_isSpoiled : MethodName := ⟨RX10, "isSpoiled", "(I)Z"⟩
abbrev cX10_size : ByteArray := prog_12_method_24_code
def yX10_size : MethodName := ⟨RX10, "size", "(I)I"⟩
abbrev cX10_weighs : ByteArray := prog_12_method_25_code
def yX10_weighs : MethodName := ⟨RX10, "weighs", "(I)I"⟩
abbrev cX10_isGone : ByteArray := prog_12_method_26_code
def yX10_isGone : MethodName := ⟨RX10, "isGone", "(I)Z"⟩
abbrev cX10_wishesNothing : ByteArray := prog_12_method_27_code
def yX10_wishesNothing : MethodName := ⟨RX10, "wishesNothing", "()V"⟩
abbrev cX10_clearsCycle : ByteArray := prog_12_method_28_code
def yX10_clearsCycle : MethodName := ⟨RX10, "clearsCycle", "()V"⟩
abbrev cX10_pulses : ByteArray := prog_12_method_29_code
def yX10_pulses : MethodName := ⟨RX10, "pulses", "(II)I"⟩
abbrev cX10_kind : ByteArray := prog_12_method_30_code
def yX10_kind : MethodName := ⟨RX10, "kind", "(II)Z"⟩
abbrev cX10_turn : ByteArray := prog_12_method_31_code
def yX10_turn : MethodName := ⟨RX10, "turn", "(I)Z"⟩
abbrev cX10_scans : ByteArray := prog_12_method_32_code
def yX10_scans : MethodName := ⟨RX10, "scans", "()I"⟩
abbrev cX10_counter : ByteArray := prog_12_method_33_code
def yX10_counter : MethodName := ⟨RX10, "counter", "(II)I"⟩
abbrev cX10_isSource : ByteArray := prog_12_method_34_code
def yX10_isSource : MethodName := ⟨RX10, "isSource", "(I)Z"⟩
abbrev cX10_step : ByteArray := prog_12_method_35_code
def yX10_step : MethodName := ⟨RX10, "step", "(III)Z"⟩
abbrev cX10_gradient : ByteArray := prog_12_method_36_code
def yX10_gradient : MethodName := ⟨RX10, "gradient", "(II)Z"⟩
abbrev cX10_weight : ByteArray := prog_12_method_37_code
def yX10_weight : MethodName := ⟨RX10, "weight", "(III)Z"⟩
abbrev cX10_swaps : ByteArray := prog_12_method_38_code
def yX10_swaps : MethodName := ⟨RX10, "swaps", "(II)V"⟩
abbrev cX10_swap : ByteArray := prog_12_method_39_code
def yX10_swap : MethodName := ⟨RX10, "swap", "(II)Z"⟩
abbrev cX10_follow : ByteArray := prog_12_method_40_code
def yX10_follow : MethodName := ⟨RX10, "follow", "(Z)Z"⟩
abbrev cX10_becomes : ByteArray := prog_12_method_41_code
def yX10_becomes : MethodName := ⟨RX10, "becomes", "(IIZ)Z"⟩
abbrev cX10_wish : ByteArray := prog_12_method_42_code
def yX10_wish : MethodName := ⟨RX10, "wish", "(IZ)Z"⟩
abbrev cX10_free : ByteArray := prog_12_method_43_code
def yX10_free : MethodName := ⟨RX10, "free", "(IZ)Z"⟩
abbrev cX10_freeAll : ByteArray := prog_12_method_44_code
def yX10_freeAll : MethodName := ⟨RX10, "freeAll", "(II)I"⟩
abbrev cX10_types : ByteArray := prog_12_method_45_code
def yX10_types : MethodName := ⟨RX10, "types", "(I)V"⟩
abbrev cX10_feed : ByteArray := prog_12_method_46_code
def yX10_feed : MethodName := ⟨RX10, "feed", "(IIIII)I"⟩
abbrev cX10_end : ByteArray := prog_12_method_47_code
def yX10_end : MethodName := ⟨RX10, "end", "(I)Z"⟩
abbrev cX10_here : ByteArray := prog_12_method_48_code
def yX10_here : MethodName := ⟨RX10, "here", "()I"⟩
abbrev cX10_behindBlanks : ByteArray := prog_12_method_49_code
def yX10_behindBlanks : MethodName := ⟨RX10, "behindBlanks", "()I"⟩
abbrev cX10_isDigit : ByteArray := prog_12_method_50_code
def yX10_isDigit : MethodName := ⟨RX10, "isDigit", "(I)Z"⟩
abbrev cX10_errs : ByteArray := prog_12_method_51_code
def yX10_errs : MethodName := ⟨RX10, "errs", "(II)Z"⟩
abbrev cX10_readName : ByteArray := prog_12_method_52_code
def yX10_readName : MethodName := ⟨RX10, "readName", "()I"⟩
abbrev cX10_readLine : ByteArray := prog_12_method_53_code
def yX10_readLine : MethodName := ⟨RX10, "readLine", "()Z"⟩
abbrev cX10_rows : ByteArray := prog_12_method_54_code
def yX10_rows : MethodName := ⟨RX10, "rows", "()I"⟩
abbrev cX10_fault : ByteArray := prog_12_method_55_code
def yX10_fault : MethodName := ⟨RX10, "fault", "(I)I"⟩
abbrev cX10_rest : ByteArray := prog_12_method_56_code
def yX10_rest : MethodName := ⟨RX10, "rest", "(I)I"⟩
abbrev cX10_ownPhase : ByteArray := prog_12_method_57_code
def yX10_ownPhase : MethodName := ⟨RX10, "ownPhase", "(II)I"⟩
abbrev cX10_laysPhases : ByteArray := prog_12_method_58_code
def yX10_laysPhases : MethodName := ⟨RX10, "laysPhases", "()V"⟩
abbrev cX10_residueOf : ByteArray := prog_12_method_59_code
def yX10_residueOf : MethodName := ⟨RX10, "residueOf", "(II)I"⟩
abbrev cX10_laysPrimitive : ByteArray := prog_12_method_60_code
def yX10_laysPrimitive : MethodName := ⟨RX10, "laysPrimitive", "()V"⟩
abbrev cX10_dividesBy : ByteArray := prog_12_method_61_code
def yX10_dividesBy : MethodName := ⟨RX10, "dividesBy", "(II)I"⟩
abbrev cX10_isNothing : ByteArray := prog_12_method_62_code
def yX10_isNothing : MethodName := ⟨RX10, "isNothing", "()Z"⟩
abbrev cX10_isOneAlone : ByteArray := prog_12_method_63_code
def yX10_isOneAlone : MethodName := ⟨RX10, "isOneAlone", "()Z"⟩
abbrev cX10_stateNow : ByteArray := prog_12_method_64_code
def yX10_stateNow : MethodName := ⟨RX10, "stateNow", "()I"⟩
abbrev cX10_countsFirst : ByteArray := prog_12_method_65_code
def yX10_countsFirst : MethodName := ⟨RX10, "countsFirst", "(II)V"⟩
abbrev cX10_stateOf : ByteArray := prog_12_method_66_code
def yX10_stateOf : MethodName := ⟨RX10, "stateOf", "(I)I"⟩
abbrev cX10_isOther : ByteArray := prog_12_method_67_code
def yX10_isOther : MethodName := ⟨RX10, "isOther", "(I)Z"⟩
abbrev cX10_isLeak : ByteArray := prog_12_method_68_code
def yX10_isLeak : MethodName := ⟨RX10, "isLeak", "(I)Z"⟩
abbrev cX10_isLost : ByteArray := prog_12_method_69_code
def yX10_isLost : MethodName := ⟨RX10, "isLost", "(I)Z"⟩
abbrev cX10_leaks : ByteArray := prog_12_method_70_code
def yX10_leaks : MethodName := ⟨RX10, "leaks", "()I"⟩
abbrev cX10_losts : ByteArray := prog_12_method_71_code
def yX10_losts : MethodName := ⟨RX10, "losts", "()I"⟩
abbrev cX10_isGood : ByteArray := prog_12_method_72_code
def yX10_isGood : MethodName := ⟨RX10, "isGood", "()Z"⟩
abbrev cX10_matters : ByteArray := prog_12_method_73_code
def yX10_matters : MethodName := ⟨RX10, "matters", "(IIZ)V"⟩
abbrev cX10_laysMattering : ByteArray := prog_12_method_74_code
def yX10_laysMattering : MethodName := ⟨RX10, "laysMattering", "()Z"⟩
abbrev cX10_isLeftBySteps : ByteArray := prog_12_method_75_code
def yX10_isLeftBySteps : MethodName := ⟨RX10, "isLeftBySteps", "(I)Z"⟩
abbrev cX10_isLeftByCogs : ByteArray := prog_12_method_76_code
def yX10_isLeftByCogs : MethodName := ⟨RX10, "isLeftByCogs", "(II)Z"⟩
abbrev cX10_doSteps : ByteArray := prog_12_method_77_code
def yX10_doSteps : MethodName := ⟨RX10, "doSteps", "()Z"⟩
abbrev cX10_doCogs : ByteArray := prog_12_method_78_code
def yX10_doCogs : MethodName := ⟨RX10, "doCogs", "(I)Z"⟩
abbrev cX10_product : ByteArray := prog_12_method_79_code
def yX10_product : MethodName := ⟨RX10, "product", "()I"⟩
abbrev cX10_goesOn : ByteArray := prog_12_method_80_code
def yX10_goesOn : MethodName := ⟨RX10, "goesOn", "(II)Z"⟩
abbrev cX10_nextNumber : ByteArray := prog_12_method_81_code
def yX10_nextNumber : MethodName := ⟨RX10, "nextNumber", "(III)I"⟩
abbrev cX10_laysFewest : ByteArray := prog_12_method_82_code
def yX10_laysFewest : MethodName := ⟨RX10, "laysFewest", "()I"⟩
abbrev cX10_laysCogs : ByteArray := prog_12_method_83_code
def yX10_laysCogs : MethodName := ⟨RX10, "laysCogs", "()I"⟩
abbrev cX10_fewest : ByteArray := prog_12_method_84_code
def yX10_fewest : MethodName := ⟨RX10, "fewest", "(I)I"⟩
abbrev cX10_cogs : ByteArray := prog_12_method_85_code
def yX10_cogs : MethodName := ⟨RX10, "cogs", "(I)I"⟩
abbrev cX10_layFewest : ByteArray := prog_12_method_86_code
def yX10_layFewest : MethodName := ⟨RX10, "layFewest", "()I"⟩
abbrev cX10_layCogs : ByteArray := prog_12_method_87_code
def yX10_layCogs : MethodName := ⟨RX10, "layCogs", "()I"⟩
abbrev cX10_lay : ByteArray := prog_12_method_88_code
def yX10_lay : MethodName := ⟨RX10, "lay", "(I)I"⟩
abbrev cX10_isStep : ByteArray := prog_12_method_89_code
def yX10_isStep : MethodName := ⟨RX10, "isStep", "(I)Z"⟩
abbrev cX10_would : ByteArray := prog_12_method_90_code
def yX10_would : MethodName := ⟨RX10, "would", "(IIIII)I"⟩
abbrev cX10_order : ByteArray := prog_12_method_91_code
def yX10_order : MethodName := ⟨RX10, "order", "(II)I"⟩
abbrev cX10_find : ByteArray := prog_12_method_92_code
def yX10_find : MethodName := ⟨RX10, "find", "(IIII)I"⟩
abbrev cX10_isScan : ByteArray := prog_12_method_93_code
def yX10_isScan : MethodName := ⟨RX10, "isScan", "(I)Z"⟩
abbrev cX10_phase : ByteArray := prog_12_method_94_code
def yX10_phase : MethodName := ⟨RX10, "phase", "(II)I"⟩
abbrev cX10_residue : ByteArray := prog_12_method_95_code
def yX10_residue : MethodName := ⟨RX10, "residue", "(II)I"⟩
abbrev cX10_many : ByteArray := prog_12_method_96_code
def yX10_many : MethodName := ⟨RX10, "many", "(II)I"⟩
abbrev cX10_changesOf : ByteArray := prog_12_method_97_code
def yX10_changesOf : MethodName := ⟨RX10, "changesOf", "(I)I"⟩
abbrev cX10_greatestOrder : ByteArray := prog_12_method_98_code
def yX10_greatestOrder : MethodName := ⟨RX10, "greatestOrder", "(I)I"⟩
abbrev cX10_one : ByteArray := prog_12_method_99_code
def yX10_one : MethodName := ⟨RX10, "one", "(Z)I"⟩
abbrev cX10_path : ByteArray := prog_12_method_100_code
def yX10_path : MethodName := ⟨RX10, "path", "(II)I"⟩
abbrev cX10_leak : ByteArray := prog_12_method_101_code
def yX10_leak : MethodName := ⟨RX10, "leak", "(I)I"⟩
abbrev cX10_lost : ByteArray := prog_12_method_102_code
def yX10_lost : MethodName := ⟨RX10, "lost", "(I)I"⟩
abbrev cX10_worst : ByteArray := prog_12_method_103_code
def yX10_worst : MethodName := ⟨RX10, "worst", "(II)I"⟩
abbrev cX10_isStoppedBy : ByteArray := prog_12_method_104_code
def yX10_isStoppedBy : MethodName := ⟨RX10, "isStoppedBy", "(III)Z"⟩
abbrev cX10_stopped : ByteArray := prog_12_method_105_code
def yX10_stopped : MethodName := ⟨RX10, "stopped", "(I)I"⟩
abbrev cX10_spare : ByteArray := prog_12_method_106_code
def yX10_spare : MethodName := ⟨RX10, "spare", "(I)I"⟩
abbrev cX10_isGoodSoFar : ByteArray := prog_12_method_107_code
def yX10_isGoodSoFar : MethodName := ⟨RX10, "isGoodSoFar", "()Z"⟩
abbrev cX10_areAnyGone : ByteArray := prog_12_method_108_code
def yX10_areAnyGone : MethodName := ⟨RX10, "areAnyGone", "()Z"⟩
abbrev cX10_soonest : ByteArray := prog_12_method_109_code
def yX10_soonest : MethodName := ⟨RX10, "soonest", "()I"⟩
abbrev cX10_early : ByteArray := prog_12_method_110_code
def yX10_early : MethodName := ⟨RX10, "early", "(II)I"⟩
abbrev cX10_until : ByteArray := prog_12_method_111_code
def yX10_until : MethodName := ⟨RX10, "until", "(II)I"⟩
abbrev cX10_power : ByteArray := prog_12_method_112_code
def yX10_power : MethodName := ⟨RX10, "power", "(I)J"⟩
abbrev cX10_above : ByteArray := prog_12_method_113_code
def yX10_above : MethodName := ⟨RX10, "above", "(I)I"⟩
abbrev cX10_below : ByteArray := prog_12_method_114_code
def yX10_below : MethodName := ⟨RX10, "below", "(I)I"⟩
abbrev cX10_share : ByteArray := prog_12_method_115_code
def yX10_share : MethodName := ⟨RX10, "share", "(I)I"⟩
abbrev cX10_part : ByteArray := prog_12_method_116_code
def yX10_part : MethodName := ⟨RX10, "part", "(I)J"⟩
abbrev cX10_image : ByteArray := prog_12_method_117_code
def yX10_image : MethodName := ⟨RX10, "image", "(Z)Z"⟩
abbrev cX10_manyOf : ByteArray := prog_12_method_118_code
def yX10_manyOf : MethodName := ⟨RX10, "manyOf", "(I)I"⟩
abbrev cX10_weightsOf : ByteArray := prog_12_method_119_code
def yX10_weightsOf : MethodName := ⟨RX10, "weightsOf", "(Z)I"⟩
abbrev cX10_lookAtRows : ByteArray := prog_12_method_120_code
def yX10_lookAtRows : MethodName := ⟨RX10, "lookAtRows", "(I)I"⟩
abbrev cX10_look : ByteArray := prog_12_method_121_code
def yX10_look : MethodName := ⟨RX10, "look", "(I)I"⟩
def RJx145de : String := "java/io/Serializable"
def TJx145de : u_T := fun k => match k with
  | _ => ("", "", "", false)
def tyJx145de : Nat → FieldType := fun k => match k with
  | _ => .int
abbrev wsJx145de0 : List Cond := u_ws RJx145de TJx145de 0
theorem nmJx145de : ∀ a, a < 0 → ∀ b, b < 0 → a ≠ b → (TJx145de a).2.1 ≠ (TJx145de b).2.1 := by decide +kernel
theorem tyJx145de_ok : ∀ k, k < 0 → parseFieldDescriptor (TJx145de k).2.2.1 = some (tyJx145de k) := by decide +kernel
def RJxb160c : String := "java/lang/Comparable"
def TJxb160c : u_T := fun k => match k with
  | _ => ("", "", "", false)
def tyJxb160c : Nat → FieldType := fun k => match k with
  | _ => .int
abbrev wsJxb160c0 : List Cond := u_ws RJxb160c TJxb160c 0
theorem nmJxb160c : ∀ a, a < 0 → ∀ b, b < 0 → a ≠ b → (TJxb160c a).2.1 ≠ (TJxb160c b).2.1 := by decide +kernel
theorem tyJxb160c_ok : ∀ k, k < 0 → parseFieldDescriptor (TJxb160c k).2.2.1 = some (tyJxb160c k) := by decide +kernel
def RJxe99ae : String := "java/lang/Double"
def TJxe99ae : u_T := fun k => match k with
  | _ => ("", "", "", false)
def tyJxe99ae : Nat → FieldType := fun k => match k with
  | _ => .int
abbrev wsJxe99ae0 : List Cond := u_ws RJxe99ae TJxe99ae 0
theorem nmJxe99ae : ∀ a, a < 0 → ∀ b, b < 0 → a ≠ b → (TJxe99ae a).2.1 ≠ (TJxe99ae b).2.1 := by decide +kernel
theorem tyJxe99ae_ok : ∀ k, k < 0 → parseFieldDescriptor (TJxe99ae k).2.2.1 = some (tyJxe99ae k) := by decide +kernel
abbrev cJxe99ae_isNaN_b9ae7 : ByteArray := prog_13_method_6_code
def yJxe99ae_isNaN_b9ae7 : MethodName := ⟨RJxe99ae, "isNaN", "(D)Z"⟩
abbrev cJxe99ae_doubleToLongBits_ccdee : ByteArray := prog_13_method_23_code
def yJxe99ae_doubleToLongBits_ccdee : MethodName := ⟨RJxe99ae, "doubleToLongBits", "(D)J"⟩
def RJxf58ca : String := "java/lang/Float"
def TJxf58ca : u_T := fun k => match k with
  | _ => ("", "", "", false)
def tyJxf58ca : Nat → FieldType := fun k => match k with
  | _ => .int
abbrev wsJxf58ca0 : List Cond := u_ws RJxf58ca TJxf58ca 0
theorem nmJxf58ca : ∀ a, a < 0 → ∀ b, b < 0 → a ≠ b → (TJxf58ca a).2.1 ≠ (TJxf58ca b).2.1 := by decide +kernel
theorem tyJxf58ca_ok : ∀ k, k < 0 → parseFieldDescriptor (TJxf58ca k).2.2.1 = some (tyJxf58ca k) := by decide +kernel
abbrev cJxf58ca_isNaN_12338 : ByteArray := prog_14_method_6_code
def yJxf58ca_isNaN_12338 : MethodName := ⟨RJxf58ca, "isNaN", "(F)Z"⟩
abbrev cJxf58ca_floatToIntBits_5c35a : ByteArray := prog_14_method_24_code
def yJxf58ca_floatToIntBits_5c35a : MethodName := ⟨RJxf58ca, "floatToIntBits", "(F)I"⟩
def RJ9 : String := "java/lang/Math"
def TJ9 : u_T := fun k => match k with
  | _ => ("", "", "", false)
def tyJ9 : Nat → FieldType := fun k => match k with
  | _ => .int
abbrev wsJ90 : List Cond := u_ws RJ9 TJ9 0
theorem nmJ9 : ∀ a, a < 0 → ∀ b, b < 0 → a ≠ b → (TJ9 a).2.1 ≠ (TJ9 b).2.1 := by decide +kernel
theorem tyJ9_ok : ∀ k, k < 0 → parseFieldDescriptor (TJ9 k).2.2.1 = some (tyJ9 k) := by decide +kernel
abbrev cJ9_floorMod_7cf53 : ByteArray := prog_15_method_50_code
def yJ9_floorMod_7cf53 : MethodName := ⟨RJ9, "floorMod", "(II)I"⟩
abbrev cJ9_abs_0f7a4 : ByteArray := prog_15_method_59_code
def yJ9_abs_0f7a4 : MethodName := ⟨RJ9, "abs", "(I)I"⟩
abbrev cJ9_max_7cf53 : ByteArray := prog_15_method_65_code
def yJ9_max_7cf53 : MethodName := ⟨RJ9, "max", "(II)I"⟩
abbrev cJ9_min_7cf53 : ByteArray := prog_15_method_69_code
def yJ9_min_7cf53 : MethodName := ⟨RJ9, "min", "(II)I"⟩
def RJxd2413 : String := "java/lang/Number"
def TJxd2413 : u_T := fun k => match k with
  | _ => ("", "", "", false)
def tyJxd2413 : Nat → FieldType := fun k => match k with
  | _ => .int
abbrev wsJxd24130 : List Cond := u_ws RJxd2413 TJxd2413 0
theorem nmJxd2413 : ∀ a, a < 0 → ∀ b, b < 0 → a ≠ b → (TJxd2413 a).2.1 ≠ (TJxd2413 b).2.1 := by decide +kernel
theorem tyJxd2413_ok : ∀ k, k < 0 → parseFieldDescriptor (TJxd2413 k).2.2.1 = some (tyJxd2413 k) := by decide +kernel
def RJ10 : String := "java/lang/System"
def TJ10 : u_T := fun k => match k with
  | _ => ("", "", "", false)
def tyJ10 : Nat → FieldType := fun k => match k with
  | _ => .int
abbrev wsJ100 : List Cond := u_ws RJ10 TJ10 0
theorem nmJ10 : ∀ a, a < 0 → ∀ b, b < 0 → a ≠ b → (TJ10 a).2.1 ≠ (TJ10 b).2.1 := by decide +kernel
theorem tyJ10_ok : ∀ k, k < 0 → parseFieldDescriptor (TJ10 k).2.2.1 = some (tyJ10 k) := by decide +kernel
def RJxfd54e : String := "java/lang/constant/Constable"
def TJxfd54e : u_T := fun k => match k with
  | _ => ("", "", "", false)
def tyJxfd54e : Nat → FieldType := fun k => match k with
  | _ => .int
abbrev wsJxfd54e0 : List Cond := u_ws RJxfd54e TJxfd54e 0
theorem nmJxfd54e : ∀ a, a < 0 → ∀ b, b < 0 → a ≠ b → (TJxfd54e a).2.1 ≠ (TJxfd54e b).2.1 := by decide +kernel
theorem tyJxfd54e_ok : ∀ k, k < 0 → parseFieldDescriptor (TJxfd54e k).2.2.1 = some (tyJxfd54e k) := by decide +kernel
def RJx3cf43 : String := "java/lang/constant/ConstantDesc"
def TJx3cf43 : u_T := fun k => match k with
  | _ => ("", "", "", false)
def tyJx3cf43 : Nat → FieldType := fun k => match k with
  | _ => .int
abbrev wsJx3cf430 : List Cond := u_ws RJx3cf43 TJx3cf43 0
theorem nmJx3cf43 : ∀ a, a < 0 → ∀ b, b < 0 → a ≠ b → (TJx3cf43 a).2.1 ≠ (TJx3cf43 b).2.1 := by decide +kernel
theorem tyJx3cf43_ok : ∀ k, k < 0 → parseFieldDescriptor (TJx3cf43 k).2.2.1 = some (tyJx3cf43 k) := by decide +kernel
def RJ7 : String := "java/util/Arrays"
def TJ7 : u_T := fun k => match k with
  | _ => ("", "", "", false)
def tyJ7 : Nat → FieldType := fun k => match k with
  | _ => .int
abbrev wsJ70 : List Cond := u_ws RJ7 TJ7 0
theorem nmJ7 : ∀ a, a < 0 → ∀ b, b < 0 → a ≠ b → (TJ7 a).2.1 ≠ (TJ7 b).2.1 := by decide +kernel
theorem tyJ7_ok : ∀ k, k < 0 → parseFieldDescriptor (TJ7 k).2.2.1 = some (tyJ7 k) := by decide +kernel
abbrev cJ7_rangeCheck_23922 : ByteArray := prog_18_method_30_code
def yJ7_rangeCheck_23922 : MethodName := ⟨RJ7, "rangeCheck", "(III)V"⟩
abbrev cJ7_fill_53178 : ByteArray := prog_18_method_103_code
def yJ7_fill_53178 : MethodName := ⟨RJ7, "fill", "([II)V"⟩
abbrev cJ7_fill_fda19 : ByteArray := prog_18_method_104_code
def yJ7_fill_fda19 : MethodName := ⟨RJ7, "fill", "([IIII)V"⟩
abbrev cJ7_fill_031fb : ByteArray := prog_18_method_109_code
def yJ7_fill_031fb : MethodName := ⟨RJ7, "fill", "([BB)V"⟩
def RL : String := "PathCycleLaw"
abbrev cL_law : ByteArray := code
def yL_law : MethodName := ⟨RL, "law", "([I)Z"⟩
abbrev vwCl : List vw_C := [(RX0, TX0, 5), (RX1, TX1, 6), (RX2, TX2, 5), (RX3, TX3, 6), (RX4, TX4, 6), (RX5, TX5, 8), (RX6, TX6, 8), (RX7, TX7, 7), (RX8, TX8, 9), (RX9, TX9, 16), (RX10, TX10, 30)]
