section
-- ===== PART A: goes FIRST, ahead of the names: the tables' words, and 'selects' of the private methods out of them =====
/-- a private method of a class that the tables say can be made, by its rows of tables_1 -/
def lw_okq (q : MethodName × Nat) : Prop := (q.1.cls ≠ "java/lang/invoke/MethodHandle" ∧ q.1.cls ≠ "java/lang/invoke/VarHandle") ∧ Cond.instantiable q.1.cls q.2 ∈ tables_1 ∧ Cond.privateMethod q.1 ∈ tables_1 ∧ Cond.instanceMethod q.1 ∈ tables_1
theorem lw_p0 : lw_okq (⟨"PathCycle$Paths", "spell", "(ILPathCycle$Pulses;)V"⟩, 6) := ⟨⟨by decide +kernel, by decide +kernel⟩, List.mem_of_getElem? (i := 139) (by decide +kernel), List.mem_of_getElem? (i := 335) (by decide +kernel), List.mem_of_getElem? (i := 336) (by decide +kernel)⟩
theorem lw_p1 : lw_okq (⟨"PathCycle$Paths", "keepsKinds", "(LPathCycle$Pulses;)Z"⟩, 6) := ⟨⟨by decide +kernel, by decide +kernel⟩, List.mem_of_getElem? (i := 139) (by decide +kernel), List.mem_of_getElem? (i := 339) (by decide +kernel), List.mem_of_getElem? (i := 340) (by decide +kernel)⟩
theorem lw_p2 : lw_okq (⟨"PathCycle", "pathsTold", "()V"⟩, 16) := ⟨⟨by decide +kernel, by decide +kernel⟩, List.mem_of_getElem? (i := 19) (by decide +kernel), List.mem_of_getElem? (i := 415) (by decide +kernel), List.mem_of_getElem? (i := 416) (by decide +kernel)⟩
theorem lw_p3 : lw_okq (⟨"PathCycle", "cycleTold", "()V"⟩, 16) := ⟨⟨by decide +kernel, by decide +kernel⟩, List.mem_of_getElem? (i := 19) (by decide +kernel), List.mem_of_getElem? (i := 423) (by decide +kernel), List.mem_of_getElem? (i := 424) (by decide +kernel)⟩
theorem lw_p4 : lw_okq (⟨"PathCycle", "goneTold", "()V"⟩, 16) := ⟨⟨by decide +kernel, by decide +kernel⟩, List.mem_of_getElem? (i := 19) (by decide +kernel), List.mem_of_getElem? (i := 427) (by decide +kernel), List.mem_of_getElem? (i := 428) (by decide +kernel)⟩
theorem lw_p5 : lw_okq (⟨"PathCycle", "searchesTold", "()V"⟩, 16) := ⟨⟨by decide +kernel, by decide +kernel⟩, List.mem_of_getElem? (i := 19) (by decide +kernel), List.mem_of_getElem? (i := 431) (by decide +kernel), List.mem_of_getElem? (i := 432) (by decide +kernel)⟩
theorem lw_p6 : lw_okq (⟨"PathCycle", "isPulse", "(I)Z"⟩, 16) := ⟨⟨by decide +kernel, by decide +kernel⟩, List.mem_of_getElem? (i := 19) (by decide +kernel), List.mem_of_getElem? (i := 439) (by decide +kernel), List.mem_of_getElem? (i := 440) (by decide +kernel)⟩
theorem lw_p7 : lw_okq (⟨"PathCycle", "isRow", "(I)Z"⟩, 16) := ⟨⟨by decide +kernel, by decide +kernel⟩, List.mem_of_getElem? (i := 19) (by decide +kernel), List.mem_of_getElem? (i := 467) (by decide +kernel), List.mem_of_getElem? (i := 468) (by decide +kernel)⟩
theorem lw_p8 : lw_okq (⟨"PathCycle", "mark", "(IIZ)Z"⟩, 16) := ⟨⟨by decide +kernel, by decide +kernel⟩, List.mem_of_getElem? (i := 19) (by decide +kernel), List.mem_of_getElem? (i := 495) (by decide +kernel), List.mem_of_getElem? (i := 496) (by decide +kernel)⟩
theorem lw_p9 : lw_okq (⟨"PathCycle", "isPath", "(I)Z"⟩, 16) := ⟨⟨by decide +kernel, by decide +kernel⟩, List.mem_of_getElem? (i := 19) (by decide +kernel), List.mem_of_getElem? (i := 499) (by decide +kernel), List.mem_of_getElem? (i := 500) (by decide +kernel)⟩
theorem lw_p10 : lw_okq (⟨"PathCycle$Tape", "skipBlanks", "()V"⟩, 7) := ⟨⟨by decide +kernel, by decide +kernel⟩, List.mem_of_getElem? (i := 106) (by decide +kernel), List.mem_of_getElem? (i := 533) (by decide +kernel), List.mem_of_getElem? (i := 534) (by decide +kernel)⟩
theorem lw_p11 : lw_okq (⟨"PathCycle$Tape", "byteHere", "()I"⟩, 7) := ⟨⟨by decide +kernel, by decide +kernel⟩, List.mem_of_getElem? (i := 106) (by decide +kernel), List.mem_of_getElem? (i := 537) (by decide +kernel), List.mem_of_getElem? (i := 538) (by decide +kernel)⟩
theorem lw_p12 : lw_okq (⟨"PathCycle$Tape", "readRow", "(II)Z"⟩, 7) := ⟨⟨by decide +kernel, by decide +kernel⟩, List.mem_of_getElem? (i := 106) (by decide +kernel), List.mem_of_getElem? (i := 541) (by decide +kernel), List.mem_of_getElem? (i := 542) (by decide +kernel)⟩
theorem lw_p13 : lw_okq (⟨"PathCycle$Tape", "readName", "(I)I"⟩, 7) := ⟨⟨by decide +kernel, by decide +kernel⟩, List.mem_of_getElem? (i := 106) (by decide +kernel), List.mem_of_getElem? (i := 545) (by decide +kernel), List.mem_of_getElem? (i := 546) (by decide +kernel)⟩
theorem lw_p14 : lw_okq (⟨"PathCycle$Tape", "fail", "(II)Z"⟩, 7) := ⟨⟨by decide +kernel, by decide +kernel⟩, List.mem_of_getElem? (i := 106) (by decide +kernel), List.mem_of_getElem? (i := 549) (by decide +kernel), List.mem_of_getElem? (i := 550) (by decide +kernel)⟩
theorem lw_p15 : lw_okq (⟨"PathCycle$Tape", "readNumbers", "(II)Z"⟩, 7) := ⟨⟨by decide +kernel, by decide +kernel⟩, List.mem_of_getElem? (i := 106) (by decide +kernel), List.mem_of_getElem? (i := 553) (by decide +kernel), List.mem_of_getElem? (i := 554) (by decide +kernel)⟩
def lw_privs_1 : List (MethodName × Nat) := [(⟨"PathCycle$Paths", "spell", "(ILPathCycle$Pulses;)V"⟩, 6), (⟨"PathCycle$Paths", "keepsKinds", "(LPathCycle$Pulses;)Z"⟩, 6), (⟨"PathCycle", "pathsTold", "()V"⟩, 16), (⟨"PathCycle", "cycleTold", "()V"⟩, 16), (⟨"PathCycle", "goneTold", "()V"⟩, 16), (⟨"PathCycle", "searchesTold", "()V"⟩, 16), (⟨"PathCycle", "isPulse", "(I)Z"⟩, 16), (⟨"PathCycle", "isRow", "(I)Z"⟩, 16), (⟨"PathCycle", "mark", "(IIZ)Z"⟩, 16), (⟨"PathCycle", "isPath", "(I)Z"⟩, 16), (⟨"PathCycle$Tape", "skipBlanks", "()V"⟩, 7), (⟨"PathCycle$Tape", "byteHere", "()I"⟩, 7), (⟨"PathCycle$Tape", "readRow", "(II)Z"⟩, 7), (⟨"PathCycle$Tape", "readName", "(I)I"⟩, 7), (⟨"PathCycle$Tape", "fail", "(II)Z"⟩, 7), (⟨"PathCycle$Tape", "readNumbers", "(II)Z"⟩, 7)]
theorem lw_r1 : ∀ q ∈ lw_privs_1, lw_okq q := List.forall_mem_cons.mpr ⟨lw_p0, List.forall_mem_cons.mpr ⟨lw_p1, List.forall_mem_cons.mpr ⟨lw_p2, List.forall_mem_cons.mpr ⟨lw_p3, List.forall_mem_cons.mpr ⟨lw_p4, List.forall_mem_cons.mpr ⟨lw_p5, List.forall_mem_cons.mpr ⟨lw_p6, List.forall_mem_cons.mpr ⟨lw_p7, List.forall_mem_cons.mpr ⟨lw_p8, List.forall_mem_cons.mpr ⟨lw_p9, List.forall_mem_cons.mpr ⟨lw_p10, List.forall_mem_cons.mpr ⟨lw_p11, List.forall_mem_cons.mpr ⟨lw_p12, List.forall_mem_cons.mpr ⟨lw_p13, List.forall_mem_cons.mpr ⟨lw_p14, List.forall_mem_cons.mpr ⟨lw_p15, fun _ h => absurd h List.not_mem_nil⟩⟩⟩⟩⟩⟩⟩⟩⟩⟩⟩⟩⟩⟩⟩⟩
theorem lw_p16 : lw_okq (⟨"PathCycle$Tape", "digitHere", "()Z"⟩, 7) := ⟨⟨by decide +kernel, by decide +kernel⟩, List.mem_of_getElem? (i := 106) (by decide +kernel), List.mem_of_getElem? (i := 557) (by decide +kernel), List.mem_of_getElem? (i := 558) (by decide +kernel)⟩
theorem lw_p17 : lw_okq (⟨"PathCycle$Tape", "readNumber", "()I"⟩, 7) := ⟨⟨by decide +kernel, by decide +kernel⟩, List.mem_of_getElem? (i := 106) (by decide +kernel), List.mem_of_getElem? (i := 561) (by decide +kernel), List.mem_of_getElem? (i := 562) (by decide +kernel)⟩
theorem lw_p18 : lw_okq (⟨"PathCycle", "findFewest", "()V"⟩, 16) := ⟨⟨by decide +kernel, by decide +kernel⟩, List.mem_of_getElem? (i := 19) (by decide +kernel), List.mem_of_getElem? (i := 586) (by decide +kernel), List.mem_of_getElem? (i := 587) (by decide +kernel)⟩
theorem lw_p19 : lw_okq (⟨"PathCycle", "gatherWants", "()V"⟩, 16) := ⟨⟨by decide +kernel, by decide +kernel⟩, List.mem_of_getElem? (i := 19) (by decide +kernel), List.mem_of_getElem? (i := 590) (by decide +kernel), List.mem_of_getElem? (i := 591) (by decide +kernel)⟩
theorem lw_p20 : lw_okq (⟨"PathCycle", "weighPaths", "()V"⟩, 16) := ⟨⟨by decide +kernel, by decide +kernel⟩, List.mem_of_getElem? (i := 19) (by decide +kernel), List.mem_of_getElem? (i := 594) (by decide +kernel), List.mem_of_getElem? (i := 595) (by decide +kernel)⟩
theorem lw_p21 : lw_okq (⟨"PathCycle$Wants", "sort", "(LPathCycle$Pulses;LPathCycle$Paths;I)V"⟩, 9) := ⟨⟨by decide +kernel, by decide +kernel⟩, List.mem_of_getElem? (i := 239) (by decide +kernel), List.mem_of_getElem? (i := 612) (by decide +kernel), List.mem_of_getElem? (i := 613) (by decide +kernel)⟩
theorem lw_p22 : lw_okq (⟨"PathCycle", "layFewest", "()Z"⟩, 16) := ⟨⟨by decide +kernel, by decide +kernel⟩, List.mem_of_getElem? (i := 19) (by decide +kernel), List.mem_of_getElem? (i := 641) (by decide +kernel), List.mem_of_getElem? (i := 642) (by decide +kernel)⟩
theorem lw_p23 : lw_okq (⟨"PathCycle", "findCogs", "()V"⟩, 16) := ⟨⟨by decide +kernel, by decide +kernel⟩, List.mem_of_getElem? (i := 19) (by decide +kernel), List.mem_of_getElem? (i := 645) (by decide +kernel), List.mem_of_getElem? (i := 646) (by decide +kernel)⟩
theorem lw_p24 : lw_okq (⟨"PathCycle$Cogs", "sortOut", "(LPathCycle$Wants;LPathCycle$Paths;[B)V"⟩, 5) := ⟨⟨by decide +kernel, by decide +kernel⟩, List.mem_of_getElem? (i := 306) (by decide +kernel), List.mem_of_getElem? (i := 653) (by decide +kernel), List.mem_of_getElem? (i := 654) (by decide +kernel)⟩
theorem lw_p25 : lw_okq (⟨"PathCycle$Cogs", "fits", "(LPathCycle$Wants;LPathCycle$Paths;[BII)Z"⟩, 5) := ⟨⟨by decide +kernel, by decide +kernel⟩, List.mem_of_getElem? (i := 306) (by decide +kernel), List.mem_of_getElem? (i := 661) (by decide +kernel), List.mem_of_getElem? (i := 662) (by decide +kernel)⟩
theorem lw_p26 : lw_okq (⟨"PathCycle", "layCogs", "()Z"⟩, 16) := ⟨⟨by decide +kernel, by decide +kernel⟩, List.mem_of_getElem? (i := 19) (by decide +kernel), List.mem_of_getElem? (i := 666) (by decide +kernel), List.mem_of_getElem? (i := 667) (by decide +kernel)⟩
theorem lw_p27 : lw_okq (⟨"PathCycle", "isScan", "(I)Z"⟩, 16) := ⟨⟨by decide +kernel, by decide +kernel⟩, List.mem_of_getElem? (i := 19) (by decide +kernel), List.mem_of_getElem? (i := 682) (by decide +kernel), List.mem_of_getElem? (i := 683) (by decide +kernel)⟩
theorem lw_p28 : lw_okq (⟨"PathCycle", "buildScans", "()V"⟩, 16) := ⟨⟨by decide +kernel, by decide +kernel⟩, List.mem_of_getElem? (i := 19) (by decide +kernel), List.mem_of_getElem? (i := 686) (by decide +kernel), List.mem_of_getElem? (i := 687) (by decide +kernel)⟩
theorem lw_p29 : lw_okq (⟨"PathCycle$Scans", "addPulse", "(II[I[I)V"⟩, 8) := ⟨⟨by decide +kernel, by decide +kernel⟩, List.mem_of_getElem? (i := 172) (by decide +kernel), List.mem_of_getElem? (i := 705) (by decide +kernel), List.mem_of_getElem? (i := 706) (by decide +kernel)⟩
theorem lw_p30 : lw_okq (⟨"PathCycle", "stateOf", "(I)I"⟩, 16) := ⟨⟨by decide +kernel, by decide +kernel⟩, List.mem_of_getElem? (i := 19) (by decide +kernel), List.mem_of_getElem? (i := 734) (by decide +kernel), List.mem_of_getElem? (i := 735) (by decide +kernel)⟩
theorem lw_p31 : lw_okq (⟨"PathCycle$Sum", "factor", "(I)V"⟩, 8) := ⟨⟨by decide +kernel, by decide +kernel⟩, List.mem_of_getElem? (i := 208) (by decide +kernel), List.mem_of_getElem? (i := 747) (by decide +kernel), List.mem_of_getElem? (i := 748) (by decide +kernel)⟩
def lw_privs_2 : List (MethodName × Nat) := [(⟨"PathCycle$Tape", "digitHere", "()Z"⟩, 7), (⟨"PathCycle$Tape", "readNumber", "()I"⟩, 7), (⟨"PathCycle", "findFewest", "()V"⟩, 16), (⟨"PathCycle", "gatherWants", "()V"⟩, 16), (⟨"PathCycle", "weighPaths", "()V"⟩, 16), (⟨"PathCycle$Wants", "sort", "(LPathCycle$Pulses;LPathCycle$Paths;I)V"⟩, 9), (⟨"PathCycle", "layFewest", "()Z"⟩, 16), (⟨"PathCycle", "findCogs", "()V"⟩, 16), (⟨"PathCycle$Cogs", "sortOut", "(LPathCycle$Wants;LPathCycle$Paths;[B)V"⟩, 5), (⟨"PathCycle$Cogs", "fits", "(LPathCycle$Wants;LPathCycle$Paths;[BII)Z"⟩, 5), (⟨"PathCycle", "layCogs", "()Z"⟩, 16), (⟨"PathCycle", "isScan", "(I)Z"⟩, 16), (⟨"PathCycle", "buildScans", "()V"⟩, 16), (⟨"PathCycle$Scans", "addPulse", "(II[I[I)V"⟩, 8), (⟨"PathCycle", "stateOf", "(I)I"⟩, 16), (⟨"PathCycle$Sum", "factor", "(I)V"⟩, 8)]
theorem lw_r2 : ∀ q ∈ lw_privs_2, lw_okq q := List.forall_mem_cons.mpr ⟨lw_p16, List.forall_mem_cons.mpr ⟨lw_p17, List.forall_mem_cons.mpr ⟨lw_p18, List.forall_mem_cons.mpr ⟨lw_p19, List.forall_mem_cons.mpr ⟨lw_p20, List.forall_mem_cons.mpr ⟨lw_p21, List.forall_mem_cons.mpr ⟨lw_p22, List.forall_mem_cons.mpr ⟨lw_p23, List.forall_mem_cons.mpr ⟨lw_p24, List.forall_mem_cons.mpr ⟨lw_p25, List.forall_mem_cons.mpr ⟨lw_p26, List.forall_mem_cons.mpr ⟨lw_p27, List.forall_mem_cons.mpr ⟨lw_p28, List.forall_mem_cons.mpr ⟨lw_p29, List.forall_mem_cons.mpr ⟨lw_p30, List.forall_mem_cons.mpr ⟨lw_p31, fun _ h => absurd h List.not_mem_nil⟩⟩⟩⟩⟩⟩⟩⟩⟩⟩⟩⟩⟩⟩⟩⟩
theorem lw_p32 : lw_okq (⟨"PathCycle", "isIn", "(II)Z"⟩, 16) := ⟨⟨by decide +kernel, by decide +kernel⟩, List.mem_of_getElem? (i := 19) (by decide +kernel), List.mem_of_getElem? (i := 760) (by decide +kernel), List.mem_of_getElem? (i := 761) (by decide +kernel)⟩
theorem lw_p33 : lw_okq (⟨"PathCycle", "isGone", "(I)Z"⟩, 16) := ⟨⟨by decide +kernel, by decide +kernel⟩, List.mem_of_getElem? (i := 19) (by decide +kernel), List.mem_of_getElem? (i := 764) (by decide +kernel), List.mem_of_getElem? (i := 765) (by decide +kernel)⟩
theorem lw_p34 : lw_okq (⟨"PathCycle", "count", "(I)I"⟩, 16) := ⟨⟨by decide +kernel, by decide +kernel⟩, List.mem_of_getElem? (i := 19) (by decide +kernel), List.mem_of_getElem? (i := 782) (by decide +kernel), List.mem_of_getElem? (i := 783) (by decide +kernel)⟩
theorem lw_p35 : lw_okq (⟨"PathCycle", "member", "(II)I"⟩, 16) := ⟨⟨by decide +kernel, by decide +kernel⟩, List.mem_of_getElem? (i := 19) (by decide +kernel), List.mem_of_getElem? (i := 786) (by decide +kernel), List.mem_of_getElem? (i := 787) (by decide +kernel)⟩
theorem lw_p36 : lw_okq (⟨"PathCycle", "gatherLeaks", "()I"⟩, 16) := ⟨⟨by decide +kernel, by decide +kernel⟩, List.mem_of_getElem? (i := 19) (by decide +kernel), List.mem_of_getElem? (i := 794) (by decide +kernel), List.mem_of_getElem? (i := 795) (by decide +kernel)⟩
theorem lw_p37 : lw_okq (⟨"PathCycle", "leakByWeight", "(II)I"⟩, 16) := ⟨⟨by decide +kernel, by decide +kernel⟩, List.mem_of_getElem? (i := 19) (by decide +kernel), List.mem_of_getElem? (i := 798) (by decide +kernel), List.mem_of_getElem? (i := 799) (by decide +kernel)⟩
theorem lw_p38 : lw_okq (⟨"PathCycle", "leakOfWeight", "(III)I"⟩, 16) := ⟨⟨by decide +kernel, by decide +kernel⟩, List.mem_of_getElem? (i := 19) (by decide +kernel), List.mem_of_getElem? (i := 803) (by decide +kernel), List.mem_of_getElem? (i := 804) (by decide +kernel)⟩
theorem lw_p39 : lw_okq (⟨"PathCycle", "isStoppedBy", "(II)Z"⟩, 16) := ⟨⟨by decide +kernel, by decide +kernel⟩, List.mem_of_getElem? (i := 19) (by decide +kernel), List.mem_of_getElem? (i := 811) (by decide +kernel), List.mem_of_getElem? (i := 812) (by decide +kernel)⟩
theorem lw_p40 : lw_okq (⟨"PathCycle", "pace", "(II)I"⟩, 16) := ⟨⟨by decide +kernel, by decide +kernel⟩, List.mem_of_getElem? (i := 19) (by decide +kernel), List.mem_of_getElem? (i := 815) (by decide +kernel), List.mem_of_getElem? (i := 816) (by decide +kernel)⟩
theorem lw_p41 : lw_okq (⟨"PathCycle", "wouldBeGood", "()Z"⟩, 16) := ⟨⟨by decide +kernel, by decide +kernel⟩, List.mem_of_getElem? (i := 19) (by decide +kernel), List.mem_of_getElem? (i := 830) (by decide +kernel), List.mem_of_getElem? (i := 831) (by decide +kernel)⟩
theorem lw_p42 : lw_okq (⟨"PathCycle", "matters", "(I)Z"⟩, 16) := ⟨⟨by decide +kernel, by decide +kernel⟩, List.mem_of_getElem? (i := 19) (by decide +kernel), List.mem_of_getElem? (i := 834) (by decide +kernel), List.mem_of_getElem? (i := 835) (by decide +kernel)⟩
theorem lw_p43 : lw_okq (⟨"PathCycle", "earlyState", "(II)I"⟩, 16) := ⟨⟨by decide +kernel, by decide +kernel⟩, List.mem_of_getElem? (i := 19) (by decide +kernel), List.mem_of_getElem? (i := 838) (by decide +kernel), List.mem_of_getElem? (i := 839) (by decide +kernel)⟩
theorem lw_p44 : lw_okq (⟨"PathCycle", "strikeScans", "(I)V"⟩, 16) := ⟨⟨by decide +kernel, by decide +kernel⟩, List.mem_of_getElem? (i := 19) (by decide +kernel), List.mem_of_getElem? (i := 852) (by decide +kernel), List.mem_of_getElem? (i := 853) (by decide +kernel)⟩
theorem lw_p45 : lw_okq (⟨"PathCycle", "divisor", "(I)I"⟩, 16) := ⟨⟨by decide +kernel, by decide +kernel⟩, List.mem_of_getElem? (i := 19) (by decide +kernel), List.mem_of_getElem? (i := 898) (by decide +kernel), List.mem_of_getElem? (i := 899) (by decide +kernel)⟩
theorem lw_p46 : lw_okq (⟨"PathCycle", "dividend", "(I)I"⟩, 16) := ⟨⟨by decide +kernel, by decide +kernel⟩, List.mem_of_getElem? (i := 19) (by decide +kernel), List.mem_of_getElem? (i := 902) (by decide +kernel), List.mem_of_getElem? (i := 903) (by decide +kernel)⟩
theorem lw_p47 : lw_okq (⟨"PathCycle", "countWeights", "(I)I"⟩, 16) := ⟨⟨by decide +kernel, by decide +kernel⟩, List.mem_of_getElem? (i := 19) (by decide +kernel), List.mem_of_getElem? (i := 941) (by decide +kernel), List.mem_of_getElem? (i := 942) (by decide +kernel)⟩
def lw_privs_3 : List (MethodName × Nat) := [(⟨"PathCycle", "isIn", "(II)Z"⟩, 16), (⟨"PathCycle", "isGone", "(I)Z"⟩, 16), (⟨"PathCycle", "count", "(I)I"⟩, 16), (⟨"PathCycle", "member", "(II)I"⟩, 16), (⟨"PathCycle", "gatherLeaks", "()I"⟩, 16), (⟨"PathCycle", "leakByWeight", "(II)I"⟩, 16), (⟨"PathCycle", "leakOfWeight", "(III)I"⟩, 16), (⟨"PathCycle", "isStoppedBy", "(II)Z"⟩, 16), (⟨"PathCycle", "pace", "(II)I"⟩, 16), (⟨"PathCycle", "wouldBeGood", "()Z"⟩, 16), (⟨"PathCycle", "matters", "(I)Z"⟩, 16), (⟨"PathCycle", "earlyState", "(II)I"⟩, 16), (⟨"PathCycle", "strikeScans", "(I)V"⟩, 16), (⟨"PathCycle", "divisor", "(I)I"⟩, 16), (⟨"PathCycle", "dividend", "(I)I"⟩, 16), (⟨"PathCycle", "countWeights", "(I)I"⟩, 16)]
theorem lw_r3 : ∀ q ∈ lw_privs_3, lw_okq q := List.forall_mem_cons.mpr ⟨lw_p32, List.forall_mem_cons.mpr ⟨lw_p33, List.forall_mem_cons.mpr ⟨lw_p34, List.forall_mem_cons.mpr ⟨lw_p35, List.forall_mem_cons.mpr ⟨lw_p36, List.forall_mem_cons.mpr ⟨lw_p37, List.forall_mem_cons.mpr ⟨lw_p38, List.forall_mem_cons.mpr ⟨lw_p39, List.forall_mem_cons.mpr ⟨lw_p40, List.forall_mem_cons.mpr ⟨lw_p41, List.forall_mem_cons.mpr ⟨lw_p42, List.forall_mem_cons.mpr ⟨lw_p43, List.forall_mem_cons.mpr ⟨lw_p44, List.forall_mem_cons.mpr ⟨lw_p45, List.forall_mem_cons.mpr ⟨lw_p46, List.forall_mem_cons.mpr ⟨lw_p47, fun _ h => absurd h List.not_mem_nil⟩⟩⟩⟩⟩⟩⟩⟩⟩⟩⟩⟩⟩⟩⟩⟩
theorem lw_p48 : lw_okq (⟨"PathCycle", "lookAtParts", "(I)I"⟩, 16) := ⟨⟨by decide +kernel, by decide +kernel⟩, List.mem_of_getElem? (i := 19) (by decide +kernel), List.mem_of_getElem? (i := 945) (by decide +kernel), List.mem_of_getElem? (i := 946) (by decide +kernel)⟩
theorem lw_p49 : lw_okq (⟨"PathCycleModel", "laysPaths", "()V"⟩, 30) := ⟨⟨by decide +kernel, by decide +kernel⟩, List.mem_of_getElem? (i := 949) (by decide +kernel), List.mem_of_getElem? (i := 955) (by decide +kernel), List.mem_of_getElem? (i := 956) (by decide +kernel)⟩
theorem lw_p50 : lw_okq (⟨"PathCycleModel", "m", "()I"⟩, 30) := ⟨⟨by decide +kernel, by decide +kernel⟩, List.mem_of_getElem? (i := 949) (by decide +kernel), List.mem_of_getElem? (i := 959) (by decide +kernel), List.mem_of_getElem? (i := 960) (by decide +kernel)⟩
theorem lw_p51 : lw_okq (⟨"PathCycleModel", "n", "()I"⟩, 30) := ⟨⟨by decide +kernel, by decide +kernel⟩, List.mem_of_getElem? (i := 949) (by decide +kernel), List.mem_of_getElem? (i := 963) (by decide +kernel), List.mem_of_getElem? (i := 964) (by decide +kernel)⟩
theorem lw_p52 : lw_okq (⟨"PathCycleModel", "orderOf", "(II)I"⟩, 30) := ⟨⟨by decide +kernel, by decide +kernel⟩, List.mem_of_getElem? (i := 949) (by decide +kernel), List.mem_of_getElem? (i := 967) (by decide +kernel), List.mem_of_getElem? (i := 968) (by decide +kernel)⟩
theorem lw_p53 : lw_okq (⟨"PathCycleModel", "mayFollow", "(III)Z"⟩, 30) := ⟨⟨by decide +kernel, by decide +kernel⟩, List.mem_of_getElem? (i := 949) (by decide +kernel), List.mem_of_getElem? (i := 971) (by decide +kernel), List.mem_of_getElem? (i := 972) (by decide +kernel)⟩
theorem lw_p54 : lw_okq (⟨"PathCycleModel", "laysPrimitive", "()V"⟩, 30) := ⟨⟨by decide +kernel, by decide +kernel⟩, List.mem_of_getElem? (i := 949) (by decide +kernel), List.mem_of_getElem? (i := 975) (by decide +kernel), List.mem_of_getElem? (i := 976) (by decide +kernel)⟩
theorem lw_p55 : lw_okq (⟨"PathCycleModel", "turnOf", "()I"⟩, 30) := ⟨⟨by decide +kernel, by decide +kernel⟩, List.mem_of_getElem? (i := 949) (by decide +kernel), List.mem_of_getElem? (i := 979) (by decide +kernel), List.mem_of_getElem? (i := 980) (by decide +kernel)⟩
theorem lw_p56 : lw_okq (⟨"PathCycleModel", "dividesBy", "(II)I"⟩, 30) := ⟨⟨by decide +kernel, by decide +kernel⟩, List.mem_of_getElem? (i := 949) (by decide +kernel), List.mem_of_getElem? (i := 984) (by decide +kernel), List.mem_of_getElem? (i := 985) (by decide +kernel)⟩
theorem lw_p57 : lw_okq (⟨"PathCycleModel", "isIn", "(III)Z"⟩, 30) := ⟨⟨by decide +kernel, by decide +kernel⟩, List.mem_of_getElem? (i := 949) (by decide +kernel), List.mem_of_getElem? (i := 1085) (by decide +kernel), List.mem_of_getElem? (i := 1086) (by decide +kernel)⟩
theorem lw_p58 : lw_okq (⟨"PathCycleModel", "clearsCycle", "()V"⟩, 30) := ⟨⟨by decide +kernel, by decide +kernel⟩, List.mem_of_getElem? (i := 949) (by decide +kernel), List.mem_of_getElem? (i := 1089) (by decide +kernel), List.mem_of_getElem? (i := 1090) (by decide +kernel)⟩
theorem lw_p59 : lw_okq (⟨"PathCycleModel", "wishesNothing", "()V"⟩, 30) := ⟨⟨by decide +kernel, by decide +kernel⟩, List.mem_of_getElem? (i := 949) (by decide +kernel), List.mem_of_getElem? (i := 1093) (by decide +kernel), List.mem_of_getElem? (i := 1094) (by decide +kernel)⟩
theorem lw_p60 : lw_okq (⟨"PathCycleModel", "isPulse", "(I)Z"⟩, 30) := ⟨⟨by decide +kernel, by decide +kernel⟩, List.mem_of_getElem? (i := 949) (by decide +kernel), List.mem_of_getElem? (i := 1101) (by decide +kernel), List.mem_of_getElem? (i := 1102) (by decide +kernel)⟩
theorem lw_p61 : lw_okq (⟨"PathCycleModel", "isCounter", "(I)Z"⟩, 30) := ⟨⟨by decide +kernel, by decide +kernel⟩, List.mem_of_getElem? (i := 949) (by decide +kernel), List.mem_of_getElem? (i := 1113) (by decide +kernel), List.mem_of_getElem? (i := 1114) (by decide +kernel)⟩
theorem lw_p62 : lw_okq (⟨"PathCycleModel", "scans", "()I"⟩, 30) := ⟨⟨by decide +kernel, by decide +kernel⟩, List.mem_of_getElem? (i := 949) (by decide +kernel), List.mem_of_getElem? (i := 1117) (by decide +kernel), List.mem_of_getElem? (i := 1118) (by decide +kernel)⟩
theorem lw_p63 : lw_okq (⟨"PathCycleModel", "lengthOf", "(I)I"⟩, 30) := ⟨⟨by decide +kernel, by decide +kernel⟩, List.mem_of_getElem? (i := 949) (by decide +kernel), List.mem_of_getElem? (i := 1121) (by decide +kernel), List.mem_of_getElem? (i := 1122) (by decide +kernel)⟩
def lw_privs_4 : List (MethodName × Nat) := [(⟨"PathCycle", "lookAtParts", "(I)I"⟩, 16), (⟨"PathCycleModel", "laysPaths", "()V"⟩, 30), (⟨"PathCycleModel", "m", "()I"⟩, 30), (⟨"PathCycleModel", "n", "()I"⟩, 30), (⟨"PathCycleModel", "orderOf", "(II)I"⟩, 30), (⟨"PathCycleModel", "mayFollow", "(III)Z"⟩, 30), (⟨"PathCycleModel", "laysPrimitive", "()V"⟩, 30), (⟨"PathCycleModel", "turnOf", "()I"⟩, 30), (⟨"PathCycleModel", "dividesBy", "(II)I"⟩, 30), (⟨"PathCycleModel", "isIn", "(III)Z"⟩, 30), (⟨"PathCycleModel", "clearsCycle", "()V"⟩, 30), (⟨"PathCycleModel", "wishesNothing", "()V"⟩, 30), (⟨"PathCycleModel", "isPulse", "(I)Z"⟩, 30), (⟨"PathCycleModel", "isCounter", "(I)Z"⟩, 30), (⟨"PathCycleModel", "scans", "()I"⟩, 30), (⟨"PathCycleModel", "lengthOf", "(I)I"⟩, 30)]
theorem lw_r4 : ∀ q ∈ lw_privs_4, lw_okq q := List.forall_mem_cons.mpr ⟨lw_p48, List.forall_mem_cons.mpr ⟨lw_p49, List.forall_mem_cons.mpr ⟨lw_p50, List.forall_mem_cons.mpr ⟨lw_p51, List.forall_mem_cons.mpr ⟨lw_p52, List.forall_mem_cons.mpr ⟨lw_p53, List.forall_mem_cons.mpr ⟨lw_p54, List.forall_mem_cons.mpr ⟨lw_p55, List.forall_mem_cons.mpr ⟨lw_p56, List.forall_mem_cons.mpr ⟨lw_p57, List.forall_mem_cons.mpr ⟨lw_p58, List.forall_mem_cons.mpr ⟨lw_p59, List.forall_mem_cons.mpr ⟨lw_p60, List.forall_mem_cons.mpr ⟨lw_p61, List.forall_mem_cons.mpr ⟨lw_p62, List.forall_mem_cons.mpr ⟨lw_p63, fun _ h => absurd h List.not_mem_nil⟩⟩⟩⟩⟩⟩⟩⟩⟩⟩⟩⟩⟩⟩⟩⟩
theorem lw_p64 : lw_okq (⟨"PathCycleModel", "isSource", "(I)Z"⟩, 30) := ⟨⟨by decide +kernel, by decide +kernel⟩, List.mem_of_getElem? (i := 949) (by decide +kernel), List.mem_of_getElem? (i := 1129) (by decide +kernel), List.mem_of_getElem? (i := 1130) (by decide +kernel)⟩
theorem lw_p65 : lw_okq (⟨"PathCycleModel", "swaps", "(II)V"⟩, 30) := ⟨⟨by decide +kernel, by decide +kernel⟩, List.mem_of_getElem? (i := 949) (by decide +kernel), List.mem_of_getElem? (i := 1145) (by decide +kernel), List.mem_of_getElem? (i := 1146) (by decide +kernel)⟩
theorem lw_p66 : lw_okq (⟨"PathCycleModel", "follows", "()Z"⟩, 30) := ⟨⟨by decide +kernel, by decide +kernel⟩, List.mem_of_getElem? (i := 949) (by decide +kernel), List.mem_of_getElem? (i := 1153) (by decide +kernel), List.mem_of_getElem? (i := 1154) (by decide +kernel)⟩
theorem lw_p67 : lw_okq (⟨"PathCycleModel", "becomes", "(IIZ)Z"⟩, 30) := ⟨⟨by decide +kernel, by decide +kernel⟩, List.mem_of_getElem? (i := 949) (by decide +kernel), List.mem_of_getElem? (i := 1161) (by decide +kernel), List.mem_of_getElem? (i := 1162) (by decide +kernel)⟩
theorem lw_p68 : lw_okq (⟨"PathCycleModel", "isPath", "(I)Z"⟩, 30) := ⟨⟨by decide +kernel, by decide +kernel⟩, List.mem_of_getElem? (i := 949) (by decide +kernel), List.mem_of_getElem? (i := 1165) (by decide +kernel), List.mem_of_getElem? (i := 1166) (by decide +kernel)⟩
theorem lw_p69 : lw_okq (⟨"PathCycleModel", "types", "(I)V"⟩, 30) := ⟨⟨by decide +kernel, by decide +kernel⟩, List.mem_of_getElem? (i := 949) (by decide +kernel), List.mem_of_getElem? (i := 1181) (by decide +kernel), List.mem_of_getElem? (i := 1182) (by decide +kernel)⟩
theorem lw_p70 : lw_okq (⟨"PathCycleModel", "behindBlanks", "()I"⟩, 30) := ⟨⟨by decide +kernel, by decide +kernel⟩, List.mem_of_getElem? (i := 949) (by decide +kernel), List.mem_of_getElem? (i := 1193) (by decide +kernel), List.mem_of_getElem? (i := 1194) (by decide +kernel)⟩
theorem lw_p71 : lw_okq (⟨"PathCycleModel", "here", "()I"⟩, 30) := ⟨⟨by decide +kernel, by decide +kernel⟩, List.mem_of_getElem? (i := 949) (by decide +kernel), List.mem_of_getElem? (i := 1197) (by decide +kernel), List.mem_of_getElem? (i := 1198) (by decide +kernel)⟩
theorem lw_p72 : lw_okq (⟨"PathCycleModel", "readLine", "()Z"⟩, 30) := ⟨⟨by decide +kernel, by decide +kernel⟩, List.mem_of_getElem? (i := 949) (by decide +kernel), List.mem_of_getElem? (i := 1201) (by decide +kernel), List.mem_of_getElem? (i := 1202) (by decide +kernel)⟩
theorem lw_p73 : lw_okq (⟨"PathCycleModel", "readName", "()I"⟩, 30) := ⟨⟨by decide +kernel, by decide +kernel⟩, List.mem_of_getElem? (i := 949) (by decide +kernel), List.mem_of_getElem? (i := 1205) (by decide +kernel), List.mem_of_getElem? (i := 1206) (by decide +kernel)⟩
theorem lw_p74 : lw_okq (⟨"PathCycleModel", "errs", "(II)Z"⟩, 30) := ⟨⟨by decide +kernel, by decide +kernel⟩, List.mem_of_getElem? (i := 949) (by decide +kernel), List.mem_of_getElem? (i := 1209) (by decide +kernel), List.mem_of_getElem? (i := 1210) (by decide +kernel)⟩
theorem lw_p75 : lw_okq (⟨"PathCycleModel", "isDigit", "(I)Z"⟩, 30) := ⟨⟨by decide +kernel, by decide +kernel⟩, List.mem_of_getElem? (i := 949) (by decide +kernel), List.mem_of_getElem? (i := 1213) (by decide +kernel), List.mem_of_getElem? (i := 1214) (by decide +kernel)⟩
theorem lw_p76 : lw_okq (⟨"PathCycleModel", "laysFewest", "()I"⟩, 30) := ⟨⟨by decide +kernel, by decide +kernel⟩, List.mem_of_getElem? (i := 949) (by decide +kernel), List.mem_of_getElem? (i := 1225) (by decide +kernel), List.mem_of_getElem? (i := 1226) (by decide +kernel)⟩
theorem lw_p77 : lw_okq (⟨"PathCycleModel", "laysMattering", "()Z"⟩, 30) := ⟨⟨by decide +kernel, by decide +kernel⟩, List.mem_of_getElem? (i := 949) (by decide +kernel), List.mem_of_getElem? (i := 1229) (by decide +kernel), List.mem_of_getElem? (i := 1230) (by decide +kernel)⟩
theorem lw_p78 : lw_okq (⟨"PathCycleModel", "chief", "()I"⟩, 30) := ⟨⟨by decide +kernel, by decide +kernel⟩, List.mem_of_getElem? (i := 949) (by decide +kernel), List.mem_of_getElem? (i := 1233) (by decide +kernel), List.mem_of_getElem? (i := 1234) (by decide +kernel)⟩
theorem lw_p79 : lw_okq (⟨"PathCycleModel", "isWished", "(I)Z"⟩, 30) := ⟨⟨by decide +kernel, by decide +kernel⟩, List.mem_of_getElem? (i := 949) (by decide +kernel), List.mem_of_getElem? (i := 1237) (by decide +kernel), List.mem_of_getElem? (i := 1238) (by decide +kernel)⟩
def lw_privs_5 : List (MethodName × Nat) := [(⟨"PathCycleModel", "isSource", "(I)Z"⟩, 30), (⟨"PathCycleModel", "swaps", "(II)V"⟩, 30), (⟨"PathCycleModel", "follows", "()Z"⟩, 30), (⟨"PathCycleModel", "becomes", "(IIZ)Z"⟩, 30), (⟨"PathCycleModel", "isPath", "(I)Z"⟩, 30), (⟨"PathCycleModel", "types", "(I)V"⟩, 30), (⟨"PathCycleModel", "behindBlanks", "()I"⟩, 30), (⟨"PathCycleModel", "here", "()I"⟩, 30), (⟨"PathCycleModel", "readLine", "()Z"⟩, 30), (⟨"PathCycleModel", "readName", "()I"⟩, 30), (⟨"PathCycleModel", "errs", "(II)Z"⟩, 30), (⟨"PathCycleModel", "isDigit", "(I)Z"⟩, 30), (⟨"PathCycleModel", "laysFewest", "()I"⟩, 30), (⟨"PathCycleModel", "laysMattering", "()Z"⟩, 30), (⟨"PathCycleModel", "chief", "()I"⟩, 30), (⟨"PathCycleModel", "isWished", "(I)Z"⟩, 30)]
theorem lw_r5 : ∀ q ∈ lw_privs_5, lw_okq q := List.forall_mem_cons.mpr ⟨lw_p64, List.forall_mem_cons.mpr ⟨lw_p65, List.forall_mem_cons.mpr ⟨lw_p66, List.forall_mem_cons.mpr ⟨lw_p67, List.forall_mem_cons.mpr ⟨lw_p68, List.forall_mem_cons.mpr ⟨lw_p69, List.forall_mem_cons.mpr ⟨lw_p70, List.forall_mem_cons.mpr ⟨lw_p71, List.forall_mem_cons.mpr ⟨lw_p72, List.forall_mem_cons.mpr ⟨lw_p73, List.forall_mem_cons.mpr ⟨lw_p74, List.forall_mem_cons.mpr ⟨lw_p75, List.forall_mem_cons.mpr ⟨lw_p76, List.forall_mem_cons.mpr ⟨lw_p77, List.forall_mem_cons.mpr ⟨lw_p78, List.forall_mem_cons.mpr ⟨lw_p79, fun _ h => absurd h List.not_mem_nil⟩⟩⟩⟩⟩⟩⟩⟩⟩⟩⟩⟩⟩⟩⟩⟩
theorem lw_p80 : lw_okq (⟨"PathCycleModel", "isOther", "(I)Z"⟩, 30) := ⟨⟨by decide +kernel, by decide +kernel⟩, List.mem_of_getElem? (i := 949) (by decide +kernel), List.mem_of_getElem? (i := 1241) (by decide +kernel), List.mem_of_getElem? (i := 1242) (by decide +kernel)⟩
theorem lw_p81 : lw_okq (⟨"PathCycleModel", "isGone", "(I)Z"⟩, 30) := ⟨⟨by decide +kernel, by decide +kernel⟩, List.mem_of_getElem? (i := 949) (by decide +kernel), List.mem_of_getElem? (i := 1245) (by decide +kernel), List.mem_of_getElem? (i := 1246) (by decide +kernel)⟩
theorem lw_p82 : lw_okq (⟨"PathCycleModel", "isSpoiled", "(I)Z"⟩, 30) := ⟨⟨by decide +kernel, by decide +kernel⟩, List.mem_of_getElem? (i := 949) (by decide +kernel), List.mem_of_getElem? (i := 1249) (by decide +kernel), List.mem_of_getElem? (i := 1250) (by decide +kernel)⟩
theorem lw_p83 : lw_okq (⟨"PathCycleModel", "weighs", "(I)I"⟩, 30) := ⟨⟨by decide +kernel, by decide +kernel⟩, List.mem_of_getElem? (i := 949) (by decide +kernel), List.mem_of_getElem? (i := 1253) (by decide +kernel), List.mem_of_getElem? (i := 1254) (by decide +kernel)⟩
theorem lw_p84 : lw_okq (⟨"PathCycleModel", "changeOf", "(II)I"⟩, 30) := ⟨⟨by decide +kernel, by decide +kernel⟩, List.mem_of_getElem? (i := 949) (by decide +kernel), List.mem_of_getElem? (i := 1257) (by decide +kernel), List.mem_of_getElem? (i := 1258) (by decide +kernel)⟩
theorem lw_p85 : lw_okq (⟨"PathCycleModel", "size", "(I)I"⟩, 30) := ⟨⟨by decide +kernel, by decide +kernel⟩, List.mem_of_getElem? (i := 949) (by decide +kernel), List.mem_of_getElem? (i := 1261) (by decide +kernel), List.mem_of_getElem? (i := 1262) (by decide +kernel)⟩
theorem lw_p86 : lw_okq (⟨"PathCycleModel", "weightOf", "(II)I"⟩, 30) := ⟨⟨by decide +kernel, by decide +kernel⟩, List.mem_of_getElem? (i := 949) (by decide +kernel), List.mem_of_getElem? (i := 1265) (by decide +kernel), List.mem_of_getElem? (i := 1266) (by decide +kernel)⟩
theorem lw_p87 : lw_okq (⟨"PathCycleModel", "matters", "(IIZ)V"⟩, 30) := ⟨⟨by decide +kernel, by decide +kernel⟩, List.mem_of_getElem? (i := 949) (by decide +kernel), List.mem_of_getElem? (i := 1269) (by decide +kernel), List.mem_of_getElem? (i := 1270) (by decide +kernel)⟩
theorem lw_p88 : lw_okq (⟨"PathCycleModel", "product", "()I"⟩, 30) := ⟨⟨by decide +kernel, by decide +kernel⟩, List.mem_of_getElem? (i := 949) (by decide +kernel), List.mem_of_getElem? (i := 1273) (by decide +kernel), List.mem_of_getElem? (i := 1274) (by decide +kernel)⟩
theorem lw_p89 : lw_okq (⟨"PathCycleModel", "doSteps", "()Z"⟩, 30) := ⟨⟨by decide +kernel, by decide +kernel⟩, List.mem_of_getElem? (i := 949) (by decide +kernel), List.mem_of_getElem? (i := 1277) (by decide +kernel), List.mem_of_getElem? (i := 1278) (by decide +kernel)⟩
theorem lw_p90 : lw_okq (⟨"PathCycleModel", "isLeftBySteps", "(I)Z"⟩, 30) := ⟨⟨by decide +kernel, by decide +kernel⟩, List.mem_of_getElem? (i := 949) (by decide +kernel), List.mem_of_getElem? (i := 1281) (by decide +kernel), List.mem_of_getElem? (i := 1282) (by decide +kernel)⟩
theorem lw_p91 : lw_okq (⟨"PathCycleModel", "goesOn", "(II)Z"⟩, 30) := ⟨⟨by decide +kernel, by decide +kernel⟩, List.mem_of_getElem? (i := 949) (by decide +kernel), List.mem_of_getElem? (i := 1285) (by decide +kernel), List.mem_of_getElem? (i := 1286) (by decide +kernel)⟩
theorem lw_p92 : lw_okq (⟨"PathCycleModel", "nextNumber", "(III)I"⟩, 30) := ⟨⟨by decide +kernel, by decide +kernel⟩, List.mem_of_getElem? (i := 949) (by decide +kernel), List.mem_of_getElem? (i := 1289) (by decide +kernel), List.mem_of_getElem? (i := 1290) (by decide +kernel)⟩
theorem lw_p93 : lw_okq (⟨"PathCycleModel", "laysCogs", "()I"⟩, 30) := ⟨⟨by decide +kernel, by decide +kernel⟩, List.mem_of_getElem? (i := 949) (by decide +kernel), List.mem_of_getElem? (i := 1297) (by decide +kernel), List.mem_of_getElem? (i := 1298) (by decide +kernel)⟩
theorem lw_p94 : lw_okq (⟨"PathCycleModel", "doCogs", "(I)Z"⟩, 30) := ⟨⟨by decide +kernel, by decide +kernel⟩, List.mem_of_getElem? (i := 949) (by decide +kernel), List.mem_of_getElem? (i := 1301) (by decide +kernel), List.mem_of_getElem? (i := 1302) (by decide +kernel)⟩
theorem lw_p95 : lw_okq (⟨"PathCycleModel", "isLeftByCogs", "(II)Z"⟩, 30) := ⟨⟨by decide +kernel, by decide +kernel⟩, List.mem_of_getElem? (i := 949) (by decide +kernel), List.mem_of_getElem? (i := 1305) (by decide +kernel), List.mem_of_getElem? (i := 1306) (by decide +kernel)⟩
def lw_privs_6 : List (MethodName × Nat) := [(⟨"PathCycleModel", "isOther", "(I)Z"⟩, 30), (⟨"PathCycleModel", "isGone", "(I)Z"⟩, 30), (⟨"PathCycleModel", "isSpoiled", "(I)Z"⟩, 30), (⟨"PathCycleModel", "weighs", "(I)I"⟩, 30), (⟨"PathCycleModel", "changeOf", "(II)I"⟩, 30), (⟨"PathCycleModel", "size", "(I)I"⟩, 30), (⟨"PathCycleModel", "weightOf", "(II)I"⟩, 30), (⟨"PathCycleModel", "matters", "(IIZ)V"⟩, 30), (⟨"PathCycleModel", "product", "()I"⟩, 30), (⟨"PathCycleModel", "doSteps", "()Z"⟩, 30), (⟨"PathCycleModel", "isLeftBySteps", "(I)Z"⟩, 30), (⟨"PathCycleModel", "goesOn", "(II)Z"⟩, 30), (⟨"PathCycleModel", "nextNumber", "(III)I"⟩, 30), (⟨"PathCycleModel", "laysCogs", "()I"⟩, 30), (⟨"PathCycleModel", "doCogs", "(I)Z"⟩, 30), (⟨"PathCycleModel", "isLeftByCogs", "(II)Z"⟩, 30)]
theorem lw_r6 : ∀ q ∈ lw_privs_6, lw_okq q := List.forall_mem_cons.mpr ⟨lw_p80, List.forall_mem_cons.mpr ⟨lw_p81, List.forall_mem_cons.mpr ⟨lw_p82, List.forall_mem_cons.mpr ⟨lw_p83, List.forall_mem_cons.mpr ⟨lw_p84, List.forall_mem_cons.mpr ⟨lw_p85, List.forall_mem_cons.mpr ⟨lw_p86, List.forall_mem_cons.mpr ⟨lw_p87, List.forall_mem_cons.mpr ⟨lw_p88, List.forall_mem_cons.mpr ⟨lw_p89, List.forall_mem_cons.mpr ⟨lw_p90, List.forall_mem_cons.mpr ⟨lw_p91, List.forall_mem_cons.mpr ⟨lw_p92, List.forall_mem_cons.mpr ⟨lw_p93, List.forall_mem_cons.mpr ⟨lw_p94, List.forall_mem_cons.mpr ⟨lw_p95, fun _ h => absurd h List.not_mem_nil⟩⟩⟩⟩⟩⟩⟩⟩⟩⟩⟩⟩⟩⟩⟩⟩
theorem lw_p96 : lw_okq (⟨"PathCycleModel", "layFewest", "()I"⟩, 30) := ⟨⟨by decide +kernel, by decide +kernel⟩, List.mem_of_getElem? (i := 949) (by decide +kernel), List.mem_of_getElem? (i := 1313) (by decide +kernel), List.mem_of_getElem? (i := 1314) (by decide +kernel)⟩
theorem lw_p97 : lw_okq (⟨"PathCycleModel", "layCogs", "()I"⟩, 30) := ⟨⟨by decide +kernel, by decide +kernel⟩, List.mem_of_getElem? (i := 949) (by decide +kernel), List.mem_of_getElem? (i := 1317) (by decide +kernel), List.mem_of_getElem? (i := 1318) (by decide +kernel)⟩
theorem lw_p98 : lw_okq (⟨"PathCycleModel", "isStep", "(I)Z"⟩, 30) := ⟨⟨by decide +kernel, by decide +kernel⟩, List.mem_of_getElem? (i := 949) (by decide +kernel), List.mem_of_getElem? (i := 1325) (by decide +kernel), List.mem_of_getElem? (i := 1326) (by decide +kernel)⟩
theorem lw_p99 : lw_okq (⟨"PathCycleModel", "isScan", "(I)Z"⟩, 30) := ⟨⟨by decide +kernel, by decide +kernel⟩, List.mem_of_getElem? (i := 949) (by decide +kernel), List.mem_of_getElem? (i := 1341) (by decide +kernel), List.mem_of_getElem? (i := 1342) (by decide +kernel)⟩
theorem lw_p100 : lw_okq (⟨"PathCycleModel", "laysPhases", "()V"⟩, 30) := ⟨⟨by decide +kernel, by decide +kernel⟩, List.mem_of_getElem? (i := 949) (by decide +kernel), List.mem_of_getElem? (i := 1345) (by decide +kernel), List.mem_of_getElem? (i := 1346) (by decide +kernel)⟩
theorem lw_p101 : lw_okq (⟨"PathCycleModel", "ownPhase", "(II)I"⟩, 30) := ⟨⟨by decide +kernel, by decide +kernel⟩, List.mem_of_getElem? (i := 949) (by decide +kernel), List.mem_of_getElem? (i := 1349) (by decide +kernel), List.mem_of_getElem? (i := 1350) (by decide +kernel)⟩
theorem lw_p102 : lw_okq (⟨"PathCycleModel", "rowLong", "(I)I"⟩, 30) := ⟨⟨by decide +kernel, by decide +kernel⟩, List.mem_of_getElem? (i := 949) (by decide +kernel), List.mem_of_getElem? (i := 1353) (by decide +kernel), List.mem_of_getElem? (i := 1354) (by decide +kernel)⟩
theorem lw_p103 : lw_okq (⟨"PathCycleModel", "rowOf", "(II)I"⟩, 30) := ⟨⟨by decide +kernel, by decide +kernel⟩, List.mem_of_getElem? (i := 949) (by decide +kernel), List.mem_of_getElem? (i := 1357) (by decide +kernel), List.mem_of_getElem? (i := 1358) (by decide +kernel)⟩
theorem lw_p104 : lw_okq (⟨"PathCycleModel", "stepOf", "(II)I"⟩, 30) := ⟨⟨by decide +kernel, by decide +kernel⟩, List.mem_of_getElem? (i := 949) (by decide +kernel), List.mem_of_getElem? (i := 1361) (by decide +kernel), List.mem_of_getElem? (i := 1362) (by decide +kernel)⟩
theorem lw_p105 : lw_okq (⟨"PathCycleModel", "rest", "(I)I"⟩, 30) := ⟨⟨by decide +kernel, by decide +kernel⟩, List.mem_of_getElem? (i := 949) (by decide +kernel), List.mem_of_getElem? (i := 1365) (by decide +kernel), List.mem_of_getElem? (i := 1366) (by decide +kernel)⟩
theorem lw_p106 : lw_okq (⟨"PathCycleModel", "residueOf", "(II)I"⟩, 30) := ⟨⟨by decide +kernel, by decide +kernel⟩, List.mem_of_getElem? (i := 949) (by decide +kernel), List.mem_of_getElem? (i := 1373) (by decide +kernel), List.mem_of_getElem? (i := 1374) (by decide +kernel)⟩
theorem lw_p107 : lw_okq (⟨"PathCycleModel", "countsFirst", "(II)V"⟩, 30) := ⟨⟨by decide +kernel, by decide +kernel⟩, List.mem_of_getElem? (i := 949) (by decide +kernel), List.mem_of_getElem? (i := 1381) (by decide +kernel), List.mem_of_getElem? (i := 1382) (by decide +kernel)⟩
theorem lw_p108 : lw_okq (⟨"PathCycleModel", "stateOf", "(I)I"⟩, 30) := ⟨⟨by decide +kernel, by decide +kernel⟩, List.mem_of_getElem? (i := 949) (by decide +kernel), List.mem_of_getElem? (i := 1389) (by decide +kernel), List.mem_of_getElem? (i := 1390) (by decide +kernel)⟩
theorem lw_p109 : lw_okq (⟨"PathCycleModel", "stateNow", "()I"⟩, 30) := ⟨⟨by decide +kernel, by decide +kernel⟩, List.mem_of_getElem? (i := 949) (by decide +kernel), List.mem_of_getElem? (i := 1393) (by decide +kernel), List.mem_of_getElem? (i := 1394) (by decide +kernel)⟩
theorem lw_p110 : lw_okq (⟨"PathCycleModel", "isNothing", "()Z"⟩, 30) := ⟨⟨by decide +kernel, by decide +kernel⟩, List.mem_of_getElem? (i := 949) (by decide +kernel), List.mem_of_getElem? (i := 1397) (by decide +kernel), List.mem_of_getElem? (i := 1398) (by decide +kernel)⟩
theorem lw_p111 : lw_okq (⟨"PathCycleModel", "isOneAlone", "()Z"⟩, 30) := ⟨⟨by decide +kernel, by decide +kernel⟩, List.mem_of_getElem? (i := 949) (by decide +kernel), List.mem_of_getElem? (i := 1401) (by decide +kernel), List.mem_of_getElem? (i := 1402) (by decide +kernel)⟩
def lw_privs_7 : List (MethodName × Nat) := [(⟨"PathCycleModel", "layFewest", "()I"⟩, 30), (⟨"PathCycleModel", "layCogs", "()I"⟩, 30), (⟨"PathCycleModel", "isStep", "(I)Z"⟩, 30), (⟨"PathCycleModel", "isScan", "(I)Z"⟩, 30), (⟨"PathCycleModel", "laysPhases", "()V"⟩, 30), (⟨"PathCycleModel", "ownPhase", "(II)I"⟩, 30), (⟨"PathCycleModel", "rowLong", "(I)I"⟩, 30), (⟨"PathCycleModel", "rowOf", "(II)I"⟩, 30), (⟨"PathCycleModel", "stepOf", "(II)I"⟩, 30), (⟨"PathCycleModel", "rest", "(I)I"⟩, 30), (⟨"PathCycleModel", "residueOf", "(II)I"⟩, 30), (⟨"PathCycleModel", "countsFirst", "(II)V"⟩, 30), (⟨"PathCycleModel", "stateOf", "(I)I"⟩, 30), (⟨"PathCycleModel", "stateNow", "()I"⟩, 30), (⟨"PathCycleModel", "isNothing", "()Z"⟩, 30), (⟨"PathCycleModel", "isOneAlone", "()Z"⟩, 30)]
theorem lw_r7 : ∀ q ∈ lw_privs_7, lw_okq q := List.forall_mem_cons.mpr ⟨lw_p96, List.forall_mem_cons.mpr ⟨lw_p97, List.forall_mem_cons.mpr ⟨lw_p98, List.forall_mem_cons.mpr ⟨lw_p99, List.forall_mem_cons.mpr ⟨lw_p100, List.forall_mem_cons.mpr ⟨lw_p101, List.forall_mem_cons.mpr ⟨lw_p102, List.forall_mem_cons.mpr ⟨lw_p103, List.forall_mem_cons.mpr ⟨lw_p104, List.forall_mem_cons.mpr ⟨lw_p105, List.forall_mem_cons.mpr ⟨lw_p106, List.forall_mem_cons.mpr ⟨lw_p107, List.forall_mem_cons.mpr ⟨lw_p108, List.forall_mem_cons.mpr ⟨lw_p109, List.forall_mem_cons.mpr ⟨lw_p110, List.forall_mem_cons.mpr ⟨lw_p111, fun _ h => absurd h List.not_mem_nil⟩⟩⟩⟩⟩⟩⟩⟩⟩⟩⟩⟩⟩⟩⟩⟩
theorem lw_p112 : lw_okq (⟨"PathCycleModel", "one", "(Z)I"⟩, 30) := ⟨⟨by decide +kernel, by decide +kernel⟩, List.mem_of_getElem? (i := 949) (by decide +kernel), List.mem_of_getElem? (i := 1405) (by decide +kernel), List.mem_of_getElem? (i := 1406) (by decide +kernel)⟩
theorem lw_p113 : lw_okq (⟨"PathCycleModel", "isFree", "(I)Z"⟩, 30) := ⟨⟨by decide +kernel, by decide +kernel⟩, List.mem_of_getElem? (i := 949) (by decide +kernel), List.mem_of_getElem? (i := 1409) (by decide +kernel), List.mem_of_getElem? (i := 1410) (by decide +kernel)⟩
theorem lw_p114 : lw_okq (⟨"PathCycleModel", "isLeak", "(I)Z"⟩, 30) := ⟨⟨by decide +kernel, by decide +kernel⟩, List.mem_of_getElem? (i := 949) (by decide +kernel), List.mem_of_getElem? (i := 1413) (by decide +kernel), List.mem_of_getElem? (i := 1414) (by decide +kernel)⟩
theorem lw_p115 : lw_okq (⟨"PathCycleModel", "changesOf", "(I)I"⟩, 30) := ⟨⟨by decide +kernel, by decide +kernel⟩, List.mem_of_getElem? (i := 949) (by decide +kernel), List.mem_of_getElem? (i := 1417) (by decide +kernel), List.mem_of_getElem? (i := 1418) (by decide +kernel)⟩
theorem lw_p116 : lw_okq (⟨"PathCycleModel", "greatestOrder", "(I)I"⟩, 30) := ⟨⟨by decide +kernel, by decide +kernel⟩, List.mem_of_getElem? (i := 949) (by decide +kernel), List.mem_of_getElem? (i := 1421) (by decide +kernel), List.mem_of_getElem? (i := 1422) (by decide +kernel)⟩
theorem lw_p117 : lw_okq (⟨"PathCycleModel", "leaks", "()I"⟩, 30) := ⟨⟨by decide +kernel, by decide +kernel⟩, List.mem_of_getElem? (i := 949) (by decide +kernel), List.mem_of_getElem? (i := 1429) (by decide +kernel), List.mem_of_getElem? (i := 1430) (by decide +kernel)⟩
theorem lw_p118 : lw_okq (⟨"PathCycleModel", "losts", "()I"⟩, 30) := ⟨⟨by decide +kernel, by decide +kernel⟩, List.mem_of_getElem? (i := 949) (by decide +kernel), List.mem_of_getElem? (i := 1437) (by decide +kernel), List.mem_of_getElem? (i := 1438) (by decide +kernel)⟩
theorem lw_p119 : lw_okq (⟨"PathCycleModel", "isLost", "(I)Z"⟩, 30) := ⟨⟨by decide +kernel, by decide +kernel⟩, List.mem_of_getElem? (i := 949) (by decide +kernel), List.mem_of_getElem? (i := 1441) (by decide +kernel), List.mem_of_getElem? (i := 1442) (by decide +kernel)⟩
theorem lw_p120 : lw_okq (⟨"PathCycleModel", "isStoppedBy", "(III)Z"⟩, 30) := ⟨⟨by decide +kernel, by decide +kernel⟩, List.mem_of_getElem? (i := 949) (by decide +kernel), List.mem_of_getElem? (i := 1453) (by decide +kernel), List.mem_of_getElem? (i := 1454) (by decide +kernel)⟩
theorem lw_p121 : lw_okq (⟨"PathCycleModel", "isGood", "()Z"⟩, 30) := ⟨⟨by decide +kernel, by decide +kernel⟩, List.mem_of_getElem? (i := 949) (by decide +kernel), List.mem_of_getElem? (i := 1461) (by decide +kernel), List.mem_of_getElem? (i := 1462) (by decide +kernel)⟩
theorem lw_p122 : lw_okq (⟨"PathCycleModel", "areAnyGone", "()Z"⟩, 30) := ⟨⟨by decide +kernel, by decide +kernel⟩, List.mem_of_getElem? (i := 949) (by decide +kernel), List.mem_of_getElem? (i := 1469) (by decide +kernel), List.mem_of_getElem? (i := 1470) (by decide +kernel)⟩
theorem lw_p123 : lw_okq (⟨"PathCycleModel", "isGoodSoFar", "()Z"⟩, 30) := ⟨⟨by decide +kernel, by decide +kernel⟩, List.mem_of_getElem? (i := 949) (by decide +kernel), List.mem_of_getElem? (i := 1473) (by decide +kernel), List.mem_of_getElem? (i := 1474) (by decide +kernel)⟩
theorem lw_p124 : lw_okq (⟨"PathCycleModel", "below", "(I)I"⟩, 30) := ⟨⟨by decide +kernel, by decide +kernel⟩, List.mem_of_getElem? (i := 949) (by decide +kernel), List.mem_of_getElem? (i := 1493) (by decide +kernel), List.mem_of_getElem? (i := 1494) (by decide +kernel)⟩
theorem lw_p125 : lw_okq (⟨"PathCycleModel", "above", "(I)I"⟩, 30) := ⟨⟨by decide +kernel, by decide +kernel⟩, List.mem_of_getElem? (i := 949) (by decide +kernel), List.mem_of_getElem? (i := 1497) (by decide +kernel), List.mem_of_getElem? (i := 1498) (by decide +kernel)⟩
theorem lw_p126 : lw_okq (⟨"PathCycleModel", "manyOf", "(I)I"⟩, 30) := ⟨⟨by decide +kernel, by decide +kernel⟩, List.mem_of_getElem? (i := 949) (by decide +kernel), List.mem_of_getElem? (i := 1533) (by decide +kernel), List.mem_of_getElem? (i := 1534) (by decide +kernel)⟩
theorem lw_p127 : lw_okq (⟨"PathCycleModel", "weightsOf", "(Z)I"⟩, 30) := ⟨⟨by decide +kernel, by decide +kernel⟩, List.mem_of_getElem? (i := 949) (by decide +kernel), List.mem_of_getElem? (i := 1537) (by decide +kernel), List.mem_of_getElem? (i := 1538) (by decide +kernel)⟩
def lw_privs_8 : List (MethodName × Nat) := [(⟨"PathCycleModel", "one", "(Z)I"⟩, 30), (⟨"PathCycleModel", "isFree", "(I)Z"⟩, 30), (⟨"PathCycleModel", "isLeak", "(I)Z"⟩, 30), (⟨"PathCycleModel", "changesOf", "(I)I"⟩, 30), (⟨"PathCycleModel", "greatestOrder", "(I)I"⟩, 30), (⟨"PathCycleModel", "leaks", "()I"⟩, 30), (⟨"PathCycleModel", "losts", "()I"⟩, 30), (⟨"PathCycleModel", "isLost", "(I)Z"⟩, 30), (⟨"PathCycleModel", "isStoppedBy", "(III)Z"⟩, 30), (⟨"PathCycleModel", "isGood", "()Z"⟩, 30), (⟨"PathCycleModel", "areAnyGone", "()Z"⟩, 30), (⟨"PathCycleModel", "isGoodSoFar", "()Z"⟩, 30), (⟨"PathCycleModel", "below", "(I)I"⟩, 30), (⟨"PathCycleModel", "above", "(I)I"⟩, 30), (⟨"PathCycleModel", "manyOf", "(I)I"⟩, 30), (⟨"PathCycleModel", "weightsOf", "(Z)I"⟩, 30)]
theorem lw_r8 : ∀ q ∈ lw_privs_8, lw_okq q := List.forall_mem_cons.mpr ⟨lw_p112, List.forall_mem_cons.mpr ⟨lw_p113, List.forall_mem_cons.mpr ⟨lw_p114, List.forall_mem_cons.mpr ⟨lw_p115, List.forall_mem_cons.mpr ⟨lw_p116, List.forall_mem_cons.mpr ⟨lw_p117, List.forall_mem_cons.mpr ⟨lw_p118, List.forall_mem_cons.mpr ⟨lw_p119, List.forall_mem_cons.mpr ⟨lw_p120, List.forall_mem_cons.mpr ⟨lw_p121, List.forall_mem_cons.mpr ⟨lw_p122, List.forall_mem_cons.mpr ⟨lw_p123, List.forall_mem_cons.mpr ⟨lw_p124, List.forall_mem_cons.mpr ⟨lw_p125, List.forall_mem_cons.mpr ⟨lw_p126, List.forall_mem_cons.mpr ⟨lw_p127, fun _ h => absurd h List.not_mem_nil⟩⟩⟩⟩⟩⟩⟩⟩⟩⟩⟩⟩⟩⟩⟩⟩
theorem lw_p128 : lw_okq (⟨"PathCycleModel", "lookAtRows", "(I)I"⟩, 30) := ⟨⟨by decide +kernel, by decide +kernel⟩, List.mem_of_getElem? (i := 949) (by decide +kernel), List.mem_of_getElem? (i := 1541) (by decide +kernel), List.mem_of_getElem? (i := 1542) (by decide +kernel)⟩
def lw_privs_9 : List (MethodName × Nat) := [(⟨"PathCycleModel", "lookAtRows", "(I)I"⟩, 30)]
theorem lw_r9 : ∀ q ∈ lw_privs_9, lw_okq q := List.forall_mem_cons.mpr ⟨lw_p128, fun _ h => absurd h List.not_mem_nil⟩
def lw_privs : List (MethodName × Nat) := lw_privs_1 ++ (lw_privs_2 ++ (lw_privs_3 ++ (lw_privs_4 ++ (lw_privs_5 ++ (lw_privs_6 ++ (lw_privs_7 ++ (lw_privs_8 ++ (lw_privs_9))))))))
def lw_tbl : List Cond := k2_sels lw_privs ++ tables_1
theorem lw_privs_ok : ∀ q ∈ lw_privs, lw_okq q := by
  show ∀ q ∈ lw_privs_1 ++ (lw_privs_2 ++ (lw_privs_3 ++ (lw_privs_4 ++ (lw_privs_5 ++ (lw_privs_6 ++ (lw_privs_7 ++ (lw_privs_8 ++ (lw_privs_9)))))))), lw_okq q
  exact List.forall_mem_append.mpr ⟨lw_r1, List.forall_mem_append.mpr ⟨lw_r2, List.forall_mem_append.mpr ⟨lw_r3, List.forall_mem_append.mpr ⟨lw_r4, List.forall_mem_append.mpr ⟨lw_r5, List.forall_mem_append.mpr ⟨lw_r6, List.forall_mem_append.mpr ⟨lw_r7, List.forall_mem_append.mpr ⟨lw_r8, lw_r9⟩⟩⟩⟩⟩⟩⟩⟩
/-- the streams that the claim lets the run draw from -/
abbrev lw_cs : List Choice := [Jvm.Choice.named "NaN.bits"]
theorem lw_bits : nanBits ∈ lw_cs := by first | decide | exact List.mem_cons_self | simp [lw_cs, nanBits]

/-! ===== BEGIN words of one list among another's, by their places ===== -/
theorem goodIn_r {big : List Cond} (ws : List Cond) (ps : List Nat) (hp : ws = ps.filterMap (fun i => big[i]?)) (h : ws.all goodWord = true) : GoodIn big ws := by
  intro w hw
  have h1 := List.all_eq_true.mp h w hw
  rw [hp] at hw
  obtain ⟨i, -, hi⟩ := List.mem_filterMap.mp hw
  have hm : w ∈ big := by first | exact List.mem_of_getElem? hi | exact List.getElem?_mem hi
  exact ⟨hm, good_of_word h1⟩
theorem goodIn_app {big a b : List Cond} (ha : GoodIn big a) (hb : GoodIn big b) : GoodIn big (a ++ b) := fun w h => (List.mem_append.mp h).elim (ha w) (hb w)
theorem goodIn_ca {big a b : List Cond} {c : Cond} (ha : GoodIn big (c :: a)) (hb : GoodIn big b) : GoodIn big (c :: (a ++ b)) := fun w h => (List.mem_cons.mp h).elim (fun e => ha w (List.mem_cons.mpr (Or.inl e))) (fun h => (List.mem_append.mp h).elim (fun h => ha w (List.mem_cons.mpr (Or.inr h))) (hb w))
theorem goodIn_sub {big ws : List Cond} (hm : ∀ w ∈ ws, w ∈ big) (h : ws.all goodWord = true) : GoodIn big ws := fun w hw => ⟨hm w hw, good_of_word (List.all_eq_true.mp h w hw)⟩
/-! ===== END ===== -/

/-! ===== BEGIN new T[n][m]: the outer array a place, the inner ones among the pooled ===== -/
/-- f, but v at every address of l -/
def vr_up {α : Type} (f : Nat → α) (l : List Nat) (v : α) : Nat → α := fun a => if a ∈ l then v else f a
theorem vr_up_in {α : Type} {f : Nat → α} {l : List Nat} {v : α} {a : Nat} (h : a ∈ l) : vr_up f l v a = v := if_pos h
theorem vr_up_ne {α : Type} {f : Nat → α} {l : List Nat} {v : α} {a : Nat} (h : a ∉ l) : vr_up f l v a = f a := if_neg h
theorem vr_outer (c : ClassId) (N h0 : Nat) : ∀ i : Nat, Jvm.Free.Multi.outerC c N h0 i = arrV c N (fun j => va_rf (if j < i then some (h0 + 1 + j) else none))
  | 0 => by
    show ({ cls := c, slots := Array.replicate N .null, vm := .none } : Cell) = _
    rw [arrV_new]
    refine congrArg (arrV c N) (funext fun j => ?_)
    simp [va_rf]
  | i + 1 => by
    show (Jvm.Free.Multi.outerC c N h0 i).setSlot i (.ref (h0 + 1 + i)) = _
    rw [vr_outer c N h0 i, arrV_store]
    refine congrArg (arrV c N) (funext fun j => ?_)
    by_cases e : j = i
    · subst e
      simp [updV, va_rf]
    · by_cases h : j < i
      · simp [updV, e, h, Nat.lt_succ_of_lt h]
      · simp [updV, e, h, show ¬ j < i + 1 by omega]

/-! ===== END ===== -/

def RX0 : String := "PathCycle$Cogs"
def TX0 : u_T := fun k => match k with
  | 0 => ("PathCycle$Cogs", "known", "Z", false)
  | 1 => ("PathCycle$Cogs", "length", "I", false)
  | 2 => ("PathCycle$Cogs", "picks", "[I", true)
  | 3 => ("PathCycle$Cogs", "sorted", "[I", true)
  | _ => ("PathCycle$Cogs", "starts", "[I", true)
def tyX0 : Nat → FieldType := fun k => match k with
  | 0 => .boolean
  | 1 => .int
  | 2 => .array .int
  | 3 => .array .int
  | _ => .array .int
abbrev wsX00 : List Cond := u_ws RX0 TX0 5
theorem nmX0 : ∀ a, a < 5 → ∀ b, b < 5 → a ≠ b → (TX0 a).2.1 ≠ (TX0 b).2.1 := by decide +kernel
theorem tyX0_ok : ∀ k, k < 5 → parseFieldDescriptor (TX0 k).2.2.1 = some (tyX0 k) := by decide +kernel
abbrev cX0_init : ByteArray := prog_2_method_1_code
def yX0_init : MethodName := ⟨RX0, "<init>", "()V"⟩
abbrev cX0_search : ByteArray := prog_2_method_2_code
def yX0_search : MethodName := ⟨RX0, "search", "(LPathCycle$Wants;LPathCycle$Paths;[BI)V"⟩
abbrev cX0_sortOut : ByteArray := prog_2_method_3_code
def yX0_sortOut : MethodName := ⟨RX0, "sortOut", "(LPathCycle$Wants;LPathCycle$Paths;[B)V"⟩
abbrev cX0_pick : ByteArray := prog_2_method_4_code
def yX0_pick : MethodName := ⟨RX0, "pick", "(LPathCycle$Cogs;LPathCycle$Wants;LPathCycle$Paths;[BII)Z"⟩
abbrev cX0_fits : ByteArray := prog_2_method_5_code
def yX0_fits : MethodName := ⟨RX0, "fits", "(LPathCycle$Wants;LPathCycle$Paths;[BII)Z"⟩
def RX1 : String := "PathCycle$Cycle"
def TX1 : u_T := fun k => match k with
  | 0 => ("PathCycle$Cycle", "units", "I", false)
  | 1 => ("PathCycle$Cycle", "follows", "Z", false)
  | 2 => ("PathCycle$Cycle", "lengths", "[I", true)
  | 3 => ("PathCycle$Cycle", "steps", "[I", true)
  | 4 => ("PathCycle$Cycle", "rows", "[I", true)
  | _ => ("PathCycle$Cycle", "sizes", "[I", true)
def tyX1 : Nat → FieldType := fun k => match k with
  | 0 => .int
  | 1 => .boolean
  | 2 => .array .int
  | 3 => .array .int
  | 4 => .array .int
  | _ => .array .int
abbrev wsX10 : List Cond := u_ws RX1 TX1 6
theorem nmX1 : ∀ a, a < 6 → ∀ b, b < 6 → a ≠ b → (TX1 a).2.1 ≠ (TX1 b).2.1 := by decide +kernel
theorem tyX1_ok : ∀ k, k < 6 → parseFieldDescriptor (TX1 k).2.2.1 = some (tyX1 k) := by decide +kernel
abbrev cX1_init : ByteArray := prog_3_method_1_code
def yX1_init : MethodName := ⟨RX1, "<init>", "()V"⟩
abbrev cX1_begin : ByteArray := prog_3_method_2_code
def yX1_begin : MethodName := ⟨RX1, "begin", "()V"⟩
abbrev cX1_copyFrom : ByteArray := prog_3_method_3_code
def yX1_copyFrom : MethodName := ⟨RX1, "copyFrom", "(LPathCycle$Cycle;)V"⟩
abbrev cX1_countScans : ByteArray := prog_3_method_4_code
def yX1_countScans : MethodName := ⟨RX1, "countScans", "()I"⟩
abbrev cX1_scansBut : ByteArray := prog_3_method_5_code
def yX1_scansBut : MethodName := ⟨RX1, "scansBut", "(I)I"⟩
abbrev cX1_exchange : ByteArray := prog_3_method_6_code
def yX1_exchange : MethodName := ⟨RX1, "exchange", "(II)V"⟩
abbrev cX1_takeRows : ByteArray := prog_3_method_7_code
def yX1_takeRows : MethodName := ⟨RX1, "takeRows", "([I[I)V"⟩
abbrev cX1_ownPhase : ByteArray := prog_3_method_8_code
def yX1_ownPhase : MethodName := ⟨RX1, "ownPhase", "(II)I"⟩
def RX2 : String := "PathCycle$Fewest"
def TX2 : u_T := fun k => match k with
  | 0 => ("PathCycle$Fewest", "known", "Z", false)
  | 1 => ("PathCycle$Fewest", "product", "I", false)
  | 2 => ("PathCycle$Fewest", "best", "[I", true)
  | 3 => ("PathCycle$Fewest", "picks", "[I", true)
  | _ => ("PathCycle$Fewest", "limit", "I", false)
def tyX2 : Nat → FieldType := fun k => match k with
  | 0 => .boolean
  | 1 => .int
  | 2 => .array .int
  | 3 => .array .int
  | _ => .int
abbrev wsX20 : List Cond := u_ws RX2 TX2 5
theorem nmX2 : ∀ a, a < 5 → ∀ b, b < 5 → a ≠ b → (TX2 a).2.1 ≠ (TX2 b).2.1 := by decide +kernel
theorem tyX2_ok : ∀ k, k < 5 → parseFieldDescriptor (TX2 k).2.2.1 = some (tyX2 k) := by decide +kernel
abbrev cX2_init : ByteArray := prog_4_method_1_code
def yX2_init : MethodName := ⟨RX2, "<init>", "()V"⟩
abbrev cX2_search : ByteArray := prog_4_method_2_code
def yX2_search : MethodName := ⟨RX2, "search", "(LPathCycle$Wants;LPathCycle$Paths;I)V"⟩
abbrev cX2_pick : ByteArray := prog_4_method_3_code
def yX2_pick : MethodName := ⟨RX2, "pick", "(LPathCycle$Fewest;LPathCycle$Wants;LPathCycle$Paths;IIII)V"⟩
def RX3 : String := "PathCycle$Paths"
def TX3 : u_T := fun k => match k with
  | 0 => ("PathCycle$Paths", "count", "I", false)
  | 1 => ("PathCycle$Paths", "weighed", "Z", false)
  | 2 => ("PathCycle$Paths", "orders", "[B", true)
  | 3 => ("PathCycle$Paths", "numbers", "[S", true)
  | 4 => ("PathCycle$Paths", "weights", "[I", true)
  | _ => ("PathCycle$Paths", "spoiled", "[B", true)
def tyX3 : Nat → FieldType := fun k => match k with
  | 0 => .int
  | 1 => .boolean
  | 2 => .array .byte
  | 3 => .array .short
  | 4 => .array .int
  | _ => .array .byte
abbrev wsX30 : List Cond := u_ws RX3 TX3 6
theorem nmX3 : ∀ a, a < 6 → ∀ b, b < 6 → a ≠ b → (TX3 a).2.1 ≠ (TX3 b).2.1 := by decide +kernel
theorem tyX3_ok : ∀ k, k < 6 → parseFieldDescriptor (TX3 k).2.2.1 = some (tyX3 k) := by decide +kernel
abbrev cX3_init : ByteArray := prog_5_method_1_code
def yX3_init : MethodName := ⟨RX3, "<init>", "()V"⟩
abbrev cX3_list : ByteArray := prog_5_method_2_code
def yX3_list : MethodName := ⟨RX3, "list", "(LPathCycle$Pulses;)V"⟩
abbrev cX3_spell : ByteArray := prog_5_method_3_code
def yX3_spell : MethodName := ⟨RX3, "spell", "(ILPathCycle$Pulses;)V"⟩
abbrev cX3_keepsKinds : ByteArray := prog_5_method_4_code
def yX3_keepsKinds : MethodName := ⟨RX3, "keepsKinds", "(LPathCycle$Pulses;)Z"⟩
abbrev cX3_weigh : ByteArray := prog_5_method_5_code
def yX3_weigh : MethodName := ⟨RX3, "weigh", "(LPathCycle$Pulses;)V"⟩
abbrev cX3_isGone : ByteArray := prog_5_method_6_code
def yX3_isGone : MethodName := ⟨RX3, "isGone", "(I)Z"⟩
abbrev cX3_orderOf : ByteArray := prog_5_method_7_code
def yX3_orderOf : MethodName := ⟨RX3, "orderOf", "(II)I"⟩
abbrev cX3_changeOf : ByteArray := prog_5_method_8_code
def yX3_changeOf : MethodName := ⟨RX3, "changeOf", "(II)I"⟩
abbrev cX3_countChanges : ByteArray := prog_5_method_9_code
def yX3_countChanges : MethodName := ⟨RX3, "countChanges", "(II)I"⟩
abbrev cX3_greatestOrder : ByteArray := prog_5_method_10_code
def yX3_greatestOrder : MethodName := ⟨RX3, "greatestOrder", "(II)I"⟩
def RX4 : String := "PathCycle$Pulses"
def TX4 : u_T := fun k => match k with
  | 0 => ("PathCycle$Pulses", "n", "I", false)
  | 1 => ("PathCycle$Pulses", "most", "I", false)
  | 2 => ("PathCycle$Pulses", "kinds", "[I", true)
  | 3 => ("PathCycle$Pulses", "gradients", "[I", true)
  | 4 => ("PathCycle$Pulses", "weights", "[I", true)
  | _ => ("PathCycle$Pulses", "marks", "[B", true)
def tyX4 : Nat → FieldType := fun k => match k with
  | 0 => .int
  | 1 => .int
  | 2 => .array .int
  | 3 => .array .int
  | 4 => .array .int
  | _ => .array .byte
abbrev wsX40 : List Cond := u_ws RX4 TX4 6
theorem nmX4 : ∀ a, a < 6 → ∀ b, b < 6 → a ≠ b → (TX4 a).2.1 ≠ (TX4 b).2.1 := by decide +kernel
theorem tyX4_ok : ∀ k, k < 6 → parseFieldDescriptor (TX4 k).2.2.1 = some (tyX4 k) := by decide +kernel
abbrev cX4_init : ByteArray := prog_6_method_1_code
def yX4_init : MethodName := ⟨RX4, "<init>", "()V"⟩
abbrev cX4_begin : ByteArray := prog_6_method_2_code
def yX4_begin : MethodName := ⟨RX4, "begin", "(II)V"⟩
abbrev cX4_unmark : ByteArray := prog_6_method_3_code
def yX4_unmark : MethodName := ⟨RX4, "unmark", "()V"⟩
abbrev cX4_copyFrom : ByteArray := prog_6_method_4_code
def yX4_copyFrom : MethodName := ⟨RX4, "copyFrom", "(LPathCycle$Pulses;)V"⟩
abbrev cX4_firstWished : ByteArray := prog_6_method_5_code
def yX4_firstWished : MethodName := ⟨RX4, "firstWished", "(I)I"⟩
abbrev cX4_countMarks : ByteArray := prog_6_method_6_code
def yX4_countMarks : MethodName := ⟨RX4, "countMarks", "(II)I"⟩
def RX5 : String := "PathCycle$Scans"
def TX5 : u_T := fun k => match k with
  | 0 => ("PathCycle$Scans", "built", "Z", false)
  | 1 => ("PathCycle$Scans", "count", "I", false)
  | 2 => ("PathCycle$Scans", "units", "I", false)
  | 3 => ("PathCycle$Scans", "n", "I", false)
  | 4 => ("PathCycle$Scans", "latest", "I", false)
  | 5 => ("PathCycle$Scans", "phases", "[[I", true)
  | 6 => ("PathCycle$Scans", "turned", "[[I", true)
  | _ => ("PathCycle$Scans", "counts", "[I", true)
def tyX5 : Nat → FieldType := fun k => match k with
  | 0 => .boolean
  | 1 => .int
  | 2 => .int
  | 3 => .int
  | 4 => .int
  | 5 => .array (.array .int)
  | 6 => .array (.array .int)
  | _ => .array .int
abbrev wsX50 : List Cond := u_ws RX5 TX5 8
theorem nmX5 : ∀ a, a < 8 → ∀ b, b < 8 → a ≠ b → (TX5 a).2.1 ≠ (TX5 b).2.1 := by decide +kernel
theorem tyX5_ok : ∀ k, k < 8 → parseFieldDescriptor (TX5 k).2.2.1 = some (tyX5 k) := by decide +kernel
abbrev cX5_init : ByteArray := prog_7_method_1_code
def yX5_init : MethodName := ⟨RX5, "<init>", "()V"⟩
abbrev cX5_build : ByteArray := prog_7_method_2_code
def yX5_build : MethodName := ⟨RX5, "build", "(LPathCycle$Cycle;I)V"⟩
abbrev cX5_trackChief : ByteArray := prog_7_method_3_code
def yX5_trackChief : MethodName := ⟨RX5, "trackChief", "(LPathCycle$Paths;I)V"⟩
abbrev cX5_begin : ByteArray := prog_7_method_4_code
def yX5_begin : MethodName := ⟨RX5, "begin", "()V"⟩
abbrev cX5_addPulse : ByteArray := prog_7_method_5_code
def yX5_addPulse : MethodName := ⟨RX5, "addPulse", "(II[I[I)V"⟩
abbrev cX5_residues : ByteArray := prog_7_method_6_code
def yX5_residues : MethodName := ⟨RX5, "residues", "(LPathCycle$Paths;I)[I"⟩
abbrev cX5_tally : ByteArray := prog_7_method_7_code
def yX5_tally : MethodName := ⟨RX5, "tally", "(LPathCycle$Paths;II)[I"⟩
def RX6 : String := "PathCycle$Sum"
def TX6 : u_T := fun k => match k with
  | 0 => ("PathCycle$Sum", "units", "I", false)
  | 1 => ("PathCycle$Sum", "terms", "I", false)
  | 2 => ("PathCycle$Sum", "shifts", "[I", true)
  | 3 => ("PathCycle$Sum", "signs", "[I", true)
  | 4 => ("PathCycle$Sum", "turned", "[I", true)
  | 5 => ("PathCycle$Sum", "alive", "I", false)
  | 6 => ("PathCycle$Sum", "first", "I", false)
  | _ => ("PathCycle$Sum", "mixed", "Z", false)
def tyX6 : Nat → FieldType := fun k => match k with
  | 0 => .int
  | 1 => .int
  | 2 => .array .int
  | 3 => .array .int
  | 4 => .array .int
  | 5 => .int
  | 6 => .int
  | _ => .boolean
abbrev wsX60 : List Cond := u_ws RX6 TX6 8
theorem nmX6 : ∀ a, a < 8 → ∀ b, b < 8 → a ≠ b → (TX6 a).2.1 ≠ (TX6 b).2.1 := by decide +kernel
theorem tyX6_ok : ∀ k, k < 8 → parseFieldDescriptor (TX6 k).2.2.1 = some (tyX6 k) := by decide +kernel
abbrev cX6_init : ByteArray := prog_8_method_1_code
def yX6_init : MethodName := ⟨RX6, "<init>", "()V"⟩
abbrev cX6_begin : ByteArray := prog_8_method_2_code
def yX6_begin : MethodName := ⟨RX6, "begin", "(I)V"⟩
abbrev cX6_factor : ByteArray := prog_8_method_3_code
def yX6_factor : MethodName := ⟨RX6, "factor", "(I)V"⟩
abbrev cX6_add : ByteArray := prog_8_method_4_code
def yX6_add : MethodName := ⟨RX6, "add", "(II)V"⟩
abbrev cX6_stateOf : ByteArray := prog_8_method_5_code
def yX6_stateOf : MethodName := ⟨RX6, "stateOf", "([II)I"⟩
abbrev cX6_state : ByteArray := prog_8_method_6_code
def yX6_state : MethodName := ⟨RX6, "state", "()I"⟩
def RX7 : String := "PathCycle$Tape"
def TX7 : u_T := fun k => match k with
  | 0 => ("PathCycle$Tape", "size", "I", false)
  | 1 => ("PathCycle$Tape", "fault", "I", false)
  | 2 => ("PathCycle$Tape", "faultPlace", "I", false)
  | 3 => ("PathCycle$Tape", "place", "I", false)
  | 4 => ("PathCycle$Tape", "bytes", "[B", true)
  | 5 => ("PathCycle$Tape", "numbers", "[I", true)
  | _ => ("PathCycle$Tape", "sizes", "[I", true)
def tyX7 : Nat → FieldType := fun k => match k with
  | 0 => .int
  | 1 => .int
  | 2 => .int
  | 3 => .int
  | 4 => .array .byte
  | 5 => .array .int
  | _ => .array .int
abbrev wsX70 : List Cond := u_ws RX7 TX7 7
theorem nmX7 : ∀ a, a < 7 → ∀ b, b < 7 → a ≠ b → (TX7 a).2.1 ≠ (TX7 b).2.1 := by decide +kernel
theorem tyX7_ok : ∀ k, k < 7 → parseFieldDescriptor (TX7 k).2.2.1 = some (tyX7 k) := by decide +kernel
abbrev cX7_init : ByteArray := prog_9_method_1_code
def yX7_init : MethodName := ⟨RX7, "<init>", "()V"⟩
abbrev cX7_put : ByteArray := prog_9_method_2_code
def yX7_put : MethodName := ⟨RX7, "put", "(I)V"⟩
abbrev cX7_read : ByteArray := prog_9_method_3_code
def yX7_read : MethodName := ⟨RX7, "read", "(II)I"⟩
abbrev cX7_readRow : ByteArray := prog_9_method_4_code
def yX7_readRow : MethodName := ⟨RX7, "readRow", "(II)Z"⟩
abbrev cX7_readName : ByteArray := prog_9_method_5_code
def yX7_readName : MethodName := ⟨RX7, "readName", "(I)I"⟩
abbrev cX7_readNumbers : ByteArray := prog_9_method_6_code
def yX7_readNumbers : MethodName := ⟨RX7, "readNumbers", "(II)Z"⟩
abbrev cX7_readNumber : ByteArray := prog_9_method_7_code
def yX7_readNumber : MethodName := ⟨RX7, "readNumber", "()I"⟩
abbrev cX7_skipBlanks : ByteArray := prog_9_method_8_code
def yX7_skipBlanks : MethodName := ⟨RX7, "skipBlanks", "()V"⟩
abbrev cX7_digitHere : ByteArray := prog_9_method_9_code
def yX7_digitHere : MethodName := ⟨RX7, "digitHere", "()Z"⟩
abbrev cX7_byteHere : ByteArray := prog_9_method_10_code
def yX7_byteHere : MethodName := ⟨RX7, "byteHere", "()I"⟩
abbrev cX7_fail : ByteArray := prog_9_method_11_code
def yX7_fail : MethodName := ⟨RX7, "fail", "(II)Z"⟩
def RX8 : String := "PathCycle$Wants"
def TX8 : u_T := fun k => match k with
  | 0 => ("PathCycle$Wants", "known", "Z", false)
  | 1 => ("PathCycle$Wants", "possible", "Z", false)
  | 2 => ("PathCycle$Wants", "n", "I", false)
  | 3 => ("PathCycle$Wants", "count", "I", false)
  | 4 => ("PathCycle$Wants", "chiefs", "[I", true)
  | 5 => ("PathCycle$Wants", "common", "[I", true)
  | 6 => ("PathCycle$Wants", "othersCount", "I", false)
  | 7 => ("PathCycle$Wants", "others", "[I", true)
  | _ => ("PathCycle$Wants", "last", "[B", true)
def tyX8 : Nat → FieldType := fun k => match k with
  | 0 => .boolean
  | 1 => .boolean
  | 2 => .int
  | 3 => .int
  | 4 => .array .int
  | 5 => .array .int
  | 6 => .int
  | 7 => .array .int
  | _ => .array .byte
abbrev wsX80 : List Cond := u_ws RX8 TX8 9
theorem nmX8 : ∀ a, a < 9 → ∀ b, b < 9 → a ≠ b → (TX8 a).2.1 ≠ (TX8 b).2.1 := by decide +kernel
theorem tyX8_ok : ∀ k, k < 9 → parseFieldDescriptor (TX8 k).2.2.1 = some (tyX8 k) := by decide +kernel
abbrev cX8_init : ByteArray := prog_10_method_1_code
def yX8_init : MethodName := ⟨RX8, "<init>", "()V"⟩
abbrev cX8_gather : ByteArray := prog_10_method_2_code
def yX8_gather : MethodName := ⟨RX8, "gather", "(LPathCycle$Pulses;LPathCycle$Paths;I)V"⟩
abbrev cX8_sort : ByteArray := prog_10_method_3_code
def yX8_sort : MethodName := ⟨RX8, "sort", "(LPathCycle$Pulses;LPathCycle$Paths;I)V"⟩
abbrev cX8_gap : ByteArray := prog_10_method_4_code
def yX8_gap : MethodName := ⟨RX8, "gap", "(LPathCycle$Paths;II)I"⟩
abbrev cX8_divisorOf : ByteArray := prog_10_method_5_code
def yX8_divisorOf : MethodName := ⟨RX8, "divisorOf", "(II)I"⟩
abbrev cX8_countLeft : ByteArray := prog_10_method_6_code
def yX8_countLeft : MethodName := ⟨RX8, "countLeft", "(LPathCycle$Paths;[I)I"⟩
abbrev cX8_keepLeft : ByteArray := prog_10_method_7_code
def yX8_keepLeft : MethodName := ⟨RX8, "keepLeft", "(LPathCycle$Paths;III)I"⟩
def RX9 : String := "PathCycle"
def TX9 : u_T := fun k => match k with
  | 0 => ("PathCycle", "told", "LPathCycle$Pulses;", true)
  | 1 => ("PathCycle", "cycle", "LPathCycle$Cycle;", true)
  | 2 => ("PathCycle", "keptTold", "LPathCycle$Pulses;", true)
  | 3 => ("PathCycle", "keptCycle", "LPathCycle$Cycle;", true)
  | 4 => ("PathCycle", "kept", "Z", false)
  | 5 => ("PathCycle", "tape", "LPathCycle$Tape;", true)
  | 6 => ("PathCycle", "paths", "LPathCycle$Paths;", true)
  | 7 => ("PathCycle", "chief", "I", false)
  | 8 => ("PathCycle", "scans", "LPathCycle$Scans;", true)
  | 9 => ("PathCycle", "sum", "LPathCycle$Sum;", true)
  | 10 => ("PathCycle", "states", "[B", true)
  | 11 => ("PathCycle", "statesKnown", "Z", false)
  | 12 => ("PathCycle", "scratch", "[I", true)
  | 13 => ("PathCycle", "wants", "LPathCycle$Wants;", true)
  | 14 => ("PathCycle", "fewestSteps", "LPathCycle$Fewest;", true)
  | _ => ("PathCycle", "cogSteps", "LPathCycle$Cogs;", true)
def tyX9 : Nat → FieldType := fun k => match k with
  | 0 => .object "PathCycle$Pulses"
  | 1 => .object "PathCycle$Cycle"
  | 2 => .object "PathCycle$Pulses"
  | 3 => .object "PathCycle$Cycle"
  | 4 => .boolean
  | 5 => .object "PathCycle$Tape"
  | 6 => .object "PathCycle$Paths"
  | 7 => .int
  | 8 => .object "PathCycle$Scans"
  | 9 => .object "PathCycle$Sum"
  | 10 => .array .byte
  | 11 => .boolean
  | 12 => .array .int
  | 13 => .object "PathCycle$Wants"
  | 14 => .object "PathCycle$Fewest"
  | _ => .object "PathCycle$Cogs"
abbrev wsX90 : List Cond := u_ws RX9 TX9 16
theorem nmX9 : ∀ a, a < 16 → ∀ b, b < 16 → a ≠ b → (TX9 a).2.1 ≠ (TX9 b).2.1 := by decide +kernel
theorem tyX9_ok : ∀ k, k < 16 → parseFieldDescriptor (TX9 k).2.2.1 = some (tyX9 k) := by decide +kernel
abbrev cX9_init : ByteArray := prog_1_method_1_code
def yX9_init : MethodName := ⟨RX9, "<init>", "()V"⟩
abbrev cX9_pulses : ByteArray := prog_1_method_2_code
def yX9_pulses : MethodName := ⟨RX9, "pulses", "(II)I"⟩
abbrev cX9_kind : ByteArray := prog_1_method_3_code
def yX9_kind : MethodName := ⟨RX9, "kind", "(II)Z"⟩
abbrev cX9_turn : ByteArray := prog_1_method_4_code
def yX9_turn : MethodName := ⟨RX9, "turn", "(I)Z"⟩
abbrev cX9_counter : ByteArray := prog_1_method_5_code
def yX9_counter : MethodName := ⟨RX9, "counter", "(II)I"⟩
abbrev cX9_step : ByteArray := prog_1_method_6_code
def yX9_step : MethodName := ⟨RX9, "step", "(III)Z"⟩
abbrev cX9_gradient : ByteArray := prog_1_method_7_code
def yX9_gradient : MethodName := ⟨RX9, "gradient", "(II)Z"⟩
abbrev cX9_weight : ByteArray := prog_1_method_8_code
def yX9_weight : MethodName := ⟨RX9, "weight", "(III)Z"⟩
abbrev cX9_swap : ByteArray := prog_1_method_9_code
def yX9_swap : MethodName := ⟨RX9, "swap", "(II)Z"⟩
abbrev cX9_follow : ByteArray := prog_1_method_10_code
def yX9_follow : MethodName := ⟨RX9, "follow", "(Z)Z"⟩
abbrev cX9_wish : ByteArray := prog_1_method_11_code
def yX9_wish : MethodName := ⟨RX9, "wish", "(IZ)Z"⟩
abbrev cX9_free : ByteArray := prog_1_method_12_code
def yX9_free : MethodName := ⟨RX9, "free", "(IZ)Z"⟩
abbrev cX9_freeAll : ByteArray := prog_1_method_13_code
def yX9_freeAll : MethodName := ⟨RX9, "freeAll", "(II)I"⟩
abbrev cX9_mark : ByteArray := prog_1_method_14_code
def yX9_mark : MethodName := ⟨RX9, "mark", "(IIZ)Z"⟩
abbrev cX9_feed : ByteArray := prog_1_method_15_code
def yX9_feed : MethodName := ⟨RX9, "feed", "(IIIII)I"⟩
abbrev cX9_end : ByteArray := prog_1_method_16_code
def yX9_end : MethodName := ⟨RX9, "end", "(I)Z"⟩
abbrev cX9_rows : ByteArray := prog_1_method_17_code
def yX9_rows : MethodName := ⟨RX9, "rows", "()I"⟩
abbrev cX9_fault : ByteArray := prog_1_method_18_code
def yX9_fault : MethodName := ⟨RX9, "fault", "(I)I"⟩
abbrev cX9_lay : ByteArray := prog_1_method_19_code
def yX9_lay : MethodName := ⟨RX9, "lay", "(I)I"⟩
abbrev cX9_layFewest : ByteArray := prog_1_method_20_code
def yX9_layFewest : MethodName := ⟨RX9, "layFewest", "()Z"⟩
abbrev cX9_layCogs : ByteArray := prog_1_method_21_code
def yX9_layCogs : MethodName := ⟨RX9, "layCogs", "()Z"⟩
abbrev cX9_order : ByteArray := prog_1_method_22_code
def yX9_order : MethodName := ⟨RX9, "order", "(II)I"⟩
abbrev cX9_find : ByteArray := prog_1_method_23_code
def yX9_find : MethodName := ⟨RX9, "find", "(IIII)I"⟩
abbrev cX9_phase : ByteArray := prog_1_method_24_code
def yX9_phase : MethodName := ⟨RX9, "phase", "(II)I"⟩
abbrev cX9_residue : ByteArray := prog_1_method_25_code
def yX9_residue : MethodName := ⟨RX9, "residue", "(II)I"⟩
abbrev cX9_many : ByteArray := prog_1_method_26_code
def yX9_many : MethodName := ⟨RX9, "many", "(II)I"⟩
abbrev cX9_path : ByteArray := prog_1_method_27_code
def yX9_path : MethodName := ⟨RX9, "path", "(II)I"⟩
abbrev cX9_leak : ByteArray := prog_1_method_28_code
def yX9_leak : MethodName := ⟨RX9, "leak", "(I)I"⟩
abbrev cX9_worst : ByteArray := prog_1_method_29_code
def yX9_worst : MethodName := ⟨RX9, "worst", "(II)I"⟩
abbrev cX9_leakByWeight : ByteArray := prog_1_method_30_code
def yX9_leakByWeight : MethodName := ⟨RX9, "leakByWeight", "(II)I"⟩
abbrev cX9_leakOfWeight : ByteArray := prog_1_method_31_code
def yX9_leakOfWeight : MethodName := ⟨RX9, "leakOfWeight", "(III)I"⟩
abbrev cX9_gatherLeaks : ByteArray := prog_1_method_32_code
def yX9_gatherLeaks : MethodName := ⟨RX9, "gatherLeaks", "()I"⟩
abbrev cX9_stopped : ByteArray := prog_1_method_33_code
def yX9_stopped : MethodName := ⟨RX9, "stopped", "(I)I"⟩
abbrev cX9_isStoppedBy : ByteArray := prog_1_method_34_code
def yX9_isStoppedBy : MethodName := ⟨RX9, "isStoppedBy", "(II)Z"⟩
abbrev cX9_pace : ByteArray := prog_1_method_35_code
def yX9_pace : MethodName := ⟨RX9, "pace", "(II)I"⟩
abbrev cX9_spare : ByteArray := prog_1_method_36_code
def yX9_spare : MethodName := ⟨RX9, "spare", "(I)I"⟩
abbrev cX9_wouldBeGood : ByteArray := prog_1_method_37_code
def yX9_wouldBeGood : MethodName := ⟨RX9, "wouldBeGood", "()Z"⟩
abbrev cX9_soonest : ByteArray := prog_1_method_38_code
def yX9_soonest : MethodName := ⟨RX9, "soonest", "()I"⟩
abbrev cX9_strikeScans : ByteArray := prog_1_method_39_code
def yX9_strikeScans : MethodName := ⟨RX9, "strikeScans", "(I)V"⟩
abbrev cX9_lost : ByteArray := prog_1_method_40_code
def yX9_lost : MethodName := ⟨RX9, "lost", "(I)I"⟩
abbrev cX9_early : ByteArray := prog_1_method_41_code
def yX9_early : MethodName := ⟨RX9, "early", "(II)I"⟩
abbrev cX9_earlyState : ByteArray := prog_1_method_42_code
def yX9_earlyState : MethodName := ⟨RX9, "earlyState", "(II)I"⟩
abbrev cX9_until : ByteArray := prog_1_method_43_code
def yX9_until : MethodName := ⟨RX9, "until", "(II)I"⟩
abbrev cX9_fewest : ByteArray := prog_1_method_44_code
def yX9_fewest : MethodName := ⟨RX9, "fewest", "(I)I"⟩
abbrev cX9_cogs : ByteArray := prog_1_method_45_code
def yX9_cogs : MethodName := ⟨RX9, "cogs", "(I)I"⟩
abbrev cX9_power : ByteArray := prog_1_method_46_code
def yX9_power : MethodName := ⟨RX9, "power", "(I)J"⟩
abbrev cX9_twiceCosine : ByteArray := prog_1_method_47_code
def yX9_twiceCosine : MethodName := ⟨RX9, "twiceCosine", "(II)I"⟩
abbrev cX9_would : ByteArray := prog_1_method_48_code
def yX9_would : MethodName := ⟨RX9, "would", "(IIIII)I"⟩
abbrev cX9_share : ByteArray := prog_1_method_49_code
def yX9_share : MethodName := ⟨RX9, "share", "(I)I"⟩
abbrev cX9_part : ByteArray := prog_1_method_50_code
def yX9_part : MethodName := ⟨RX9, "part", "(I)J"⟩
abbrev cX9_dividend : ByteArray := prog_1_method_51_code
def yX9_dividend : MethodName := ⟨RX9, "dividend", "(I)I"⟩
abbrev cX9_divisor : ByteArray := prog_1_method_52_code
def yX9_divisor : MethodName := ⟨RX9, "divisor", "(I)I"⟩
abbrev cX9_bitsOfFloat : ByteArray := prog_1_method_53_code
def yX9_bitsOfFloat : MethodName := ⟨RX9, "bitsOfFloat", "(F)I"⟩
abbrev cX9_bitsOfDouble : ByteArray := prog_1_method_54_code
def yX9_bitsOfDouble : MethodName := ⟨RX9, "bitsOfDouble", "(D)J"⟩
abbrev cX9_image : ByteArray := prog_1_method_55_code
def yX9_image : MethodName := ⟨RX9, "image", "(Z)Z"⟩
abbrev cX9_look : ByteArray := prog_1_method_56_code
def yX9_look : MethodName := ⟨RX9, "look", "(I)I"⟩
abbrev cX9_lookAtParts : ByteArray := prog_1_method_57_code
def yX9_lookAtParts : MethodName := ⟨RX9, "lookAtParts", "(I)I"⟩
abbrev cX9_isPulse : ByteArray := prog_1_method_58_code
def yX9_isPulse : MethodName := ⟨RX9, "isPulse", "(I)Z"⟩
abbrev cX9_isRow : ByteArray := prog_1_method_59_code
def yX9_isRow : MethodName := ⟨RX9, "isRow", "(I)Z"⟩
abbrev cX9_isCounter : ByteArray := prog_1_method_60_code
def yX9_isCounter : MethodName := ⟨RX9, "isCounter", "(I)Z"⟩
abbrev cX9_isPath : ByteArray := prog_1_method_61_code
def yX9_isPath : MethodName := ⟨RX9, "isPath", "(I)Z"⟩
abbrev cX9_isScan : ByteArray := prog_1_method_62_code
def yX9_isScan : MethodName := ⟨RX9, "isScan", "(I)Z"⟩
abbrev cX9_isGone : ByteArray := prog_1_method_63_code
def yX9_isGone : MethodName := ⟨RX9, "isGone", "(I)Z"⟩
abbrev cX9_matters : ByteArray := prog_1_method_64_code
def yX9_matters : MethodName := ⟨RX9, "matters", "(I)Z"⟩
abbrev cX9_isIn : ByteArray := prog_1_method_65_code
def yX9_isIn : MethodName := ⟨RX9, "isIn", "(II)Z"⟩
abbrev cX9_count : ByteArray := prog_1_method_66_code
def yX9_count : MethodName := ⟨RX9, "count", "(I)I"⟩
abbrev cX9_countWeights : ByteArray := prog_1_method_67_code
def yX9_countWeights : MethodName := ⟨RX9, "countWeights", "(I)I"⟩
abbrev cX9_member : ByteArray := prog_1_method_68_code
def yX9_member : MethodName := ⟨RX9, "member", "(II)I"⟩
abbrev cX9_stateOf : ByteArray := prog_1_method_69_code
def yX9_stateOf : MethodName := ⟨RX9, "stateOf", "(I)I"⟩
abbrev cX9_buildScans : ByteArray := prog_1_method_70_code
def yX9_buildScans : MethodName := ⟨RX9, "buildScans", "()V"⟩
abbrev cX9_weighPaths : ByteArray := prog_1_method_71_code
def yX9_weighPaths : MethodName := ⟨RX9, "weighPaths", "()V"⟩
abbrev cX9_gatherWants : ByteArray := prog_1_method_72_code
def yX9_gatherWants : MethodName := ⟨RX9, "gatherWants", "()V"⟩
abbrev cX9_findFewest : ByteArray := prog_1_method_73_code
def yX9_findFewest : MethodName := ⟨RX9, "findFewest", "()V"⟩
abbrev cX9_findCogs : ByteArray := prog_1_method_74_code
def yX9_findCogs : MethodName := ⟨RX9, "findCogs", "()V"⟩
abbrev cX9_pathsTold : ByteArray := prog_1_method_75_code
def yX9_pathsTold : MethodName := ⟨RX9, "pathsTold", "()V"⟩
abbrev cX9_goneTold : ByteArray := prog_1_method_76_code
def yX9_goneTold : MethodName := ⟨RX9, "goneTold", "()V"⟩
abbrev cX9_cycleTold : ByteArray := prog_1_method_77_code
def yX9_cycleTold : MethodName := ⟨RX9, "cycleTold", "()V"⟩
abbrev cX9_searchesTold : ByteArray := prog_1_method_78_code
def yX9_searchesTold : MethodName := ⟨RX9, "searchesTold", "()V"⟩
def RX10 : String := "PathCycleModel"
def TX10 : u_T := fun k => match k with
  | 0 => ("PathCycleModel", "told", "I", false)
  | 1 => ("PathCycleModel", "now", "[I", true)
  | 2 => ("PathCycleModel", "areStates", "Z", false)
  | 3 => ("PathCycleModel", "pathMany", "I", false)
  | 4 => ("PathCycleModel", "orders", "[I", true)
  | 5 => ("PathCycleModel", "tape", "[I", true)
  | 6 => ("PathCycleModel", "taped", "I", false)
  | 7 => ("PathCycleModel", "faultKind", "I", false)
  | 8 => ("PathCycleModel", "faultPlace", "I", false)
  | 9 => ("PathCycleModel", "at", "I", false)
  | 10 => ("PathCycleModel", "stop", "I", false)
  | 11 => ("PathCycleModel", "readLong", "[I", true)
  | 12 => ("PathCycleModel", "readRow", "[I", true)
  | 13 => ("PathCycleModel", "phases", "[I", true)
  | 14 => ("PathCycleModel", "counts", "[I", true)
  | 15 => ("PathCycleModel", "primitive", "[J", true)
  | 16 => ("PathCycleModel", "degree", "I", false)
  | 17 => ("PathCycleModel", "left", "[J", true)
  | 18 => ("PathCycleModel", "table", "[J", true)
  | 19 => ("PathCycleModel", "degrees", "[I", true)
  | 20 => ("PathCycleModel", "states", "[I", true)
  | 21 => ("PathCycleModel", "differs", "[I", true)
  | 22 => ("PathCycleModel", "must", "[Z", true)
  | 23 => ("PathCycleModel", "mattering", "I", false)
  | 24 => ("PathCycleModel", "number", "[I", true)
  | 25 => ("PathCycleModel", "best", "[I", true)
  | 26 => ("PathCycleModel", "heavy", "[I", true)
  | 27 => ("PathCycleModel", "soFar", "[I", true)
  | 28 => ("PathCycleModel", "hasImage", "Z", false)
  | _ => ("PathCycleModel", "images", "[I", true)
def tyX10 : Nat → FieldType := fun k => match k with
  | 0 => .int
  | 1 => .array .int
  | 2 => .boolean
  | 3 => .int
  | 4 => .array .int
  | 5 => .array .int
  | 6 => .int
  | 7 => .int
  | 8 => .int
  | 9 => .int
  | 10 => .int
  | 11 => .array .int
  | 12 => .array .int
  | 13 => .array .int
  | 14 => .array .int
  | 15 => .array .long
  | 16 => .int
  | 17 => .array .long
  | 18 => .array .long
  | 19 => .array .int
  | 20 => .array .int
  | 21 => .array .int
  | 22 => .array .boolean
  | 23 => .int
  | 24 => .array .int
  | 25 => .array .int
  | 26 => .array .int
  | 27 => .array .int
  | 28 => .boolean
  | _ => .array .int
abbrev wsX100 : List Cond := u_ws RX10 TX10 30
theorem nmX10 : ∀ a, a < 30 → ∀ b, b < 30 → a ≠ b → (TX10 a).2.1 ≠ (TX10 b).2.1 := by decide +kernel
theorem tyX10_ok : ∀ k, k < 30 → parseFieldDescriptor (TX10 k).2.2.1 = some (tyX10 k) := by decide +kernel
abbrev cX10_isIn : ByteArray := prog_12_method_2_code
def yX10_isIn : MethodName := ⟨RX10, "isIn", "(III)Z"⟩
abbrev cX10_n : ByteArray := prog_12_method_3_code
def yX10_n : MethodName := ⟨RX10, "n", "()I"⟩
abbrev cX10_m : ByteArray := prog_12_method_4_code
def yX10_m : MethodName := ⟨RX10, "m", "()I"⟩
abbrev cX10_turnOf : ByteArray := prog_12_method_5_code
def yX10_turnOf : MethodName := ⟨RX10, "turnOf", "()I"⟩
abbrev cX10_follows : ByteArray := prog_12_method_6_code
def yX10_follows : MethodName := ⟨RX10, "follows", "()Z"⟩
abbrev cX10_weightOf : ByteArray := prog_12_method_7_code
def yX10_weightOf : MethodName := ⟨RX10, "weightOf", "(II)I"⟩
abbrev cX10_lengthOf : ByteArray := prog_12_method_8_code
def yX10_lengthOf : MethodName := ⟨RX10, "lengthOf", "(I)I"⟩
abbrev cX10_stepOf : ByteArray := prog_12_method_9_code
def yX10_stepOf : MethodName := ⟨RX10, "stepOf", "(II)I"⟩
abbrev cX10_rowLong : ByteArray := prog_12_method_10_code
def yX10_rowLong : MethodName := ⟨RX10, "rowLong", "(I)I"⟩
abbrev cX10_rowOf : ByteArray := prog_12_method_11_code
def yX10_rowOf : MethodName := ⟨RX10, "rowOf", "(II)I"⟩
abbrev cX10_isPulse : ByteArray := prog_12_method_12_code
def yX10_isPulse : MethodName := ⟨RX10, "isPulse", "(I)Z"⟩
abbrev cX10_isCounter : ByteArray := prog_12_method_13_code
def yX10_isCounter : MethodName := ⟨RX10, "isCounter", "(I)Z"⟩
abbrev cX10_mayFollow : ByteArray := prog_12_method_14_code
def yX10_mayFollow : MethodName := ⟨RX10, "mayFollow", "(III)Z"⟩
abbrev cX10_orderOf : ByteArray := prog_12_method_15_code
def yX10_orderOf : MethodName := ⟨RX10, "orderOf", "(II)I"⟩
abbrev cX10_changeOf : ByteArray := prog_12_method_16_code
def yX10_changeOf : MethodName := ⟨RX10, "changeOf", "(II)I"⟩
abbrev cX10_laysPaths : ByteArray := prog_12_method_17_code
def yX10_laysPaths : MethodName := ⟨RX10, "laysPaths", "()V"⟩
abbrev cX10_init : ByteArray := prog_12_method_18_code
def yX10_init : MethodName := ⟨RX10, "<init>", "()V"⟩
abbrev cX10_isPath : ByteArray := prog_12_method_19_code
def yX10_isPath : MethodName := ⟨RX10, "isPath", "(I)Z"⟩
abbrev cX10_isWished : ByteArray := prog_12_method_20_code
def yX10_isWished : MethodName := ⟨RX10, "isWished", "(I)Z"⟩
abbrev cX10_isFree : ByteArray := prog_12_method_21_code
def yX10_isFree : MethodName := ⟨RX10, "isFree", "(I)Z"⟩
abbrev cX10_chief : ByteArray := prog_12_method_22_code
def yX10_chief : MethodName := ⟨RX10, "chief", "()I"⟩
abbrev cX10_isSpoiled : ByteArray := prog_12_method_23_code
def yX10_isSpoiled : MethodName := ⟨RX10, "isSpoiled", "(I)Z"⟩
abbrev cX10_size : ByteArray := prog_12_method_24_code
def yX10_size : MethodName := ⟨RX10, "size", "(I)I"⟩
abbrev cX10_weighs : ByteArray := prog_12_method_25_code
def yX10_weighs : MethodName := ⟨RX10, "weighs", "(I)I"⟩
abbrev cX10_isGone : ByteArray := prog_12_method_26_code
def yX10_isGone : MethodName := ⟨RX10, "isGone", "(I)Z"⟩
abbrev cX10_wishesNothing : ByteArray := prog_12_method_27_code
def yX10_wishesNothing : MethodName := ⟨RX10, "wishesNothing", "()V"⟩
abbrev cX10_clearsCycle : ByteArray := prog_12_method_28_code
def yX10_clearsCycle : MethodName := ⟨RX10, "clearsCycle", "()V"⟩
abbrev cX10_pulses : ByteArray := prog_12_method_29_code
def yX10_pulses : MethodName := ⟨RX10, "pulses", "(II)I"⟩
abbrev cX10_kind : ByteArray := prog_12_method_30_code
def yX10_kind : MethodName := ⟨RX10, "kind", "(II)Z"⟩
abbrev cX10_turn : ByteArray := prog_12_method_31_code
def yX10_turn : MethodName := ⟨RX10, "turn", "(I)Z"⟩
abbrev cX10_scans : ByteArray := prog_12_method_32_code
def yX10_scans : MethodName := ⟨RX10, "scans", "()I"⟩
abbrev cX10_counter : ByteArray := prog_12_method_33_code
def yX10_counter : MethodName := ⟨RX10, "counter", "(II)I"⟩
abbrev cX10_isSource : ByteArray := prog_12_method_34_code
def yX10_isSource : MethodName := ⟨RX10, "isSource", "(I)Z"⟩
abbrev cX10_step : ByteArray := prog_12_method_35_code
def yX10_step : MethodName := ⟨RX10, "step", "(III)Z"⟩
abbrev cX10_gradient : ByteArray := prog_12_method_36_code
def yX10_gradient : MethodName := ⟨RX10, "gradient", "(II)Z"⟩
abbrev cX10_weight : ByteArray := prog_12_method_37_code
def yX10_weight : MethodName := ⟨RX10, "weight", "(III)Z"⟩
abbrev cX10_swaps : ByteArray := prog_12_method_38_code
def yX10_swaps : MethodName := ⟨RX10, "swaps", "(II)V"⟩
abbrev cX10_swap : ByteArray := prog_12_method_39_code
def yX10_swap : MethodName := ⟨RX10, "swap", "(II)Z"⟩
abbrev cX10_follow : ByteArray := prog_12_method_40_code
def yX10_follow : MethodName := ⟨RX10, "follow", "(Z)Z"⟩
abbrev cX10_becomes : ByteArray := prog_12_method_41_code
def yX10_becomes : MethodName := ⟨RX10, "becomes", "(IIZ)Z"⟩
abbrev cX10_wish : ByteArray := prog_12_method_42_code
def yX10_wish : MethodName := ⟨RX10, "wish", "(IZ)Z"⟩
abbrev cX10_free : ByteArray := prog_12_method_43_code
def yX10_free : MethodName := ⟨RX10, "free", "(IZ)Z"⟩
abbrev cX10_freeAll : ByteArray := prog_12_method_44_code
def yX10_freeAll : MethodName := ⟨RX10, "freeAll", "(II)I"⟩
abbrev cX10_types : ByteArray := prog_12_method_45_code
def yX10_types : MethodName := ⟨RX10, "types", "(I)V"⟩
abbrev cX10_feed : ByteArray := prog_12_method_46_code
def yX10_feed : MethodName := ⟨RX10, "feed", "(IIIII)I"⟩
abbrev cX10_end : ByteArray := prog_12_method_47_code
def yX10_end : MethodName := ⟨RX10, "end", "(I)Z"⟩
abbrev cX10_here : ByteArray := prog_12_method_48_code
def yX10_here : MethodName := ⟨RX10, "here", "()I"⟩
abbrev cX10_behindBlanks : ByteArray := prog_12_method_49_code
def yX10_behindBlanks : MethodName := ⟨RX10, "behindBlanks", "()I"⟩
abbrev cX10_isDigit : ByteArray := prog_12_method_50_code
def yX10_isDigit : MethodName := ⟨RX10, "isDigit", "(I)Z"⟩
abbrev cX10_errs : ByteArray := prog_12_method_51_code
def yX10_errs : MethodName := ⟨RX10, "errs", "(II)Z"⟩
abbrev cX10_readName : ByteArray := prog_12_method_52_code
def yX10_readName : MethodName := ⟨RX10, "readName", "()I"⟩
abbrev cX10_readLine : ByteArray := prog_12_method_53_code
def yX10_readLine : MethodName := ⟨RX10, "readLine", "()Z"⟩
abbrev cX10_rows : ByteArray := prog_12_method_54_code
def yX10_rows : MethodName := ⟨RX10, "rows", "()I"⟩
abbrev cX10_fault : ByteArray := prog_12_method_55_code
def yX10_fault : MethodName := ⟨RX10, "fault", "(I)I"⟩
abbrev cX10_rest : ByteArray := prog_12_method_56_code
def yX10_rest : MethodName := ⟨RX10, "rest", "(I)I"⟩
abbrev cX10_ownPhase : ByteArray := prog_12_method_57_code
def yX10_ownPhase : MethodName := ⟨RX10, "ownPhase", "(II)I"⟩
abbrev cX10_laysPhases : ByteArray := prog_12_method_58_code
def yX10_laysPhases : MethodName := ⟨RX10, "laysPhases", "()V"⟩
abbrev cX10_residueOf : ByteArray := prog_12_method_59_code
def yX10_residueOf : MethodName := ⟨RX10, "residueOf", "(II)I"⟩
abbrev cX10_laysPrimitive : ByteArray := prog_12_method_60_code
def yX10_laysPrimitive : MethodName := ⟨RX10, "laysPrimitive", "()V"⟩
abbrev cX10_dividesBy : ByteArray := prog_12_method_61_code
def yX10_dividesBy : MethodName := ⟨RX10, "dividesBy", "(II)I"⟩
abbrev cX10_isNothing : ByteArray := prog_12_method_62_code
def yX10_isNothing : MethodName := ⟨RX10, "isNothing", "()Z"⟩
abbrev cX10_isOneAlone : ByteArray := prog_12_method_63_code
def yX10_isOneAlone : MethodName := ⟨RX10, "isOneAlone", "()Z"⟩
abbrev cX10_stateNow : ByteArray := prog_12_method_64_code
def yX10_stateNow : MethodName := ⟨RX10, "stateNow", "()I"⟩
abbrev cX10_countsFirst : ByteArray := prog_12_method_65_code
def yX10_countsFirst : MethodName := ⟨RX10, "countsFirst", "(II)V"⟩
abbrev cX10_stateOf : ByteArray := prog_12_method_66_code
def yX10_stateOf : MethodName := ⟨RX10, "stateOf", "(I)I"⟩
abbrev cX10_isOther : ByteArray := prog_12_method_67_code
def yX10_isOther : MethodName := ⟨RX10, "isOther", "(I)Z"⟩
abbrev cX10_isLeak : ByteArray := prog_12_method_68_code
def yX10_isLeak : MethodName := ⟨RX10, "isLeak", "(I)Z"⟩
abbrev cX10_isLost : ByteArray := prog_12_method_69_code
def yX10_isLost : MethodName := ⟨RX10, "isLost", "(I)Z"⟩
abbrev cX10_leaks : ByteArray := prog_12_method_70_code
def yX10_leaks : MethodName := ⟨RX10, "leaks", "()I"⟩
abbrev cX10_losts : ByteArray := prog_12_method_71_code
def yX10_losts : MethodName := ⟨RX10, "losts", "()I"⟩
abbrev cX10_isGood : ByteArray := prog_12_method_72_code
def yX10_isGood : MethodName := ⟨RX10, "isGood", "()Z"⟩
abbrev cX10_matters : ByteArray := prog_12_method_73_code
def yX10_matters : MethodName := ⟨RX10, "matters", "(IIZ)V"⟩
abbrev cX10_laysMattering : ByteArray := prog_12_method_74_code
def yX10_laysMattering : MethodName := ⟨RX10, "laysMattering", "()Z"⟩
abbrev cX10_isLeftBySteps : ByteArray := prog_12_method_75_code
def yX10_isLeftBySteps : MethodName := ⟨RX10, "isLeftBySteps", "(I)Z"⟩
abbrev cX10_isLeftByCogs : ByteArray := prog_12_method_76_code
def yX10_isLeftByCogs : MethodName := ⟨RX10, "isLeftByCogs", "(II)Z"⟩
abbrev cX10_doSteps : ByteArray := prog_12_method_77_code
def yX10_doSteps : MethodName := ⟨RX10, "doSteps", "()Z"⟩
abbrev cX10_doCogs : ByteArray := prog_12_method_78_code
def yX10_doCogs : MethodName := ⟨RX10, "doCogs", "(I)Z"⟩
abbrev cX10_product : ByteArray := prog_12_method_79_code
def yX10_product : MethodName := ⟨RX10, "product", "()I"⟩
abbrev cX10_goesOn : ByteArray := prog_12_method_80_code
def yX10_goesOn : MethodName := ⟨RX10, "goesOn", "(II)Z"⟩
abbrev cX10_nextNumber : ByteArray := prog_12_method_81_code
def yX10_nextNumber : MethodName := ⟨RX10, "nextNumber", "(III)I"⟩
abbrev cX10_laysFewest : ByteArray := prog_12_method_82_code
def yX10_laysFewest : MethodName := ⟨RX10, "laysFewest", "()I"⟩
abbrev cX10_laysCogs : ByteArray := prog_12_method_83_code
def yX10_laysCogs : MethodName := ⟨RX10, "laysCogs", "()I"⟩
abbrev cX10_fewest : ByteArray := prog_12_method_84_code
def yX10_fewest : MethodName := ⟨RX10, "fewest", "(I)I"⟩
abbrev cX10_cogs : ByteArray := prog_12_method_85_code
def yX10_cogs : MethodName := ⟨RX10, "cogs", "(I)I"⟩
abbrev cX10_layFewest : ByteArray := prog_12_method_86_code
def yX10_layFewest : MethodName := ⟨RX10, "layFewest", "()I"⟩
abbrev cX10_layCogs : ByteArray := prog_12_method_87_code
def yX10_layCogs : MethodName := ⟨RX10, "layCogs", "()I"⟩
abbrev cX10_lay : ByteArray := prog_12_method_88_code
def yX10_lay : MethodName := ⟨RX10, "lay", "(I)I"⟩
abbrev cX10_isStep : ByteArray := prog_12_method_89_code
def yX10_isStep : MethodName := ⟨RX10, "isStep", "(I)Z"⟩
abbrev cX10_would : ByteArray := prog_12_method_90_code
def yX10_would : MethodName := ⟨RX10, "would", "(IIIII)I"⟩
abbrev cX10_order : ByteArray := prog_12_method_91_code
def yX10_order : MethodName := ⟨RX10, "order", "(II)I"⟩
abbrev cX10_find : ByteArray := prog_12_method_92_code
def yX10_find : MethodName := ⟨RX10, "find", "(IIII)I"⟩
abbrev cX10_isScan : ByteArray := prog_12_method_93_code
def yX10_isScan : MethodName := ⟨RX10, "isScan", "(I)Z"⟩
abbrev cX10_phase : ByteArray := prog_12_method_94_code
def yX10_phase : MethodName := ⟨RX10, "phase", "(II)I"⟩
abbrev cX10_residue : ByteArray := prog_12_method_95_code
def yX10_residue : MethodName := ⟨RX10, "residue", "(II)I"⟩
abbrev cX10_many : ByteArray := prog_12_method_96_code
def yX10_many : MethodName := ⟨RX10, "many", "(II)I"⟩
abbrev cX10_changesOf : ByteArray := prog_12_method_97_code
def yX10_changesOf : MethodName := ⟨RX10, "changesOf", "(I)I"⟩
abbrev cX10_greatestOrder : ByteArray := prog_12_method_98_code
def yX10_greatestOrder : MethodName := ⟨RX10, "greatestOrder", "(I)I"⟩
abbrev cX10_one : ByteArray := prog_12_method_99_code
def yX10_one : MethodName := ⟨RX10, "one", "(Z)I"⟩
abbrev cX10_path : ByteArray := prog_12_method_100_code
def yX10_path : MethodName := ⟨RX10, "path", "(II)I"⟩
abbrev cX10_leak : ByteArray := prog_12_method_101_code
def yX10_leak : MethodName := ⟨RX10, "leak", "(I)I"⟩
abbrev cX10_lost : ByteArray := prog_12_method_102_code
def yX10_lost : MethodName := ⟨RX10, "lost", "(I)I"⟩
abbrev cX10_worst : ByteArray := prog_12_method_103_code
def yX10_worst : MethodName := ⟨RX10, "worst", "(II)I"⟩
abbrev cX10_isStoppedBy : ByteArray := prog_12_method_104_code
def yX10_isStoppedBy : MethodName := ⟨RX10, "isStoppedBy", "(III)Z"⟩
abbrev cX10_stopped : ByteArray := prog_12_method_105_code
def yX10_stopped : MethodName := ⟨RX10, "stopped", "(I)I"⟩
abbrev cX10_spare : ByteArray := prog_12_method_106_code
def yX10_spare : MethodName := ⟨RX10, "spare", "(I)I"⟩
abbrev cX10_isGoodSoFar : ByteArray := prog_12_method_107_code
def yX10_isGoodSoFar : MethodName := ⟨RX10, "isGoodSoFar", "()Z"⟩
abbrev cX10_areAnyGone : ByteArray := prog_12_method_108_code
def yX10_areAnyGone : MethodName := ⟨RX10, "areAnyGone", "()Z"⟩
abbrev cX10_soonest : ByteArray := prog_12_method_109_code
def yX10_soonest : MethodName := ⟨RX10, "soonest", "()I"⟩
abbrev cX10_early : ByteArray := prog_12_method_110_code
def yX10_early : MethodName := ⟨RX10, "early", "(II)I"⟩
abbrev cX10_until : ByteArray := prog_12_method_111_code
def yX10_until : MethodName := ⟨RX10, "until", "(II)I"⟩
abbrev cX10_power : ByteArray := prog_12_method_112_code
def yX10_power : MethodName := ⟨RX10, "power", "(I)J"⟩
abbrev cX10_above : ByteArray := prog_12_method_113_code
def yX10_above : MethodName := ⟨RX10, "above", "(I)I"⟩
abbrev cX10_below : ByteArray := prog_12_method_114_code
def yX10_below : MethodName := ⟨RX10, "below", "(I)I"⟩
abbrev cX10_share : ByteArray := prog_12_method_115_code
def yX10_share : MethodName := ⟨RX10, "share", "(I)I"⟩
abbrev cX10_part : ByteArray := prog_12_method_116_code
def yX10_part : MethodName := ⟨RX10, "part", "(I)J"⟩
abbrev cX10_image : ByteArray := prog_12_method_117_code
def yX10_image : MethodName := ⟨RX10, "image", "(Z)Z"⟩
abbrev cX10_manyOf : ByteArray := prog_12_method_118_code
def yX10_manyOf : MethodName := ⟨RX10, "manyOf", "(I)I"⟩
abbrev cX10_weightsOf : ByteArray := prog_12_method_119_code
def yX10_weightsOf : MethodName := ⟨RX10, "weightsOf", "(Z)I"⟩
abbrev cX10_lookAtRows : ByteArray := prog_12_method_120_code
def yX10_lookAtRows : MethodName := ⟨RX10, "lookAtRows", "(I)I"⟩
abbrev cX10_look : ByteArray := prog_12_method_121_code
def yX10_look : MethodName := ⟨RX10, "look", "(I)I"⟩
def RJx145de : String := "java/io/Serializable"
def TJx145de : u_T := fun k => match k with
  | _ => ("", "", "", false)
def tyJx145de : Nat → FieldType := fun k => match k with
  | _ => .int
abbrev wsJx145de0 : List Cond := u_ws RJx145de TJx145de 0
theorem nmJx145de : ∀ a, a < 0 → ∀ b, b < 0 → a ≠ b → (TJx145de a).2.1 ≠ (TJx145de b).2.1 := by decide +kernel
theorem tyJx145de_ok : ∀ k, k < 0 → parseFieldDescriptor (TJx145de k).2.2.1 = some (tyJx145de k) := by decide +kernel
def RJxb160c : String := "java/lang/Comparable"
def TJxb160c : u_T := fun k => match k with
  | _ => ("", "", "", false)
def tyJxb160c : Nat → FieldType := fun k => match k with
  | _ => .int
abbrev wsJxb160c0 : List Cond := u_ws RJxb160c TJxb160c 0
theorem nmJxb160c : ∀ a, a < 0 → ∀ b, b < 0 → a ≠ b → (TJxb160c a).2.1 ≠ (TJxb160c b).2.1 := by decide +kernel
theorem tyJxb160c_ok : ∀ k, k < 0 → parseFieldDescriptor (TJxb160c k).2.2.1 = some (tyJxb160c k) := by decide +kernel
def RJxe99ae : String := "java/lang/Double"
def TJxe99ae : u_T := fun k => match k with
  | _ => ("", "", "", false)
def tyJxe99ae : Nat → FieldType := fun k => match k with
  | _ => .int
abbrev wsJxe99ae0 : List Cond := u_ws RJxe99ae TJxe99ae 0
theorem nmJxe99ae : ∀ a, a < 0 → ∀ b, b < 0 → a ≠ b → (TJxe99ae a).2.1 ≠ (TJxe99ae b).2.1 := by decide +kernel
theorem tyJxe99ae_ok : ∀ k, k < 0 → parseFieldDescriptor (TJxe99ae k).2.2.1 = some (tyJxe99ae k) := by decide +kernel
abbrev cJxe99ae_isNaN_b9ae7 : ByteArray := prog_13_method_6_code
def yJxe99ae_isNaN_b9ae7 : MethodName := ⟨RJxe99ae, "isNaN", "(D)Z"⟩
abbrev cJxe99ae_doubleToLongBits_ccdee : ByteArray := prog_13_method_23_code
def yJxe99ae_doubleToLongBits_ccdee : MethodName := ⟨RJxe99ae, "doubleToLongBits", "(D)J"⟩
def RJxf58ca : String := "java/lang/Float"
def TJxf58ca : u_T := fun k => match k with
  | _ => ("", "", "", false)
def tyJxf58ca : Nat → FieldType := fun k => match k with
  | _ => .int
abbrev wsJxf58ca0 : List Cond := u_ws RJxf58ca TJxf58ca 0
theorem nmJxf58ca : ∀ a, a < 0 → ∀ b, b < 0 → a ≠ b → (TJxf58ca a).2.1 ≠ (TJxf58ca b).2.1 := by decide +kernel
theorem tyJxf58ca_ok : ∀ k, k < 0 → parseFieldDescriptor (TJxf58ca k).2.2.1 = some (tyJxf58ca k) := by decide +kernel
abbrev cJxf58ca_isNaN_12338 : ByteArray := prog_14_method_6_code
def yJxf58ca_isNaN_12338 : MethodName := ⟨RJxf58ca, "isNaN", "(F)Z"⟩
abbrev cJxf58ca_floatToIntBits_5c35a : ByteArray := prog_14_method_24_code
def yJxf58ca_floatToIntBits_5c35a : MethodName := ⟨RJxf58ca, "floatToIntBits", "(F)I"⟩
def RJ9 : String := "java/lang/Math"
def TJ9 : u_T := fun k => match k with
  | _ => ("", "", "", false)
def tyJ9 : Nat → FieldType := fun k => match k with
  | _ => .int
abbrev wsJ90 : List Cond := u_ws RJ9 TJ9 0
theorem nmJ9 : ∀ a, a < 0 → ∀ b, b < 0 → a ≠ b → (TJ9 a).2.1 ≠ (TJ9 b).2.1 := by decide +kernel
theorem tyJ9_ok : ∀ k, k < 0 → parseFieldDescriptor (TJ9 k).2.2.1 = some (tyJ9 k) := by decide +kernel
abbrev cJ9_floorMod_7cf53 : ByteArray := prog_15_method_50_code
def yJ9_floorMod_7cf53 : MethodName := ⟨RJ9, "floorMod", "(II)I"⟩
abbrev cJ9_abs_0f7a4 : ByteArray := prog_15_method_59_code
def yJ9_abs_0f7a4 : MethodName := ⟨RJ9, "abs", "(I)I"⟩
abbrev cJ9_max_7cf53 : ByteArray := prog_15_method_65_code
def yJ9_max_7cf53 : MethodName := ⟨RJ9, "max", "(II)I"⟩
abbrev cJ9_min_7cf53 : ByteArray := prog_15_method_69_code
def yJ9_min_7cf53 : MethodName := ⟨RJ9, "min", "(II)I"⟩
def RJxd2413 : String := "java/lang/Number"
def TJxd2413 : u_T := fun k => match k with
  | _ => ("", "", "", false)
def tyJxd2413 : Nat → FieldType := fun k => match k with
  | _ => .int
abbrev wsJxd24130 : List Cond := u_ws RJxd2413 TJxd2413 0
theorem nmJxd2413 : ∀ a, a < 0 → ∀ b, b < 0 → a ≠ b → (TJxd2413 a).2.1 ≠ (TJxd2413 b).2.1 := by decide +kernel
theorem tyJxd2413_ok : ∀ k, k < 0 → parseFieldDescriptor (TJxd2413 k).2.2.1 = some (tyJxd2413 k) := by decide +kernel
def RJ10 : String := "java/lang/System"
def TJ10 : u_T := fun k => match k with
  | _ => ("", "", "", false)
def tyJ10 : Nat → FieldType := fun k => match k with
  | _ => .int
abbrev wsJ100 : List Cond := u_ws RJ10 TJ10 0
theorem nmJ10 : ∀ a, a < 0 → ∀ b, b < 0 → a ≠ b → (TJ10 a).2.1 ≠ (TJ10 b).2.1 := by decide +kernel
theorem tyJ10_ok : ∀ k, k < 0 → parseFieldDescriptor (TJ10 k).2.2.1 = some (tyJ10 k) := by decide +kernel
def RJxfd54e : String := "java/lang/constant/Constable"
def TJxfd54e : u_T := fun k => match k with
  | _ => ("", "", "", false)
def tyJxfd54e : Nat → FieldType := fun k => match k with
  | _ => .int
abbrev wsJxfd54e0 : List Cond := u_ws RJxfd54e TJxfd54e 0
theorem nmJxfd54e : ∀ a, a < 0 → ∀ b, b < 0 → a ≠ b → (TJxfd54e a).2.1 ≠ (TJxfd54e b).2.1 := by decide +kernel
theorem tyJxfd54e_ok : ∀ k, k < 0 → parseFieldDescriptor (TJxfd54e k).2.2.1 = some (tyJxfd54e k) := by decide +kernel
def RJx3cf43 : String := "java/lang/constant/ConstantDesc"
def TJx3cf43 : u_T := fun k => match k with
  | _ => ("", "", "", false)
def tyJx3cf43 : Nat → FieldType := fun k => match k with
  | _ => .int
abbrev wsJx3cf430 : List Cond := u_ws RJx3cf43 TJx3cf43 0
theorem nmJx3cf43 : ∀ a, a < 0 → ∀ b, b < 0 → a ≠ b → (TJx3cf43 a).2.1 ≠ (TJx3cf43 b).2.1 := by decide +kernel
theorem tyJx3cf43_ok : ∀ k, k < 0 → parseFieldDescriptor (TJx3cf43 k).2.2.1 = some (tyJx3cf43 k) := by decide +kernel
def RJ7 : String := "java/util/Arrays"
def TJ7 : u_T := fun k => match k with
  | _ => ("", "", "", false)
def tyJ7 : Nat → FieldType := fun k => match k with
  | _ => .int
abbrev wsJ70 : List Cond := u_ws RJ7 TJ7 0
theorem nmJ7 : ∀ a, a < 0 → ∀ b, b < 0 → a ≠ b → (TJ7 a).2.1 ≠ (TJ7 b).2.1 := by decide +kernel
theorem tyJ7_ok : ∀ k, k < 0 → parseFieldDescriptor (TJ7 k).2.2.1 = some (tyJ7 k) := by decide +kernel
abbrev cJ7_rangeCheck_23922 : ByteArray := prog_18_method_30_code
def yJ7_rangeCheck_23922 : MethodName := ⟨RJ7, "rangeCheck", "(III)V"⟩
abbrev cJ7_fill_53178 : ByteArray := prog_18_method_103_code
def yJ7_fill_53178 : MethodName := ⟨RJ7, "fill", "([II)V"⟩
abbrev cJ7_fill_fda19 : ByteArray := prog_18_method_104_code
def yJ7_fill_fda19 : MethodName := ⟨RJ7, "fill", "([IIII)V"⟩
abbrev cJ7_fill_031fb : ByteArray := prog_18_method_109_code
def yJ7_fill_031fb : MethodName := ⟨RJ7, "fill", "([BB)V"⟩
def RL : String := "PathCycleLaw"
abbrev cL_law : ByteArray := code
def yL_law : MethodName := ⟨RL, "law", "([I)Z"⟩
abbrev vwCl : List vw_C := [(RX0, TX0, 5), (RX1, TX1, 6), (RX2, TX2, 5), (RX3, TX3, 6), (RX4, TX4, 6), (RX5, TX5, 8), (RX6, TX6, 8), (RX7, TX7, 7), (RX8, TX8, 9), (RX9, TX9, 16), (RX10, TX10, 30)]
end
section
/-! PV: an int (as a whole number; Int32.ofInt of it is meant), a long, one of our own cells by its number, any other value. -/
abbrev MD : Type := MethodName × ByteArray × Nat × Option FieldType
abbrev PV : Type := Int ⊕ (Int ⊕ (Nat ⊕ Value))
abbrev iV (x : Int) : PV := .inl x
abbrev lV (x : Int) : PV := .inr (.inl x)
abbrev rV (a : Nat) : PV := .inr (.inr (.inl a))
abbrev vV (v : Value) : PV := .inr (.inr (.inr v))
abbrev uV : PV := .inr (.inr (.inr (.retAddr 0)))
/-- a cell's kind: 0 an object (number of its class), 1 int[], 2 byte[], 3 short[], 4 boolean[], 5 long[], 6 int[][] (length); the references that it holds -/
abbrev KD : Type := Nat × Nat × List Int
abbrev Hp : Type := List KD × (Nat → Nat → Int)
abbrev Ps : Type := Option PV → Hp → Prop
def enc (b0 : Nat) (v : PV) : Value := match v with
  | .inl x => .int (Int32.ofInt x)
  | .inr (.inl x) => .long (Int64.ofInt x)
  | .inr (.inr (.inl a)) => .ref (b0 + a)
  | .inr (.inr (.inr v)) => v
def pcat (v : PV) : Nat := match v with
  | .inl _ => 1
  | .inr (.inl _) => 2
  | .inr (.inr (.inl _)) => 1
  | .inr (.inr (.inr v)) => v.category
theorem enc_cat (b0 : Nat) (v : PV) : (enc b0 v).category = pcat v := by
  rcases v with x | x | a | v <;> rfl
def rfO (b0 : Nat) (r : Int) : Option Nat := if r < 0 then none else some (b0 + r.toNat)
def fVal (b0 : Nat) (ty : FieldType) (x r : Int) : Value := match ty with
  | .int => .int (Int32.ofInt x)
  | .boolean => .int (Int32.ofInt x)
  | .long => .long (Int64.ofInt x)
  | _ => va_rf (rfO b0 r)
def tyOf (ci : Nat) : Nat → FieldType := match ci with
  | 0 => tyX0
  | 1 => tyX1
  | 2 => tyX2
  | 3 => tyX3
  | 4 => tyX4
  | 5 => tyX5
  | 6 => tyX6
  | 7 => tyX7
  | 8 => tyX8
  | 9 => tyX9
  | _ => tyX10
def nOfC (ci : Nat) : Nat := [5, 6, 5, 6, 6, 8, 8, 7, 9, 16, 30].getD ci 0
def objF (b0 : Nat) (m : Nat → Nat → Int) (a ci : Nat) (rs : List Int) : List Value := (List.range (nOfC ci)).map fun k => fVal b0 (tyOf ci k) (m a k) (rs.getD k (-1))
def cellE (b0 : Nat) (cA : Nat → ClassId) (m : Nat → Nat → Int) (a : Nat) (kd : KD) : va_E := match kd.1 with
  | 0 => .inr (kd.2.1, objF b0 m a kd.2.1 kd.2.2)
  | 1 => .inl (cA 0, kd.2.1, .inl fun j => Int32.ofInt (m a j))
  | 2 => .inl (cA 1, kd.2.1, .inl fun j => Int32.ofInt (m a j))
  | 3 => .inl (cA 2, kd.2.1, .inl fun j => Int32.ofInt (m a j))
  | 4 => .inl (cA 3, kd.2.1, .inl fun j => Int32.ofInt (m a j))
  | 5 => .inl (cA 4, kd.2.1, .inr (.inl fun j => Int64.ofInt (m a j)))
  | _ => .inl (cA 5, kd.2.1, .inr (.inr (.inr (.inr fun j => rfO b0 (kd.2.2.getD j (-1))))))
def wsOf (b0 : Nat) (cA : Nat → ClassId) (h : Hp) : va_W := (List.range h.1.length).map fun a => (b0 + a, cellE b0 cA h.2 a (h.1.getD a (0, 0, [])))
theorem wsOf_at {b0 : Nat} {cA : Nat → ClassId} {h : Hp} {a : Nat} {kd : KD} (hk : h.1[a]? = some kd) : (wsOf b0 cA h)[a]? = some (b0 + a, cellE b0 cA h.2 a kd) := by
  have hl : a < h.1.length := (List.getElem?_eq_some_iff.mp hk).1
  unfold wsOf
  rw [List.getElem?_map, List.getElem?_range hl]
  simp only [Option.map_some, List.getD_eq_getElem?_getD, hk, Option.getD_some]
theorem wsOf_len (b0 : Nat) (cA : Nat → ClassId) (h : Hp) : (wsOf b0 cA h).length = h.1.length := by simp [wsOf]
theorem wsOf_inv {b0 : Nat} {cA : Nat → ClassId} {h : Hp} {a : Nat} {q : Nat × va_E} (hk : (wsOf b0 cA h)[a]? = some q) : ∃ kd, h.1[a]? = some kd ∧ q = (b0 + a, cellE b0 cA h.2 a kd) := by
  have hl : a < h.1.length := by rw [← wsOf_len b0 cA h]; exact (List.getElem?_eq_some_iff.mp hk).1
  refine ⟨h.1[a], List.getElem?_eq_getElem hl, ?_⟩
  rw [wsOf_at (List.getElem?_eq_getElem hl)] at hk
  exact (Option.some.inj hk).symm
theorem wsOf_D (b0 : Nat) (cA : Nat → ClassId) (h : Hp) : va_D (fun q => b0 ≤ q) (wsOf b0 cA h) := by
  refine ⟨fun i j p q hp hq e => ?_, fun k q hq => ?_⟩
  · obtain ⟨_, _, rfl⟩ := wsOf_inv hp
    obtain ⟨_, _, rfl⟩ := wsOf_inv hq
    exact Nat.add_left_cancel e
  · obtain ⟨_, _, rfl⟩ := wsOf_inv hq
    exact Nat.le_add_right _ _
def upm (m : Nat → Nat → Int) (a k : Nat) (x : Int) : Nat → Nat → Int := fun a' j => if a' = a ∧ j = k then x else m a' j
theorem upm_same (m : Nat → Nat → Int) (a k : Nat) (x : Int) : upm m a k x a k = x := by simp [upm]
theorem upm_off (m : Nat → Nat → Int) {a a' k : Nat} (x : Int) (h : a' ≠ a) : upm m a k x a' = m a' := by
  funext j
  simp [upm, h]
theorem upm_ne (m : Nat → Nat → Int) {a a' k j : Nat} (x : Int) (h : a' = a → j ≠ k) : upm m a k x a' j = m a' j := by
  unfold upm
  rw [if_neg]
  rintro ⟨h1, h2⟩
  exact h h1 h2
/-- one cell's entry changes, the others stay -/
theorem wsOf_set {b0 : Nat} {cA : Nat → ClassId} {w w' : List KD} {m m' : Nat → Nat → Int} {a : Nat} {kd : KD} {e : va_E} (hk : w'[a]? = some kd) (hl : w'.length = w.length) (hw : ∀ a', a' ≠ a → w'[a']? = w[a']?) (hm : ∀ a', a' ≠ a → m' a' = m a') (he : cellE b0 cA m' a kd = e) :
    (wsOf b0 cA (w, m)).set a (b0 + a, e) = wsOf b0 cA (w', m') := by
  apply List.ext_getElem?
  intro i
  rw [List.getElem?_set]
  by_cases hi : a = i
  · subst hi
    have h1 : a < w.length := by rw [← hl]; exact (List.getElem?_eq_some_iff.mp hk).1
    rw [if_pos rfl, wsOf_len, if_pos h1, wsOf_at (h := (w', m')) hk, he]
  · rw [if_neg hi]
    cases hx : w[i]? with
    | none =>
      have hx' : w'[i]? = none := by rw [hw i (fun e => hi e.symm)]; exact hx
      rw [List.getElem?_eq_none (by rw [wsOf_len]; exact List.getElem?_eq_none_iff.mp hx), List.getElem?_eq_none (by rw [wsOf_len]; exact List.getElem?_eq_none_iff.mp hx')]
    | some kd' =>
      have hx' : w'[i]? = some kd' := by rw [hw i (fun e => hi e.symm)]; exact hx
      rw [wsOf_at (h := (w, m)) hx, wsOf_at (h := (w', m')) hx']
      have : cellE b0 cA m i kd' = cellE b0 cA m' i kd' := by
        unfold cellE objF
        simp only [hm i (fun e => hi e.symm)]
      simp only [this]
theorem wsOf_push {b0 : Nat} {cA : Nat → ClassId} {w : List KD} {m m' : Nat → Nat → Int} {kd : KD} {e : va_E} (hm : ∀ a', a' < w.length → m' a' = m a') (he : cellE b0 cA m' w.length kd = e) :
    wsOf b0 cA (w, m) ++ [(b0 + w.length, e)] = wsOf b0 cA (w ++ [kd], m') := by
  apply List.ext_getElem?
  intro i
  by_cases hi : i < w.length
  · have hx : w[i]? = some w[i] := List.getElem?_eq_getElem hi
    rw [List.getElem?_append_left (by rw [wsOf_len]; exact hi), wsOf_at (h := (w, m)) hx, wsOf_at (h := (w ++ [kd], m')) (kd := w[i]) (by show (w ++ [kd])[i]? = _; rw [List.getElem?_append_left hi]; exact hx)]
    have : cellE b0 cA m i w[i] = cellE b0 cA m' i w[i] := by
      unfold cellE objF
      simp only [hm i hi]
    simp only [this]
  · rw [List.getElem?_append_right (by rw [wsOf_len]; exact Nat.le_of_not_lt hi), wsOf_len]
    by_cases h2 : i = w.length
    · subst h2
      rw [Nat.sub_self, wsOf_at (h := (w ++ [kd], m')) (kd := kd) (by simp)]
      simp [he]
    · rw [List.getElem?_eq_none (by simp; omega), List.getElem?_eq_none (by rw [wsOf_len]; simp; omega)]
def tysL (cA : Nat → ClassId) : List (ClassId × FieldType) := [(cA 0, .int), (cA 1, .byte), (cA 2, .short), (cA 3, .boolean), (cA 4, .long), (cA 5, .array .int)]
/-- the words that every call can carry on; the few that it can't are carried by XW -/
def lwg : List Cond := lw_tbl.filter goodWord
theorem mem_lwg {w : Cond} (h : w ∈ lw_tbl) (g : goodWord w = true) : w ∈ lwg := List.mem_filter.mpr ⟨h, g⟩
def xwN : List (Nat × String) := [(35, "PathCycle$Tape"), (42, "PathCycle$Paths"), (53, "PathCycle$Scans"), (60, "PathCycle$Sum"), (78, "PathCycle$Wants"), (85, "PathCycle$Fewest"), (92, "PathCycle$Cogs")]
def XW (U : State) : Prop := (∀ q ∈ xwN, va_Nw (.methodLinkNest "PathCycle" q.1 ⟨q.2, "<init>", "()V"⟩ "PathCycle") U) ∧ (Cond.arrayOver (.array .int)).before #[] U = true
theorem XW.moved {u U : State} (hW : u.WarmedH U.vm) (h : XW u) : XW U := ⟨fun q hq => va_Nw.warmM hW (h.1 q hq), arrayOver_alikeB hW.alike h.2⟩
/-- the heap and the tables, at a state -/
def RelU (b0 : Nat) (D : va_G) (cA : Nat → ClassId) (X : Nat × Nat × (Nat → Int32)) (h : Hp) (U : State) : Prop :=
  va_P D vwCl (wsOf b0 cA h) U.heap ∧ U.heap.size = b0 + h.1.length ∧ va_K D vwCl (tysL cA) U ∧ va_X X.1 X.2.1 X.2.2 U U.heap ∧ X.1 < b0 ∧ XW U
def roomD (d mc ms : Nat) : Room := { frames := d, cells := mc, slots := ms, locals := 40 * d }
def wsM (M : MD) : List Cond := .code M.1 M.2.1 M.2.2.1 M.2.2.2 :: lwg
def QcM (b0 : Nat) (D : va_G) (cA : Nat → ClassId) (X : Nat × Nat × (Nat → Int32)) (Q : Ps) : Array Value → State → Outcome → State → Prop := fun _ st o t =>
  (∃ (r : Option PV) (h' : Hp), o = .returned (r.map (enc b0)) ∧ Q r h' ∧ RelU b0 D cA X h' t) ∧ va_F (fun q => b0 ≤ q) st t
/-- a method's contract: started on args over the heap h it returns, and Q holds of its answer and the heap then -/
def Sp (M : MD) (d mc ms : Nat) (args : List PV) (h : Hp) (Q : Ps) : Prop :=
  ∀ (l : Launch) (b0 : Nat) (D : va_G) (cA : Nat → ClassId) (X : Nat × Nat × (Nat → Int32)),
    Met l M.1 (wsM M) (roomD d mc ms) (va_Pc (args.map (enc b0)) (RelU b0 D cA X h)) (QcM b0 D cA X Q) mc ms (fun q => b0 ≤ q)
/-- the locals -/
def LV (ls' : Array Slot) (n b0 : Nat) (ls : List PV) : Prop := ls'.size = n ∧ lv_wf ls' ∧ ∀ (i : Nat) (v : PV), ls[i]? = some v → v ≠ uV → ls'[i]? = some (.val (enc b0 v))
/-- what stands fast during a method's run -/
def C1 (M : MD) (d mc ms : Nat) (b0 : Nat) (D : va_G) (cA : Nat → ClassId) (X : Nat × Nat × (Nat → Int32)) (p : Program) (R : Room) (s : State) (m : MethodId) (args : Array Value) (meth : Method) (c : Code) (cells slots : Nat) : Prop :=
  p.tables.exec = Jvm.exec ∧ c.code = M.2.1 ∧ c.maxLocals = M.2.2.1 ∧ meth.sig.returnType = M.2.2.2 ∧ s.vm.findClass M.1.cls = some m.cls ∧ (∀ w ∈ lwg, w.before args s = true) ∧ meth.locks = false ∧ meth.name = M.1.name ∧
  d ≤ R.frames ∧ 40 * d ≤ R.locals ∧ cells + mc ≤ R.cells ∧ slots + ms ≤ R.slots ∧ va_K D vwCl (tysL cA) s ∧ va_X X.1 X.2.1 X.2.2 s s.heap ∧ X.1 < b0 ∧ b0 ≤ s.heap.size ∧ XW s
def C2 (M : MD) (b0 : Nat) (D : va_G) (cA : Nat → ClassId) (h : Hp) (H0 H : Heap) (locs : List Loc) (ls : List PV) (ls' : Array Slot) : Prop :=
  va_P D vwCl (wsOf b0 cA h) H ∧ H.size = b0 + h.1.length ∧ va_S (fun q => b0 ≤ q) H0 H locs ∧ LV ls' M.2.2.1 b0 ls
/-- from here the method returns, and Q holds then -/
def G (M : MD) (d mc ms pc : Nat) (ls st : List PV) (h : Hp) (Q : Ps) : Prop :=
  ∀ (l : Launch) (b0 : Nat) (D : va_G) (cA : Nat → ClassId) (X : Nat × Nat × (Nat → Int32)) (p : Program) (e : Env) (R : Room) (s : State) (m : MethodId) (args : Array Value) (below : List Frame) (meth : Method) (c : Code) (H : Heap) (locs : List Loc) (cells slots : Nat) (ls' : Array Slot),
    C1 M d mc ms b0 D cA X p R s m args meth c cells slots → C2 M b0 D cA h s.heap H locs ls ls' →
    W p l e R s m args below meth c H locs cells slots (MQ below (QcM b0 D cA X Q) args s (cells + mc) (slots + ms) (fun q => b0 ≤ q)) (F0 m pc ls' (st.map (enc b0)))
theorem G.post {M : MD} {d mc ms pc : Nat} {ls st : List PV} {h : Hp} {Q Q' : Ps} (k : G M d mc ms pc ls st h Q) (hq : ∀ r h', Q r h' → Q' r h') : G M d mc ms pc ls st h Q' := by
  intro l b0 D cA X p e R s m args below meth c H locs cells slots ls' c1 c2 T hT XT
  obtain ⟨t, a, o, b1, b2, ⟨⟨r, h', e1, e2, e3⟩, e4⟩, b4⟩ := k l b0 D cA X p e R s m args below meth c H locs cells slots ls' c1 c2 T hT XT
  exact ⟨t, a, o, b1, b2, ⟨⟨r, h', e1, hq _ _ e2, e3⟩, e4⟩, b4⟩
theorem Sp.post {M : MD} {d mc ms : Nat} {as : List PV} {h : Hp} {Q Q' : Ps} (k : Sp M d mc ms as h Q) (hq : ∀ r h', Q r h' → Q' r h') : Sp M d mc ms as h Q' := by
  intro l b0 D cA X
  have k1 := k l b0 D cA X
  intro p e ha hc hk s m args below hf happ hP hK
  obtain ⟨n, o, g1, g2, g3, ⟨⟨r, h', e1, e2, e3⟩, e4⟩, g5⟩ := k1 p e ha hc hk s m args below hf happ hP hK
  exact ⟨n, o, g1, g2, g3, ⟨⟨r, h', e1, hq _ _ e2, e3⟩, e4⟩, g5⟩
/-! entry: a contract out of the walk of the body -/
def entL : List PV → List PV
  | [] => []
  | v :: vs => if pcat v = 2 then v :: uV :: entL vs else v :: entL vs
theorem entL_args (b0 : Nat) : ∀ (vs : List PV) (o i : Nat) (v : PV), (entL vs)[i]? = some v → v ≠ uV → (o + i, enc b0 v) ∈ lv_args o (vs.map (enc b0))
  | [], o, i, v, h, _ => by simp [entL] at h
  | w :: vs, o, i, v, h, hv => by
    unfold entL at h
    rw [List.map_cons]
    unfold lv_args
    rw [enc_cat]
    by_cases hc : pcat w = 2
    · rw [if_pos hc] at h ⊢
      match i with
      | 0 =>
        simp at h
        subst h
        exact List.mem_cons_self
      | 1 =>
        simp at h
        exact absurd h.symm hv
      | i + 2 =>
        simp at h
        have := entL_args b0 vs (o + 2) i v h hv
        rw [show o + (i + 2) = o + 2 + i by omega]
        exact List.mem_cons_of_mem _ this
    · rw [if_neg hc] at h ⊢
      match i with
      | 0 =>
        simp at h
        subst h
        exact List.mem_cons_self
      | i + 1 =>
        simp at h
        have := entL_args b0 vs (o + 1) i v h hv
        rw [show o + (i + 1) = o + 1 + i by omega]
        exact List.mem_cons_of_mem _ this
theorem entL_len (b0 : Nat) : ∀ (vs : List PV), (lg_sl (vs.map (enc b0))).length = (entL vs).length
  | [] => rfl
  | w :: vs => by
    have ih := entL_len b0 vs
    unfold lg_sl at ih ⊢
    unfold entL
    rw [List.map_cons, List.flatMap_cons, List.length_append, ih, enc_cat]
    by_cases hc : pcat w = 2
    · rw [if_pos hc, if_pos hc]; simp; omega
    · rw [if_neg hc, if_neg hc]; simp; omega
theorem LV.entry {b0 n : Nat} {vs : List PV} (h : (entL vs).length ≤ n) : LV ((lg_sl (vs.map (enc b0)) ++ List.replicate (n - (lg_sl (vs.map (enc b0))).length) Slot.unset).toArray) n b0 (entL vs ++ List.replicate (n - (entL vs).length) uV) := by
  obtain ⟨h1, h2, h3⟩ := lv_entry (vs.map (enc b0)) (n := n) (by rw [entL_len]; exact h)
  refine ⟨h1, h2, fun i v hi hv => ?_⟩
  by_cases hl : i < (entL vs).length
  · rw [List.getElem?_append_left hl] at hi
    have := h3 _ (entL_args b0 vs 0 i v hi hv)
    rw [Nat.zero_add] at this
    exact this
  · rw [List.getElem?_append_right (Nat.le_of_not_lt hl)] at hi
    have := List.mem_of_getElem? hi
    exact absurd (List.eq_of_mem_replicate this) hv
set_option maxHeartbeats 1000000 in
theorem Sp.ofG {M : MD} {d mc ms : Nat} {as : List PV} {h : Hp} {Q : Ps} {ls : List PV} (hy : plainName M.1.cls = true) (hl : entL as ++ List.replicate (M.2.2.1 - (entL as).length) uV = ls) (hn : (entL as).length ≤ M.2.2.1) (k : G M d mc ms 0 ls [] h Q) : Sp M d mc ms as h Q := by
  intro l b0 D cA X
  refine Met.ofW (cc := M.2.1) (maxL := M.2.2.1) (ret := M.2.2.2) hy rfl ?_
  intro p e s m args below meth c s₁ B hml hv
  obtain ⟨rfl, hP, hsz, hK, hX, hXb, hXW⟩ := hv
  have hts0 := atoms_spec (ws := wsM M) B.pre
  have hts : ∀ w ∈ lwg, w.before (as.map (enc b0)).toArray s = true := fun w hw => hts0 w (List.mem_cons_of_mem _ hw)
  have hnm := (name_of_methodNamed B.named B.method).1
  have hown : s.vm.findClass M.1.cls = some m.cls := findClass_of_methodNamed B.named
  rw [lg_entry_eq]
  have hlv := LV.entry (b0 := b0) hn
  rw [hl] at hlv
  have k1 := k l b0 D cA X p e (headSpec (wsM M) (roomD d mc ms)).room s m (as.map (enc b0)).toArray below meth c s.heap [] 0 0 _
    ⟨B.exec, B.bytes, hml, B.returns, hown, hts, B.notSynchronized, hnm, Nat.le_refl _, Nat.le_refl _, by show 0 + mc ≤ mc; omega, by show 0 + ms ≤ ms; omega, hK, hX, hXb, by rw [hsz]; omega, hXW⟩
    ⟨hP, hsz, va_S.rf, hlv⟩
  rw [Nat.zero_add, Nat.zero_add] at k1
  exact k1
theorem oi_inj {x y : Int} (hx : -2147483648 ≤ x ∧ x < 2147483648) (hy : -2147483648 ≤ y ∧ y < 2147483648) : Int32.ofInt x = Int32.ofInt y ↔ x = y := by
  rw [← Int32.toInt_inj, Int32.toInt_ofInt_of_le (by omega) (by omega), Int32.toInt_ofInt_of_le (by omega) (by omega)]
theorem oi_lt {x y : Int} (hx : -2147483648 ≤ x ∧ x < 2147483648) (hy : -2147483648 ≤ y ∧ y < 2147483648) : Int32.ofInt x < Int32.ofInt y ↔ x < y := by
  rw [Int32.lt_iff_toInt_lt, Int32.toInt_ofInt_of_le (by omega) (by omega), Int32.toInt_ofInt_of_le (by omega) (by omega)]
theorem oi_le {x y : Int} (hx : -2147483648 ≤ x ∧ x < 2147483648) (hy : -2147483648 ≤ y ∧ y < 2147483648) : Int32.ofInt x ≤ Int32.ofInt y ↔ x ≤ y := by
  rw [Int32.le_iff_toInt_le, Int32.toInt_ofInt_of_le (by omega) (by omega), Int32.toInt_ofInt_of_le (by omega) (by omega)]
theorem oi_toInt {x : Int} (hx : -2147483648 ≤ x ∧ x < 2147483648) : (Int32.ofInt x).toInt = x := Int32.toInt_ofInt_of_le (by omega) (by omega)
theorem oi_nat {x : Int} (h0 : 0 ≤ x) (hx : x < 2147483648) : (Int32.ofInt x).toNatClampNeg = x.toNat := by
  show (Int32.ofInt x).toInt.toNat = _
  rw [oi_toInt ⟨by omega, hx⟩]
theorem oi_in {i : Int} {n : Nat} (h : 0 ≤ i ∧ i < n) (hn : n < 2147483648) : vp_in (Int32.ofInt i) n := by
  rw [vp_in_iff, oi_toInt ⟨by omega, by omega⟩]
  exact h
theorem oi_0 : Int32.ofInt 0 = 0 := rfl
theorem oi_eta (x : Int32) : Int32.ofInt x.toInt = x := Int32.ofInt_toInt x
theorem oi_rng (x : Int32) : -2147483648 ≤ x.toInt ∧ x.toInt < 2147483648 := ⟨Int32.le_toInt x, Int32.toInt_lt x⟩
theorem G_iconst {M : MD} {d mc ms pc : Nat} {ls st : List PV} {w : List KD} {m : Nat → Nat → Int} {Q : Ps} {n : Int} (hd : decode M.2.1 pc = .ok (.iconst n, 1))  (k : G M d mc ms (pc + 1) ls (iV n :: st) (w, m) Q) : G M d mc ms pc ls (st) (w, m) Q := by
  intro l b0 D cA X p e R s mm args below meth c H locs cells slots ls' c1 c2
  have k1 := k l b0 D cA X p e R s mm args below meth c H locs cells slots ls' c1 c2
  refine lv_iconst c1.1 c1.2.1 hd rfl ?_
  exact k1
theorem G_bipush {M : MD} {d mc ms pc : Nat} {ls st : List PV} {w : List KD} {m : Nat → Nat → Int} {Q : Ps} {n : Int} (hd : decode M.2.1 pc = .ok (.bipush n, 2)) (hn : (Int8.ofInt n).toInt32 = Int32.ofInt n) (k : G M d mc ms (pc + 2) ls (iV n :: st) (w, m) Q) : G M d mc ms pc ls (st) (w, m) Q := by
  intro l b0 D cA X p e R s mm args below meth c H locs cells slots ls' c1 c2
  have k1 := k l b0 D cA X p e R s mm args below meth c H locs cells slots ls' c1 c2
  refine lv_bipush c1.1 c1.2.1 hd (v := Int32.ofInt n) ?_ ?_
  · exact hn
  · exact k1
theorem G_sipush {M : MD} {d mc ms pc : Nat} {ls st : List PV} {w : List KD} {m : Nat → Nat → Int} {Q : Ps} {n : Int} (hd : decode M.2.1 pc = .ok (.sipush n, 3)) (hn : (Int16.ofInt n).toInt32 = Int32.ofInt n) (k : G M d mc ms (pc + 3) ls (iV n :: st) (w, m) Q) : G M d mc ms pc ls (st) (w, m) Q := by
  intro l b0 D cA X p e R s mm args below meth c H locs cells slots ls' c1 c2
  have k1 := k l b0 D cA X p e R s mm args below meth c H locs cells slots ls' c1 c2
  refine lv_sipush c1.1 c1.2.1 hd (v := Int32.ofInt n) ?_ ?_
  · exact hn
  · exact k1
theorem G_lconst {M : MD} {d mc ms pc : Nat} {ls st : List PV} {w : List KD} {m : Nat → Nat → Int} {Q : Ps} {n : Fin 2} (hd : decode M.2.1 pc = .ok (.lconst n, 1))  (k : G M d mc ms (pc + 1) ls (lV (n.val : Int) :: st) (w, m) Q) : G M d mc ms pc ls (st) (w, m) Q := by
  intro l b0 D cA X p e R s mm args below meth c H locs cells slots ls' c1 c2
  have k1 := k l b0 D cA X p e R s mm args below meth c H locs cells slots ls' c1 c2
  refine lv_lconst c1.1 c1.2.1 hd (v := Int64.ofInt (n.val : Int)) (Int64.ofInt_eq_ofNat).symm ?_
  exact k1
theorem G_iload_n {M : MD} {d mc ms pc : Nat} {ls st : List PV} {w : List KD} {m : Nat → Nat → Int} {Q : Ps} {j : Fin 4} {x : Int} (hd : decode M.2.1 pc = .ok (.iload_n j, 1)) (hl : ls[j.val]? = some (iV x)) (k : G M d mc ms (pc + 1) ls (iV x :: st) (w, m) Q) : G M d mc ms pc ls st (w, m) Q := by
  intro l b0 D cA X p e R s mm args below meth c H locs cells slots ls' c1 c2
  exact lv_iload_n c1.1 c1.2.1 hd rfl (c2.2.2.2.2.2 _ _ hl (fun h => by cases h)) (k l b0 D cA X p e R s mm args below meth c H locs cells slots ls' c1 c2)
theorem G_iload {M : MD} {d mc ms pc : Nat} {ls st : List PV} {w : List KD} {m : Nat → Nat → Int} {Q : Ps} {j : Nat} {x : Int} (hd : decode M.2.1 pc = .ok (.iload j, 2)) (hl : ls[j]? = some (iV x)) (k : G M d mc ms (pc + 2) ls (iV x :: st) (w, m) Q) : G M d mc ms pc ls st (w, m) Q := by
  intro l b0 D cA X p e R s mm args below meth c H locs cells slots ls' c1 c2
  exact lv_iload c1.1 c1.2.1 hd (c2.2.2.2.2.2 _ _ hl (fun h => by cases h)) (k l b0 D cA X p e R s mm args below meth c H locs cells slots ls' c1 c2)
theorem G_lload_n {M : MD} {d mc ms pc : Nat} {ls st : List PV} {w : List KD} {m : Nat → Nat → Int} {Q : Ps} {j : Fin 4} {x : Int} (hd : decode M.2.1 pc = .ok (.lload_n j, 1)) (hl : ls[j.val]? = some (lV x)) (k : G M d mc ms (pc + 1) ls (lV x :: st) (w, m) Q) : G M d mc ms pc ls st (w, m) Q := by
  intro l b0 D cA X p e R s mm args below meth c H locs cells slots ls' c1 c2
  exact lv_lload_n c1.1 c1.2.1 hd rfl (c2.2.2.2.2.2 _ _ hl (fun h => by cases h)) (k l b0 D cA X p e R s mm args below meth c H locs cells slots ls' c1 c2)
theorem G_lload {M : MD} {d mc ms pc : Nat} {ls st : List PV} {w : List KD} {m : Nat → Nat → Int} {Q : Ps} {j : Nat} {x : Int} (hd : decode M.2.1 pc = .ok (.lload j, 2)) (hl : ls[j]? = some (lV x)) (k : G M d mc ms (pc + 2) ls (lV x :: st) (w, m) Q) : G M d mc ms pc ls st (w, m) Q := by
  intro l b0 D cA X p e R s mm args below meth c H locs cells slots ls' c1 c2
  exact lv_lload c1.1 c1.2.1 hd (c2.2.2.2.2.2 _ _ hl (fun h => by cases h)) (k l b0 D cA X p e R s mm args below meth c H locs cells slots ls' c1 c2)
theorem G_aload_n {M : MD} {d mc ms pc : Nat} {ls st : List PV} {w : List KD} {m : Nat → Nat → Int} {Q : Ps} {j : Fin 4} {x : Nat} (hd : decode M.2.1 pc = .ok (.aload_n j, 1)) (hl : ls[j.val]? = some (rV x)) (k : G M d mc ms (pc + 1) ls (rV x :: st) (w, m) Q) : G M d mc ms pc ls st (w, m) Q := by
  intro l b0 D cA X p e R s mm args below meth c H locs cells slots ls' c1 c2
  exact lv_aload_n c1.1 c1.2.1 hd rfl (c2.2.2.2.2.2 _ _ hl (fun h => by cases h)) (k l b0 D cA X p e R s mm args below meth c H locs cells slots ls' c1 c2)
theorem G_aload {M : MD} {d mc ms pc : Nat} {ls st : List PV} {w : List KD} {m : Nat → Nat → Int} {Q : Ps} {j : Nat} {x : Nat} (hd : decode M.2.1 pc = .ok (.aload j, 2)) (hl : ls[j]? = some (rV x)) (k : G M d mc ms (pc + 2) ls (rV x :: st) (w, m) Q) : G M d mc ms pc ls st (w, m) Q := by
  intro l b0 D cA X p e R s mm args below meth c H locs cells slots ls' c1 c2
  exact lv_aload c1.1 c1.2.1 hd (c2.2.2.2.2.2 _ _ hl (fun h => by cases h)) (k l b0 D cA X p e R s mm args below meth c H locs cells slots ls' c1 c2)
theorem G_fload_n {M : MD} {d mc ms pc : Nat} {ls st : List PV} {w : List KD} {m : Nat → Nat → Int} {Q : Ps} {j : Fin 4} {x : UInt32} (hd : decode M.2.1 pc = .ok (.fload_n j, 1)) (hl : ls[j.val]? = some (vV (.float x))) (k : G M d mc ms (pc + 1) ls (vV (.float x) :: st) (w, m) Q) : G M d mc ms pc ls st (w, m) Q := by
  intro l b0 D cA X p e R s mm args below meth c H locs cells slots ls' c1 c2
  exact lv_fload_n c1.1 c1.2.1 hd rfl (c2.2.2.2.2.2 _ _ hl (fun h => by cases h)) (k l b0 D cA X p e R s mm args below meth c H locs cells slots ls' c1 c2)
theorem G_dload_n {M : MD} {d mc ms pc : Nat} {ls st : List PV} {w : List KD} {m : Nat → Nat → Int} {Q : Ps} {j : Fin 4} {x : UInt64} (hd : decode M.2.1 pc = .ok (.dload_n j, 1)) (hl : ls[j.val]? = some (vV (.double x))) (k : G M d mc ms (pc + 1) ls (vV (.double x) :: st) (w, m) Q) : G M d mc ms pc ls st (w, m) Q := by
  intro l b0 D cA X p e R s mm args below meth c H locs cells slots ls' c1 c2
  exact lv_dload_n c1.1 c1.2.1 hd rfl (c2.2.2.2.2.2 _ _ hl (fun h => by cases h)) (k l b0 D cA X p e R s mm args below meth c H locs cells slots ls' c1 c2)
theorem G_aloadv_n {M : MD} {d mc ms pc : Nat} {ls st : List PV} {w : List KD} {m : Nat → Nat → Int} {Q : Ps} {j : Fin 4} {x : Nat} (hd : decode M.2.1 pc = .ok (.aload_n j, 1)) (hl : ls[j.val]? = some (vV (.ref x))) (k : G M d mc ms (pc + 1) ls (vV (.ref x) :: st) (w, m) Q) : G M d mc ms pc ls st (w, m) Q := by
  intro l b0 D cA X p e R s mm args below meth c H locs cells slots ls' c1 c2
  exact lv_aload_n c1.1 c1.2.1 hd rfl (c2.2.2.2.2.2 _ _ hl (fun h => by cases h)) (k l b0 D cA X p e R s mm args below meth c H locs cells slots ls' c1 c2)
def okPrev (ls : List PV) (i : Nat) : Bool := match i with
  | 0 => true
  | j + 1 => match ls[j]? with
    | some v => decide (pcat v ≠ 2)
    | none => true
def prsOf (b0 : Nat) (ls : List PV) : List (Nat × Value) := (List.range ls.length).filterMap fun i => match ls[i]? with
  | some v => if v = uV then none else some (i, enc b0 v)
  | none => none
theorem prs_mem {b0 : Nat} {ls : List PV} {i : Nat} {v : PV} (h : ls[i]? = some v) (hv : v ≠ uV) : (i, enc b0 v) ∈ prsOf b0 ls := by
  refine List.mem_filterMap.mpr ⟨i, List.mem_range.mpr (List.getElem?_eq_some_iff.mp h).1, ?_⟩
  simp only [h, if_neg hv]
theorem prs_inv {b0 : Nat} {ls : List PV} {q : Nat × Value} (h : q ∈ prsOf b0 ls) : ∃ v, ls[q.1]? = some v ∧ v ≠ uV ∧ q.2 = enc b0 v := by
  obtain ⟨i, -, hi⟩ := List.mem_filterMap.mp h
  cases hx : ls[i]? with
  | none => rw [hx] at hi; cases hi
  | some v =>
    rw [hx] at hi
    by_cases hv : v = uV
    · simp [hv] at hi
    · simp only [if_neg hv] at hi
      cases hi
      exact ⟨v, hx, hv, rfl⟩
theorem LV.has {ls' : Array Slot} {n b0 : Nat} {ls : List PV} (h : LV ls' n b0 ls) : lv_has ls' n (prsOf b0 ls) := by
  refine ⟨h.1, h.2.1, fun q hq => ?_⟩
  obtain ⟨v, h1, h2, h3⟩ := prs_inv hq
  rw [h3]
  exact h.2.2 _ _ h1 h2
theorem LV.store1 {ls' : Array Slot} {n b0 : Nat} {ls : List PV} {i : Nat} {v : PV} {val : Value} (hval : val = enc b0 v) (hp : okPrev ls i = true) (h : lv_has ls' n ((i, val) :: (prsOf b0 ls).filter (fun q => !(q.1 == i) && !(q.1 + 1 == i && q.2.category == 2)))) : LV ls' n b0 (ls.set i v) := by
  subst hval
  refine ⟨h.1, h.2.1, fun j u hj hu => ?_⟩
  rw [List.getElem?_set] at hj
  by_cases e : i = j
  · subst e
    rw [if_pos rfl] at hj
    by_cases hl : i < ls.length
    · rw [if_pos hl] at hj
      cases hj
      exact h.2.2 _ List.mem_cons_self
    · rw [if_neg hl] at hj
      cases hj
  · rw [if_neg e] at hj
    refine h.2.2 (j, enc b0 u) (List.mem_cons_of_mem _ (List.mem_filter.mpr ⟨prs_mem hj hu, ?_⟩))
    have h1 : (j == i) = false := by simpa using fun h => e h.symm
    simp only [h1, Bool.not_false, Bool.true_and, Bool.not_eq_true']
    by_cases e2 : j + 1 = i
    · subst e2
      simp only [okPrev, hj, decide_eq_true_eq] at hp
      have : ((enc b0 u).category == 2) = false := by rw [enc_cat]; simpa using hp
      simp [this]
    · have : (j + 1 == i) = false := by simpa using e2
      simp [this]
theorem LV.store2 {ls' : Array Slot} {n b0 : Nat} {ls : List PV} {i : Nat} {v : PV} {val : Value} (hval : val = enc b0 v) (hp : okPrev ls i = true) (h : lv_has ls' n ((i, val) :: (prsOf b0 ls).filter (fun q => !(q.1 == i) && (!(q.1 == i + 1) && !(q.1 + 1 == i && q.2.category == 2))))) : LV ls' n b0 ((ls.set i v).set (i + 1) uV) := by
  subst hval
  refine ⟨h.1, h.2.1, fun j u hj hu => ?_⟩
  rw [List.getElem?_set] at hj
  by_cases e1 : i + 1 = j
  · rw [if_pos e1] at hj
    split at hj
    · cases hj
      exact absurd rfl hu
    · cases hj
  rw [if_neg e1, List.getElem?_set] at hj
  by_cases e : i = j
  · subst e
    rw [if_pos rfl] at hj
    by_cases hl : i < ls.length
    · rw [if_pos hl] at hj
      cases hj
      exact h.2.2 _ List.mem_cons_self
    · rw [if_neg hl] at hj
      cases hj
  · rw [if_neg e] at hj
    refine h.2.2 (j, enc b0 u) (List.mem_cons_of_mem _ (List.mem_filter.mpr ⟨prs_mem hj hu, ?_⟩))
    have h1 : (j == i) = false := by simpa using fun h => e h.symm
    have h3 : (j == i + 1) = false := by simpa using fun h => e1 h.symm
    simp only [h1, h3, Bool.not_false, Bool.true_and, Bool.not_eq_true']
    by_cases e2 : j + 1 = i
    · subst e2
      simp only [okPrev, hj, decide_eq_true_eq] at hp
      have : ((enc b0 u).category == 2) = false := by rw [enc_cat]; simpa using hp
      simp [this]
    · have : (j + 1 == i) = false := by simpa using e2
      simp [this]
theorem G_istore_n {M : MD} {d mc ms pc : Nat} {ls st : List PV} {w : List KD} {m : Nat → Nat → Int} {Q : Ps} {j : Fin 4} {x : Int} (hd : decode M.2.1 pc = .ok (.istore_n j, 1)) (hn : j.val < M.2.2.1) (hp : okPrev ls j.val = true) (k : G M d mc ms (pc + 1) (ls.set j.val (iV x)) st (w, m) Q) : G M d mc ms pc ls (iV x :: st) (w, m) Q := by
  intro l b0 D cA X p e R s mm args below meth c H locs cells slots ls' c1 c2
  refine lv_istore_n c1.1 c1.2.1 hd rfl c2.2.2.2.has hn rfl (fun ls1 h1 => ?_)
  exact k l b0 D cA X p e R s mm args below meth c H locs cells slots ls1 c1 ⟨c2.1, c2.2.1, c2.2.2.1, LV.store1 rfl hp h1⟩
theorem G_istore {M : MD} {d mc ms pc : Nat} {ls st : List PV} {w : List KD} {m : Nat → Nat → Int} {Q : Ps} {j : Nat} {x : Int} (hd : decode M.2.1 pc = .ok (.istore j, 2)) (hn : j < M.2.2.1) (hp : okPrev ls j = true) (k : G M d mc ms (pc + 2) (ls.set j (iV x)) st (w, m) Q) : G M d mc ms pc ls (iV x :: st) (w, m) Q := by
  intro l b0 D cA X p e R s mm args below meth c H locs cells slots ls' c1 c2
  refine lv_istore c1.1 c1.2.1 hd c2.2.2.2.has hn rfl (fun ls1 h1 => ?_)
  exact k l b0 D cA X p e R s mm args below meth c H locs cells slots ls1 c1 ⟨c2.1, c2.2.1, c2.2.2.1, LV.store1 rfl hp h1⟩
theorem G_astore_n {M : MD} {d mc ms pc : Nat} {ls st : List PV} {w : List KD} {m : Nat → Nat → Int} {Q : Ps} {j : Fin 4} {x : Nat} (hd : decode M.2.1 pc = .ok (.astore_n j, 1)) (hn : j.val < M.2.2.1) (hp : okPrev ls j.val = true) (k : G M d mc ms (pc + 1) (ls.set j.val (rV x)) st (w, m) Q) : G M d mc ms pc ls (rV x :: st) (w, m) Q := by
  intro l b0 D cA X p e R s mm args below meth c H locs cells slots ls' c1 c2
  refine lv_astore_n c1.1 c1.2.1 hd rfl c2.2.2.2.has hn rfl (fun ls1 h1 => ?_)
  exact k l b0 D cA X p e R s mm args below meth c H locs cells slots ls1 c1 ⟨c2.1, c2.2.1, c2.2.2.1, LV.store1 rfl hp h1⟩
theorem G_astore {M : MD} {d mc ms pc : Nat} {ls st : List PV} {w : List KD} {m : Nat → Nat → Int} {Q : Ps} {j : Nat} {x : Nat} (hd : decode M.2.1 pc = .ok (.astore j, 2)) (hn : j < M.2.2.1) (hp : okPrev ls j = true) (k : G M d mc ms (pc + 2) (ls.set j (rV x)) st (w, m) Q) : G M d mc ms pc ls (rV x :: st) (w, m) Q := by
  intro l b0 D cA X p e R s mm args below meth c H locs cells slots ls' c1 c2
  refine lv_astore c1.1 c1.2.1 hd c2.2.2.2.has hn rfl (fun ls1 h1 => ?_)
  exact k l b0 D cA X p e R s mm args below meth c H locs cells slots ls1 c1 ⟨c2.1, c2.2.1, c2.2.2.1, LV.store1 rfl hp h1⟩
theorem G_lstore_n {M : MD} {d mc ms pc : Nat} {ls st : List PV} {w : List KD} {m : Nat → Nat → Int} {Q : Ps} {j : Fin 4} {x : Int} (hd : decode M.2.1 pc = .ok (.lstore_n j, 1)) (hn : j.val + 1 < M.2.2.1) (hp : okPrev ls j.val = true) (k : G M d mc ms (pc + 1) ((ls.set j.val (lV x)).set (j.val + 1) uV) st (w, m) Q) : G M d mc ms pc ls (lV x :: st) (w, m) Q := by
  intro l b0 D cA X p e R s mm args below meth c H locs cells slots ls' c1 c2
  refine lv_lstore_n c1.1 c1.2.1 hd rfl c2.2.2.2.has hn rfl (fun ls1 h1 => ?_)
  exact k l b0 D cA X p e R s mm args below meth c H locs cells slots ls1 c1 ⟨c2.1, c2.2.1, c2.2.2.1, LV.store2 rfl hp h1⟩
theorem G_lstore {M : MD} {d mc ms pc : Nat} {ls st : List PV} {w : List KD} {m : Nat → Nat → Int} {Q : Ps} {j : Nat} {x : Int} (hd : decode M.2.1 pc = .ok (.lstore j, 2)) (hn : j + 1 < M.2.2.1) (hp : okPrev ls j = true) (k : G M d mc ms (pc + 2) ((ls.set j (lV x)).set (j + 1) uV) st (w, m) Q) : G M d mc ms pc ls (lV x :: st) (w, m) Q := by
  intro l b0 D cA X p e R s mm args below meth c H locs cells slots ls' c1 c2
  refine lv_lstore c1.1 c1.2.1 hd c2.2.2.2.has hn rfl (fun ls1 h1 => ?_)
  exact k l b0 D cA X p e R s mm args below meth c H locs cells slots ls1 c1 ⟨c2.1, c2.2.1, c2.2.2.1, LV.store2 rfl hp h1⟩
theorem G_fstore_n {M : MD} {d mc ms pc : Nat} {ls st : List PV} {w : List KD} {m : Nat → Nat → Int} {Q : Ps} {j : Fin 4} {x : UInt32} (hd : decode M.2.1 pc = .ok (.fstore_n j, 1)) (hn : j.val < M.2.2.1) (hp : okPrev ls j.val = true) (k : G M d mc ms (pc + 1) (ls.set j.val (vV (.float x))) st (w, m) Q) : G M d mc ms pc ls (vV (.float x) :: st) (w, m) Q := by
  intro l b0 D cA X p e R s mm args below meth c H locs cells slots ls' c1 c2
  refine lv_fstore_n c1.1 c1.2.1 hd rfl c2.2.2.2.has hn rfl (fun ls1 h1 => ?_)
  exact k l b0 D cA X p e R s mm args below meth c H locs cells slots ls1 c1 ⟨c2.1, c2.2.1, c2.2.2.1, LV.store1 (v := vV (.float x)) rfl hp h1⟩
theorem G_dstore_n {M : MD} {d mc ms pc : Nat} {ls st : List PV} {w : List KD} {m : Nat → Nat → Int} {Q : Ps} {j : Fin 4} {x : UInt64} (hd : decode M.2.1 pc = .ok (.dstore_n j, 1)) (hn : j.val + 1 < M.2.2.1) (hp : okPrev ls j.val = true) (k : G M d mc ms (pc + 1) ((ls.set j.val (vV (.double x))).set (j.val + 1) uV) st (w, m) Q) : G M d mc ms pc ls (vV (.double x) :: st) (w, m) Q := by
  intro l b0 D cA X p e R s mm args below meth c H locs cells slots ls' c1 c2
  refine lv_dstore_n c1.1 c1.2.1 hd rfl c2.2.2.2.has hn rfl (fun ls1 h1 => ?_)
  exact k l b0 D cA X p e R s mm args below meth c H locs cells slots ls1 c1 ⟨c2.1, c2.2.1, c2.2.2.1, LV.store2 (v := vV (.double x)) rfl hp h1⟩
theorem G_iinc {M : MD} {d mc ms pc : Nat} {ls st : List PV} {w : List KD} {m : Nat → Nat → Int} {Q : Ps} {j : Nat} {n x : Int} (hd : decode M.2.1 pc = .ok (.iinc j n, 3)) (hl : ls[j]? = some (iV x)) (hn : j < M.2.2.1) (hp : okPrev ls j = true) (k : G M d mc ms (pc + 3) (ls.set j (iV (x + n))) st (w, m) Q) : G M d mc ms pc ls st (w, m) Q := by
  intro l b0 D cA X p e R s mm args below meth c H locs cells slots ls' c1 c2
  obtain ⟨q, hq⟩ := List.getElem?_of_mem (prs_mem (b0 := b0) hl (fun h => by cases h))
  refine lv_iinc c1.1 c1.2.1 hd c2.2.2.2.has (k := q) hq rfl hn rfl (fun ls1 h1 => ?_)
  exact k l b0 D cA X p e R s mm args below meth c H locs cells slots ls1 c1 ⟨c2.1, c2.2.1, c2.2.2.1, LV.store1 (v := iV (x + n)) (by show _ = Value.int (Int32.ofInt (x + n)); rw [Int32.ofInt_add]) hp h1⟩
theorem G_iadd {M : MD} {d mc ms pc : Nat} {ls st : List PV} {w : List KD} {m : Nat → Nat → Int} {Q : Ps} {x y : Int} (hd : decode M.2.1 pc = .ok (.iadd, 1))  (k : G M d mc ms (pc + 1) ls (iV (x + y) :: st) (w, m) Q) : G M d mc ms pc ls (iV y :: iV x :: st) (w, m) Q := by
  intro l b0 D cA X p e R s mm args below meth c H locs cells slots ls' c1 c2
  have k1 := k l b0 D cA X p e R s mm args below meth c H locs cells slots ls' c1 c2
  refine lv_iadd c1.1 c1.2.1 hd ?_
  rw [← Int32.ofInt_add]
  exact k1
theorem G_isub {M : MD} {d mc ms pc : Nat} {ls st : List PV} {w : List KD} {m : Nat → Nat → Int} {Q : Ps} {x y : Int} (hd : decode M.2.1 pc = .ok (.isub, 1))  (k : G M d mc ms (pc + 1) ls (iV (x - y) :: st) (w, m) Q) : G M d mc ms pc ls (iV y :: iV x :: st) (w, m) Q := by
  intro l b0 D cA X p e R s mm args below meth c H locs cells slots ls' c1 c2
  have k1 := k l b0 D cA X p e R s mm args below meth c H locs cells slots ls' c1 c2
  refine lv_isub c1.1 c1.2.1 hd ?_
  rw [← Int32.ofInt_sub]
  exact k1
theorem G_imul {M : MD} {d mc ms pc : Nat} {ls st : List PV} {w : List KD} {m : Nat → Nat → Int} {Q : Ps} {x y : Int} (hd : decode M.2.1 pc = .ok (.imul, 1))  (k : G M d mc ms (pc + 1) ls (iV (x * y) :: st) (w, m) Q) : G M d mc ms pc ls (iV y :: iV x :: st) (w, m) Q := by
  intro l b0 D cA X p e R s mm args below meth c H locs cells slots ls' c1 c2
  have k1 := k l b0 D cA X p e R s mm args below meth c H locs cells slots ls' c1 c2
  refine lv_imul c1.1 c1.2.1 hd ?_
  rw [← Int32.ofInt_mul]
  exact k1
theorem G_ineg {M : MD} {d mc ms pc : Nat} {ls st : List PV} {w : List KD} {m : Nat → Nat → Int} {Q : Ps} {x : Int} (hd : decode M.2.1 pc = .ok (.ineg, 1))  (k : G M d mc ms (pc + 1) ls (iV (-x) :: st) (w, m) Q) : G M d mc ms pc ls (iV x :: st) (w, m) Q := by
  intro l b0 D cA X p e R s mm args below meth c H locs cells slots ls' c1 c2
  have k1 := k l b0 D cA X p e R s mm args below meth c H locs cells slots ls' c1 c2
  refine lv_ineg c1.1 c1.2.1 hd ?_
  rw [← Int32.ofInt_neg]
  exact k1
theorem G_ladd {M : MD} {d mc ms pc : Nat} {ls st : List PV} {w : List KD} {m : Nat → Nat → Int} {Q : Ps} {x y : Int} (hd : decode M.2.1 pc = .ok (.ladd, 1))  (k : G M d mc ms (pc + 1) ls (lV (x + y) :: st) (w, m) Q) : G M d mc ms pc ls (lV y :: lV x :: st) (w, m) Q := by
  intro l b0 D cA X p e R s mm args below meth c H locs cells slots ls' c1 c2
  have k1 := k l b0 D cA X p e R s mm args below meth c H locs cells slots ls' c1 c2
  refine lv_ladd c1.1 c1.2.1 hd ?_
  rw [← Int64.ofInt_add]
  exact k1
theorem G_lsub {M : MD} {d mc ms pc : Nat} {ls st : List PV} {w : List KD} {m : Nat → Nat → Int} {Q : Ps} {x y : Int} (hd : decode M.2.1 pc = .ok (.lsub, 1))  (k : G M d mc ms (pc + 1) ls (lV (x - y) :: st) (w, m) Q) : G M d mc ms pc ls (lV y :: lV x :: st) (w, m) Q := by
  intro l b0 D cA X p e R s mm args below meth c H locs cells slots ls' c1 c2
  have k1 := k l b0 D cA X p e R s mm args below meth c H locs cells slots ls' c1 c2
  refine lv_lsub c1.1 c1.2.1 hd ?_
  rw [← Int64.ofInt_sub]
  exact k1
theorem G_lmul {M : MD} {d mc ms pc : Nat} {ls st : List PV} {w : List KD} {m : Nat → Nat → Int} {Q : Ps} {x y : Int} (hd : decode M.2.1 pc = .ok (.lmul, 1))  (k : G M d mc ms (pc + 1) ls (lV (x * y) :: st) (w, m) Q) : G M d mc ms pc ls (lV y :: lV x :: st) (w, m) Q := by
  intro l b0 D cA X p e R s mm args below meth c H locs cells slots ls' c1 c2
  have k1 := k l b0 D cA X p e R s mm args below meth c H locs cells slots ls' c1 c2
  refine lv_lmul c1.1 c1.2.1 hd ?_
  rw [← Int64.ofInt_mul]
  exact k1
theorem G_iand {M : MD} {d mc ms pc : Nat} {ls st : List PV} {w : List KD} {m : Nat → Nat → Int} {Q : Ps} {x y : Int} (z : Int) (hd : decode M.2.1 pc = .ok (.iand, 1)) (hz : Int32.ofInt x &&& Int32.ofInt y = Int32.ofInt z) (k : G M d mc ms (pc + 1) ls (iV z :: st) (w, m) Q) : G M d mc ms pc ls (iV y :: iV x :: st) (w, m) Q := by
  intro l b0 D cA X p e R s mm args below meth c H locs cells slots ls' c1 c2
  have k1 := k l b0 D cA X p e R s mm args below meth c H locs cells slots ls' c1 c2
  refine lv_iand c1.1 c1.2.1 hd ?_
  rw [hz]
  exact k1
theorem G_ior {M : MD} {d mc ms pc : Nat} {ls st : List PV} {w : List KD} {m : Nat → Nat → Int} {Q : Ps} {x y : Int} (z : Int) (hd : decode M.2.1 pc = .ok (.ior, 1)) (hz : Int32.ofInt x ||| Int32.ofInt y = Int32.ofInt z) (k : G M d mc ms (pc + 1) ls (iV z :: st) (w, m) Q) : G M d mc ms pc ls (iV y :: iV x :: st) (w, m) Q := by
  intro l b0 D cA X p e R s mm args below meth c H locs cells slots ls' c1 c2
  have k1 := k l b0 D cA X p e R s mm args below meth c H locs cells slots ls' c1 c2
  refine lv_ior c1.1 c1.2.1 hd ?_
  rw [hz]
  exact k1
theorem G_ixor {M : MD} {d mc ms pc : Nat} {ls st : List PV} {w : List KD} {m : Nat → Nat → Int} {Q : Ps} {x y : Int} (z : Int) (hd : decode M.2.1 pc = .ok (.ixor, 1)) (hz : Int32.ofInt x ^^^ Int32.ofInt y = Int32.ofInt z) (k : G M d mc ms (pc + 1) ls (iV z :: st) (w, m) Q) : G M d mc ms pc ls (iV y :: iV x :: st) (w, m) Q := by
  intro l b0 D cA X p e R s mm args below meth c H locs cells slots ls' c1 c2
  have k1 := k l b0 D cA X p e R s mm args below meth c H locs cells slots ls' c1 c2
  refine lv_ixor c1.1 c1.2.1 hd ?_
  rw [hz]
  exact k1
theorem G_ishl {M : MD} {d mc ms pc : Nat} {ls st : List PV} {w : List KD} {m : Nat → Nat → Int} {Q : Ps} {x y : Int} (z : Int) (hd : decode M.2.1 pc = .ok (.ishl, 1)) (hz : Int32.ofInt x <<< (Int32.ofInt y &&& 31) = Int32.ofInt z) (k : G M d mc ms (pc + 1) ls (iV z :: st) (w, m) Q) : G M d mc ms pc ls (iV y :: iV x :: st) (w, m) Q := by
  intro l b0 D cA X p e R s mm args below meth c H locs cells slots ls' c1 c2
  have k1 := k l b0 D cA X p e R s mm args below meth c H locs cells slots ls' c1 c2
  refine lv_ishl c1.1 c1.2.1 hd ?_
  rw [hz]
  exact k1
theorem G_ishr {M : MD} {d mc ms pc : Nat} {ls st : List PV} {w : List KD} {m : Nat → Nat → Int} {Q : Ps} {x y : Int} (z : Int) (hd : decode M.2.1 pc = .ok (.ishr, 1)) (hz : Int32.ofInt x >>> (Int32.ofInt y &&& 31) = Int32.ofInt z) (k : G M d mc ms (pc + 1) ls (iV z :: st) (w, m) Q) : G M d mc ms pc ls (iV y :: iV x :: st) (w, m) Q := by
  intro l b0 D cA X p e R s mm args below meth c H locs cells slots ls' c1 c2
  have k1 := k l b0 D cA X p e R s mm args below meth c H locs cells slots ls' c1 c2
  refine lv_ishr c1.1 c1.2.1 hd ?_
  rw [hz]
  exact k1
theorem G_lor {M : MD} {d mc ms pc : Nat} {ls st : List PV} {w : List KD} {m : Nat → Nat → Int} {Q : Ps} {x y : Int} (z : Int) (hd : decode M.2.1 pc = .ok (.lor, 1)) (hz : Int64.ofInt x ||| Int64.ofInt y = Int64.ofInt z) (k : G M d mc ms (pc + 1) ls (lV z :: st) (w, m) Q) : G M d mc ms pc ls (lV y :: lV x :: st) (w, m) Q := by
  intro l b0 D cA X p e R s mm args below meth c H locs cells slots ls' c1 c2
  have k1 := k l b0 D cA X p e R s mm args below meth c H locs cells slots ls' c1 c2
  refine lv_lor c1.1 c1.2.1 hd ?_
  rw [hz]
  exact k1
theorem G_lshl {M : MD} {d mc ms pc : Nat} {ls st : List PV} {w : List KD} {m : Nat → Nat → Int} {Q : Ps} {x y : Int} (z : Int) (hd : decode M.2.1 pc = .ok (.lshl, 1)) (hz : Int64.ofInt x <<< ((Int32.ofInt y).toInt64 &&& 63) = Int64.ofInt z) (k : G M d mc ms (pc + 1) ls (lV z :: st) (w, m) Q) : G M d mc ms pc ls (iV y :: lV x :: st) (w, m) Q := by
  intro l b0 D cA X p e R s mm args below meth c H locs cells slots ls' c1 c2
  have k1 := k l b0 D cA X p e R s mm args below meth c H locs cells slots ls' c1 c2
  refine lv_lshl c1.1 c1.2.1 hd hz ?_
  exact k1
theorem oi_div {x y : Int} (hx : -2147483648 < x ∧ x < 2147483648) (hy : -2147483648 ≤ y ∧ y < 2147483648) : Int32.ofInt x / Int32.ofInt y = Int32.ofInt (x.tdiv y) := by
  rw [← Int32.toInt_inj, Int32.toInt_div_of_ne_left, oi_toInt ⟨by omega, hx.2⟩, oi_toInt hy]
  · symm
    apply oi_toInt
    have h1 : (x.tdiv y).natAbs ≤ x.natAbs := by
      rw [Int.natAbs_tdiv]
      exact Nat.div_le_self _ _
    omega
  · intro h
    have := congrArg Int32.toInt h
    rw [oi_toInt ⟨by omega, hx.2⟩] at this
    have h2 : Int32.minValue.toInt = -2147483648 := by decide
    omega
theorem oi_rem {x y : Int} (hx : -2147483648 < x ∧ x < 2147483648) (hy : -2147483648 ≤ y ∧ y < 2147483648) : Int32.ofInt x - Int32.ofInt x / Int32.ofInt y * Int32.ofInt y = Int32.ofInt (x.tmod y) := by
  rw [oi_div hx hy, ← Int32.ofInt_mul, ← Int32.ofInt_sub]
  congr 1
  have := Int.mul_tdiv_add_tmod x y
  rw [Int.mul_comm (x.tdiv y) y]
  omega
theorem G_idiv {M : MD} {d mc ms pc : Nat} {ls st : List PV} {w : List KD} {m : Nat → Nat → Int} {Q : Ps} {x y : Int} (hd : decode M.2.1 pc = .ok (.idiv, 1)) (hx : -2147483648 < x ∧ x < 2147483648) (hy : -2147483648 ≤ y ∧ y < 2147483648) (h0 : y ≠ 0) (k : G M d mc ms (pc + 1) ls (iV (x.tdiv y) :: st) (w, m) Q) : G M d mc ms pc ls (iV y :: iV x :: st) (w, m) Q := by
  intro l b0 D cA X p e R s mm args below meth c H locs cells slots ls' c1 c2
  have k1 := k l b0 D cA X p e R s mm args below meth c H locs cells slots ls' c1 c2
  refine lv_idiv c1.1 c1.2.1 hd ?_ ?_
  · rw [← oi_0, oi_inj hy (by decide)]
    exact h0
  · rw [oi_div hx hy]
    exact k1
theorem G_irem {M : MD} {d mc ms pc : Nat} {ls st : List PV} {w : List KD} {m : Nat → Nat → Int} {Q : Ps} {x y : Int} (hd : decode M.2.1 pc = .ok (.irem, 1)) (hx : -2147483648 < x ∧ x < 2147483648) (hy : -2147483648 ≤ y ∧ y < 2147483648) (h0 : y ≠ 0) (k : G M d mc ms (pc + 1) ls (iV (x.tmod y) :: st) (w, m) Q) : G M d mc ms pc ls (iV y :: iV x :: st) (w, m) Q := by
  intro l b0 D cA X p e R s mm args below meth c H locs cells slots ls' c1 c2
  have k1 := k l b0 D cA X p e R s mm args below meth c H locs cells slots ls' c1 c2
  refine lv_irem c1.1 c1.2.1 hd ?_ ?_
  · rw [← oi_0, oi_inj hy (by decide)]
    exact h0
  · rw [oi_rem hx hy]
    exact k1
theorem G_ldiv {M : MD} {d mc ms pc : Nat} {ls st : List PV} {w : List KD} {m : Nat → Nat → Int} {Q : Ps} {x y : Int} (z : Int) (hd : decode M.2.1 pc = .ok (.ldiv, 1)) (h0 : ¬ Int64.ofInt y = 0) (hz : Int64.ofInt x / Int64.ofInt y = Int64.ofInt z) (k : G M d mc ms (pc + 1) ls (lV z :: st) (w, m) Q) : G M d mc ms pc ls (lV y :: lV x :: st) (w, m) Q := by
  intro l b0 D cA X p e R s mm args below meth c H locs cells slots ls' c1 c2
  have k1 := k l b0 D cA X p e R s mm args below meth c H locs cells slots ls' c1 c2
  refine lv_ldiv c1.1 c1.2.1 hd h0 ?_
  rw [hz]
  exact k1
theorem G_i2l {M : MD} {d mc ms pc : Nat} {ls st : List PV} {w : List KD} {m : Nat → Nat → Int} {Q : Ps} {x : Int} (hd : decode M.2.1 pc = .ok (.i2l, 1)) (hx : -2147483648 ≤ x ∧ x < 2147483648) (k : G M d mc ms (pc + 1) ls (lV x :: st) (w, m) Q) : G M d mc ms pc ls (iV x :: st) (w, m) Q := by
  intro l b0 D cA X p e R s mm args below meth c H locs cells slots ls' c1 c2
  have k1 := k l b0 D cA X p e R s mm args below meth c H locs cells slots ls' c1 c2
  refine lv_i2l c1.1 c1.2.1 hd (v := Int64.ofInt x) ?_ ?_
  · exact Int32.toInt64_ofInt (by show -2147483648 ≤ x; omega) (by show x ≤ 2147483647; omega)
  · exact k1
theorem G_i2b {M : MD} {d mc ms pc : Nat} {ls st : List PV} {w : List KD} {m : Nat → Nat → Int} {Q : Ps} {x : Int} (hd : decode M.2.1 pc = .ok (.i2b, 1))  (k : G M d mc ms (pc + 1) ls (iV (x.bmod 256) :: st) (w, m) Q) : G M d mc ms pc ls (iV x :: st) (w, m) Q := by
  intro l b0 D cA X p e R s mm args below meth c H locs cells slots ls' c1 c2
  have k1 := k l b0 D cA X p e R s mm args below meth c H locs cells slots ls' c1 c2
  refine lv_i2b c1.1 c1.2.1 hd (v := Int32.ofInt (x.bmod 256)) ?_ ?_
  · rw [← Int32.toInt_inj, Int8.toInt_toInt32, Int32.toInt_toInt8, Int32.toInt_ofInt, oi_toInt]
    · rw [show (Int32.size) = 4294967296 from rfl, Int.bmod_bmod_of_dvd (by decide)]
    · have h1 := Int.le_bmod (x := x) (m := 256) (by decide)
      have h2 := Int.bmod_lt (x := x) (m := 256) (by decide)
      omega
  · exact k1
theorem G_i2s {M : MD} {d mc ms pc : Nat} {ls st : List PV} {w : List KD} {m : Nat → Nat → Int} {Q : Ps} {x : Int} (hd : decode M.2.1 pc = .ok (.i2s, 1)) (hx : -32768 ≤ x ∧ x < 32768) (k : G M d mc ms (pc + 1) ls (iV x :: st) (w, m) Q) : G M d mc ms pc ls (iV x :: st) (w, m) Q := by
  intro l b0 D cA X p e R s mm args below meth c H locs cells slots ls' c1 c2
  have k1 := k l b0 D cA X p e R s mm args below meth c H locs cells slots ls' c1 c2
  refine lv_i2s c1.1 c1.2.1 hd (v := Int32.ofInt x) ?_ ?_
  · rw [← Int32.toInt_inj, Int16.toInt_toInt32, Int32.toInt_toInt16, oi_toInt (by omega)]
    exact Int.bmod_eq_of_le (by omega) (by omega)
  · exact k1
theorem G_dup {M : MD} {d mc ms pc : Nat} {ls st : List PV} {w : List KD} {m : Nat → Nat → Int} {Q : Ps} {v : PV} (hd : decode M.2.1 pc = .ok (.dup, 1)) (hc : pcat v = 1) (k : G M d mc ms (pc + 1) ls (v :: v :: st) (w, m) Q) : G M d mc ms pc ls (v :: st) (w, m) Q := by
  intro l b0 D cA X p e R s mm args below meth c H locs cells slots ls' c1 c2
  have k1 := k l b0 D cA X p e R s mm args below meth c H locs cells slots ls' c1 c2
  refine lv_dup c1.1 c1.2.1 hd (by rw [enc_cat]; exact hc) ?_
  exact k1
theorem G_dup2 {M : MD} {d mc ms pc : Nat} {ls st : List PV} {w : List KD} {m : Nat → Nat → Int} {Q : Ps} {v u : PV} (hd : decode M.2.1 pc = .ok (.dup2, 1)) (hc : pcat v = 1) (hc2 : pcat u = 1) (k : G M d mc ms (pc + 1) ls (v :: u :: v :: u :: st) (w, m) Q) : G M d mc ms pc ls (v :: u :: st) (w, m) Q := by
  intro l b0 D cA X p e R s mm args below meth c H locs cells slots ls' c1 c2
  have k1 := k l b0 D cA X p e R s mm args below meth c H locs cells slots ls' c1 c2
  refine lv_dup2_11 c1.1 c1.2.1 hd (by rw [enc_cat]; exact hc) (by rw [enc_cat]; exact hc2) ?_
  exact k1
theorem G_pop {M : MD} {d mc ms pc : Nat} {ls st : List PV} {w : List KD} {m : Nat → Nat → Int} {Q : Ps} {v : PV} (hd : decode M.2.1 pc = .ok (.pop, 1)) (hc : pcat v = 1) (k : G M d mc ms (pc + 1) ls (st) (w, m) Q) : G M d mc ms pc ls (v :: st) (w, m) Q := by
  intro l b0 D cA X p e R s mm args below meth c H locs cells slots ls' c1 c2
  have k1 := k l b0 D cA X p e R s mm args below meth c H locs cells slots ls' c1 c2
  refine lv_pop c1.1 c1.2.1 hd (by rw [enc_cat]; exact hc) ?_
  exact k1
theorem G_fconst0 {M : MD} {d mc ms pc : Nat} {ls st : List PV} {w : List KD} {m : Nat → Nat → Int} {Q : Ps}  (hd : decode M.2.1 pc = .ok (.fconst 0, 1))  (k : G M d mc ms (pc + 1) ls (vV (.float FP.fconst0) :: st) (w, m) Q) : G M d mc ms pc ls (st) (w, m) Q := by
  intro l b0 D cA X p e R s mm args below meth c H locs cells slots ls' c1 c2
  have k1 := k l b0 D cA X p e R s mm args below meth c H locs cells slots ls' c1 c2
  refine lv_fconst0 c1.1 c1.2.1 hd ?_
  exact k1
theorem G_fconst1 {M : MD} {d mc ms pc : Nat} {ls st : List PV} {w : List KD} {m : Nat → Nat → Int} {Q : Ps}  (hd : decode M.2.1 pc = .ok (.fconst 1, 1))  (k : G M d mc ms (pc + 1) ls (vV (.float FP.fconst1) :: st) (w, m) Q) : G M d mc ms pc ls (st) (w, m) Q := by
  intro l b0 D cA X p e R s mm args below meth c H locs cells slots ls' c1 c2
  have k1 := k l b0 D cA X p e R s mm args below meth c H locs cells slots ls' c1 c2
  refine lv_fconst1 c1.1 c1.2.1 hd ?_
  exact k1
theorem G_fconst2 {M : MD} {d mc ms pc : Nat} {ls st : List PV} {w : List KD} {m : Nat → Nat → Int} {Q : Ps}  (hd : decode M.2.1 pc = .ok (.fconst 2, 1))  (k : G M d mc ms (pc + 1) ls (vV (.float FP.fconst2) :: st) (w, m) Q) : G M d mc ms pc ls (st) (w, m) Q := by
  intro l b0 D cA X p e R s mm args below meth c H locs cells slots ls' c1 c2
  have k1 := k l b0 D cA X p e R s mm args below meth c H locs cells slots ls' c1 c2
  refine lv_fconst2 c1.1 c1.2.1 hd ?_
  exact k1
theorem G_dconst0 {M : MD} {d mc ms pc : Nat} {ls st : List PV} {w : List KD} {m : Nat → Nat → Int} {Q : Ps}  (hd : decode M.2.1 pc = .ok (.dconst 0, 1))  (k : G M d mc ms (pc + 1) ls (vV (.double FP.dconst0) :: st) (w, m) Q) : G M d mc ms pc ls (st) (w, m) Q := by
  intro l b0 D cA X p e R s mm args below meth c H locs cells slots ls' c1 c2
  have k1 := k l b0 D cA X p e R s mm args below meth c H locs cells slots ls' c1 c2
  refine lv_dconst0 c1.1 c1.2.1 hd ?_
  exact k1
theorem G_dconst1 {M : MD} {d mc ms pc : Nat} {ls st : List PV} {w : List KD} {m : Nat → Nat → Int} {Q : Ps}  (hd : decode M.2.1 pc = .ok (.dconst 1, 1))  (k : G M d mc ms (pc + 1) ls (vV (.double FP.dconst1) :: st) (w, m) Q) : G M d mc ms pc ls (st) (w, m) Q := by
  intro l b0 D cA X p e R s mm args below meth c H locs cells slots ls' c1 c2
  have k1 := k l b0 D cA X p e R s mm args below meth c H locs cells slots ls' c1 c2
  refine lv_dconst1 c1.1 c1.2.1 hd ?_
  exact k1
theorem G_fmul {M : MD} {d mc ms pc : Nat} {ls st : List PV} {w : List KD} {m : Nat → Nat → Int} {Q : Ps} {x y : UInt32} (hd : decode M.2.1 pc = .ok (.fmul, 1)) (hne : vf_n32 (FP.fmul x y)) (k : G M d mc ms (pc + 1) ls (vV (.float (FP.fmul x y)) :: st) (w, m) Q) : G M d mc ms pc ls (vV (.float y) :: vV (.float x) :: st) (w, m) Q := by
  intro l b0 D cA X p e R s mm args below meth c H locs cells slots ls' c1 c2
  have k1 := k l b0 D cA X p e R s mm args below meth c H locs cells slots ls' c1 c2
  refine lv_fmul c1.1 c1.2.1 hd hne ?_
  exact k1
theorem G_fsub {M : MD} {d mc ms pc : Nat} {ls st : List PV} {w : List KD} {m : Nat → Nat → Int} {Q : Ps} {x y : UInt32} (hd : decode M.2.1 pc = .ok (.fsub, 1)) (hne : vf_n32 (FP.fsub x y)) (k : G M d mc ms (pc + 1) ls (vV (.float (FP.fsub x y)) :: st) (w, m) Q) : G M d mc ms pc ls (vV (.float y) :: vV (.float x) :: st) (w, m) Q := by
  intro l b0 D cA X p e R s mm args below meth c H locs cells slots ls' c1 c2
  have k1 := k l b0 D cA X p e R s mm args below meth c H locs cells slots ls' c1 c2
  refine lv_fsub c1.1 c1.2.1 hd hne ?_
  exact k1
theorem G_fdiv {M : MD} {d mc ms pc : Nat} {ls st : List PV} {w : List KD} {m : Nat → Nat → Int} {Q : Ps} {x y : UInt32} (hd : decode M.2.1 pc = .ok (.fdiv, 1)) (hne : vf_n32 (FP.fdiv x y)) (k : G M d mc ms (pc + 1) ls (vV (.float (FP.fdiv x y)) :: st) (w, m) Q) : G M d mc ms pc ls (vV (.float y) :: vV (.float x) :: st) (w, m) Q := by
  intro l b0 D cA X p e R s mm args below meth c H locs cells slots ls' c1 c2
  have k1 := k l b0 D cA X p e R s mm args below meth c H locs cells slots ls' c1 c2
  refine lv_fdiv c1.1 c1.2.1 hd hne ?_
  exact k1
theorem G_dmul {M : MD} {d mc ms pc : Nat} {ls st : List PV} {w : List KD} {m : Nat → Nat → Int} {Q : Ps} {x y : UInt64} (hd : decode M.2.1 pc = .ok (.dmul, 1)) (hne : vf_n64 (FP.dmul x y)) (k : G M d mc ms (pc + 1) ls (vV (.double (FP.dmul x y)) :: st) (w, m) Q) : G M d mc ms pc ls (vV (.double y) :: vV (.double x) :: st) (w, m) Q := by
  intro l b0 D cA X p e R s mm args below meth c H locs cells slots ls' c1 c2
  have k1 := k l b0 D cA X p e R s mm args below meth c H locs cells slots ls' c1 c2
  refine lv_dmul c1.1 c1.2.1 hd hne ?_
  exact k1
theorem G_dsub {M : MD} {d mc ms pc : Nat} {ls st : List PV} {w : List KD} {m : Nat → Nat → Int} {Q : Ps} {x y : UInt64} (hd : decode M.2.1 pc = .ok (.dsub, 1)) (hne : vf_n64 (FP.dsub x y)) (k : G M d mc ms (pc + 1) ls (vV (.double (FP.dsub x y)) :: st) (w, m) Q) : G M d mc ms pc ls (vV (.double y) :: vV (.double x) :: st) (w, m) Q := by
  intro l b0 D cA X p e R s mm args below meth c H locs cells slots ls' c1 c2
  have k1 := k l b0 D cA X p e R s mm args below meth c H locs cells slots ls' c1 c2
  refine lv_dsub c1.1 c1.2.1 hd hne ?_
  exact k1
theorem G_ddiv {M : MD} {d mc ms pc : Nat} {ls st : List PV} {w : List KD} {m : Nat → Nat → Int} {Q : Ps} {x y : UInt64} (hd : decode M.2.1 pc = .ok (.ddiv, 1)) (hne : vf_n64 (FP.ddiv x y)) (k : G M d mc ms (pc + 1) ls (vV (.double (FP.ddiv x y)) :: st) (w, m) Q) : G M d mc ms pc ls (vV (.double y) :: vV (.double x) :: st) (w, m) Q := by
  intro l b0 D cA X p e R s mm args below meth c H locs cells slots ls' c1 c2
  have k1 := k l b0 D cA X p e R s mm args below meth c H locs cells slots ls' c1 c2
  refine lv_ddiv c1.1 c1.2.1 hd hne ?_
  exact k1
theorem G_fcmp {M : MD} {d mc ms pc : Nat} {ls st : List PV} {w : List KD} {m : Nat → Nat → Int} {Q : Ps} {x y : UInt32} {op : CmpOp} (hd : decode M.2.1 pc = .ok (.fcmp op, 1))  (k : G M d mc ms (pc + 1) ls (iV (Op.cmpValue (FP.fcmp x y) op).toInt :: st) (w, m) Q) : G M d mc ms pc ls (vV (.float y) :: vV (.float x) :: st) (w, m) Q := by
  intro l b0 D cA X p e R s mm args below meth c H locs cells slots ls' c1 c2
  have k1 := k l b0 D cA X p e R s mm args below meth c H locs cells slots ls' c1 c2
  refine lv_fcmp c1.1 c1.2.1 hd ?_
  rw [← oi_eta (Op.cmpValue (FP.fcmp x y) op)]
  exact k1
theorem G_dcmp {M : MD} {d mc ms pc : Nat} {ls st : List PV} {w : List KD} {m : Nat → Nat → Int} {Q : Ps} {x y : UInt64} {op : CmpOp} (hd : decode M.2.1 pc = .ok (.dcmp op, 1))  (k : G M d mc ms (pc + 1) ls (iV (Op.cmpValue (FP.dcmp x y) op).toInt :: st) (w, m) Q) : G M d mc ms pc ls (vV (.double y) :: vV (.double x) :: st) (w, m) Q := by
  intro l b0 D cA X p e R s mm args below meth c H locs cells slots ls' c1 c2
  have k1 := k l b0 D cA X p e R s mm args below meth c H locs cells slots ls' c1 c2
  refine lv_dcmp c1.1 c1.2.1 hd ?_
  rw [← oi_eta (Op.cmpValue (FP.dcmp x y) op)]
  exact k1
theorem G_i2f {M : MD} {d mc ms pc : Nat} {ls st : List PV} {w : List KD} {m : Nat → Nat → Int} {Q : Ps} {x : Int} (hd : decode M.2.1 pc = .ok (.i2f, 1))  (k : G M d mc ms (pc + 1) ls (vV (.float (FP.i2f (Int32.ofInt x))) :: st) (w, m) Q) : G M d mc ms pc ls (iV x :: st) (w, m) Q := by
  intro l b0 D cA X p e R s mm args below meth c H locs cells slots ls' c1 c2
  have k1 := k l b0 D cA X p e R s mm args below meth c H locs cells slots ls' c1 c2
  refine lv_i2f c1.1 c1.2.1 hd ?_
  exact k1
theorem G_i2d {M : MD} {d mc ms pc : Nat} {ls st : List PV} {w : List KD} {m : Nat → Nat → Int} {Q : Ps} {x : Int} (hd : decode M.2.1 pc = .ok (.i2d, 1))  (k : G M d mc ms (pc + 1) ls (vV (.double (FP.i2d (Int32.ofInt x))) :: st) (w, m) Q) : G M d mc ms pc ls (iV x :: st) (w, m) Q := by
  intro l b0 D cA X p e R s mm args below meth c H locs cells slots ls' c1 c2
  have k1 := k l b0 D cA X p e R s mm args below meth c H locs cells slots ls' c1 c2
  refine lv_i2d c1.1 c1.2.1 hd ?_
  exact k1
theorem G_f2i {M : MD} {d mc ms pc : Nat} {ls st : List PV} {w : List KD} {m : Nat → Nat → Int} {Q : Ps} {x : UInt32} (hd : decode M.2.1 pc = .ok (.f2i, 1))  (k : G M d mc ms (pc + 1) ls (iV (FP.f2i x).toInt :: st) (w, m) Q) : G M d mc ms pc ls (vV (.float x) :: st) (w, m) Q := by
  intro l b0 D cA X p e R s mm args below meth c H locs cells slots ls' c1 c2
  have k1 := k l b0 D cA X p e R s mm args below meth c H locs cells slots ls' c1 c2
  refine lv_f2i c1.1 c1.2.1 hd ?_
  rw [← oi_eta (FP.f2i x)]
  exact k1
theorem G_d2l {M : MD} {d mc ms pc : Nat} {ls st : List PV} {w : List KD} {m : Nat → Nat → Int} {Q : Ps} {x : UInt64} (hd : decode M.2.1 pc = .ok (.d2l, 1))  (k : G M d mc ms (pc + 1) ls (lV (FP.d2l x).toInt :: st) (w, m) Q) : G M d mc ms pc ls (vV (.double x) :: st) (w, m) Q := by
  intro l b0 D cA X p e R s mm args below meth c H locs cells slots ls' c1 c2
  have k1 := k l b0 D cA X p e R s mm args below meth c H locs cells slots ls' c1 c2
  refine lv_d2l c1.1 c1.2.1 hd ?_
  rw [← Int64.ofInt_toInt (FP.d2l x)]
  exact k1
theorem oj_toInt {x : Int} (hx : -9223372036854775808 ≤ x ∧ x < 9223372036854775808) : (Int64.ofInt x).toInt = x := Int64.toInt_ofInt_of_le (by omega) (by omega)
theorem G_lcmp {M : MD} {d mc ms pc : Nat} {ls st : List PV} {w : List KD} {m : Nat → Nat → Int} {Q : Ps} {x y : Int} (z : Int) (hd : decode M.2.1 pc = .ok (.lcmp, 1)) (hz : lg_cmp (Int64.ofInt x) (Int64.ofInt y) = Int32.ofInt z) (k : G M d mc ms (pc + 1) ls (iV z :: st) (w, m) Q) : G M d mc ms pc ls (lV y :: lV x :: st) (w, m) Q := by
  intro l b0 D cA X p e R s mm args below meth c H locs cells slots ls' c1 c2
  have k1 := k l b0 D cA X p e R s mm args below meth c H locs cells slots ls' c1 c2
  refine W.lcmp c1.1 c1.2.1 hd ?_
  rw [hz]
  exact k1
theorem G_ldc {M : MD} {d mc ms pc : Nat} {ls st : List PV} {w : List KD} {m : Nat → Nat → Int} {Q : Ps} {i : Nat} {v : Int} (hd : decode M.2.1 pc = .ok (.ldc i, 2)) (hw : Cond.constant M.1.cls i (Int32.ofInt v) ∈ lwg) (k : G M d mc ms (pc + 2) ls (iV v :: st) (w, m) Q) : G M d mc ms pc ls st (w, m) Q := by
  intro l b0 D cA X p e R s mm args below meth c H locs cells slots ls' c1 c2
  exact lv_ldc c1.1 c1.2.1 c1.2.2.2.2.1 (c1.2.2.2.2.2.1 _ hw) hd (k l b0 D cA X p e R s mm args below meth c H locs cells slots ls' c1 c2)
theorem G_ldcf {M : MD} {d mc ms pc : Nat} {ls st : List PV} {w : List KD} {m : Nat → Nat → Int} {Q : Ps} {i : Nat} {v : UInt32} (hd : decode M.2.1 pc = .ok (.ldc i, 2)) (hw : Cond.constantFloat M.1.cls i v ∈ lwg) (k : G M d mc ms (pc + 2) ls (vV (.float v) :: st) (w, m) Q) : G M d mc ms pc ls st (w, m) Q := by
  intro l b0 D cA X p e R s mm args below meth c H locs cells slots ls' c1 c2
  exact lv_ldcf c1.1 c1.2.1 c1.2.2.2.2.1 (c1.2.2.2.2.2.1 _ hw) hd (k l b0 D cA X p e R s mm args below meth c H locs cells slots ls' c1 c2)
theorem G_ldc2 {M : MD} {d mc ms pc : Nat} {ls st : List PV} {w : List KD} {m : Nat → Nat → Int} {Q : Ps} {i : Nat} {v : Int} (hd : decode M.2.1 pc = .ok (.ldc2_w i, 3)) (hw : Cond.constantLong M.1.cls i (Int64.ofInt v) ∈ lwg) (k : G M d mc ms (pc + 3) ls (lV v :: st) (w, m) Q) : G M d mc ms pc ls st (w, m) Q := by
  intro l b0 D cA X p e R s mm args below meth c H locs cells slots ls' c1 c2
  exact lv_ldc2 c1.1 c1.2.1 c1.2.2.2.2.1 (c1.2.2.2.2.2.1 _ hw) hd (k l b0 D cA X p e R s mm args below meth c H locs cells slots ls' c1 c2)
theorem G_ldc2d {M : MD} {d mc ms pc : Nat} {ls st : List PV} {w : List KD} {m : Nat → Nat → Int} {Q : Ps} {i : Nat} {v : UInt64} (hd : decode M.2.1 pc = .ok (.ldc2_w i, 3)) (hw : Cond.constantDouble M.1.cls i v ∈ lwg) (k : G M d mc ms (pc + 3) ls (vV (.double v) :: st) (w, m) Q) : G M d mc ms pc ls st (w, m) Q := by
  intro l b0 D cA X p e R s mm args below meth c H locs cells slots ls' c1 c2
  exact lv_ldc2d c1.1 c1.2.1 c1.2.2.2.2.1 (c1.2.2.2.2.2.1 _ hw) hd (k l b0 D cA X p e R s mm args below meth c H locs cells slots ls' c1 c2)
theorem G_goto {M : MD} {d mc ms pc : Nat} {ls st : List PV} {w : List KD} {m : Nat → Nat → Int} {Q : Ps} {off : Int} (tgt : Nat) (hd : decode M.2.1 pc = .ok (.goto off, 3)) (ht : (pc : Int) + off = (tgt : Int)) (k : G M d mc ms tgt ls st (w, m) Q) : G M d mc ms pc ls st (w, m) Q := by
  intro l b0 D cA X p e R s mm args below meth c H locs cells slots ls' c1 c2
  exact lv_goto c1.1 c1.2.1 hd ht (k l b0 D cA X p e R s mm args below meth c H locs cells slots ls' c1 c2)
theorem G_icmp_lt {M : MD} {d mc ms pc : Nat} {ls st : List PV} {w : List KD} {m : Nat → Nat → Int} {Q : Ps} {x y off : Int} (tgt : Nat) (hd : decode M.2.1 pc = .ok (.if_icmp .lt off, 3)) (ht : (pc : Int) + off = (tgt : Int)) (hx : -2147483648 ≤ x ∧ x < 2147483648) (hy : -2147483648 ≤ y ∧ y < 2147483648) (kt : x < y → G M d mc ms tgt ls st (w, m) Q) (kf : y ≤ x → G M d mc ms (pc + 3) ls st (w, m) Q) : G M d mc ms pc ls (iV y :: iV x :: st) (w, m) Q := by
  intro l b0 D cA X p e R s mm args below meth c H locs cells slots ls' c1 c2
  refine lv_icmp_lt c1.1 c1.2.1 hd ht (fun h => kt ?_ l b0 D cA X p e R s mm args below meth c H locs cells slots ls' c1 c2) (fun h => kf ?_ l b0 D cA X p e R s mm args below meth c H locs cells slots ls' c1 c2)
  · simp only [ge_iff_le, gt_iff_lt, ne_eq, oi_lt hx hy, oi_le hx hy, oi_lt hy hx, oi_le hy hx, oi_inj hx hy] at h
    omega
  · simp only [ge_iff_le, gt_iff_lt, ne_eq, oi_lt hx hy, oi_le hx hy, oi_lt hy hx, oi_le hy hx, oi_inj hx hy] at h
    omega
theorem G_if_lt {M : MD} {d mc ms pc : Nat} {ls st : List PV} {w : List KD} {m : Nat → Nat → Int} {Q : Ps} {x off : Int} (tgt : Nat) (hd : decode M.2.1 pc = .ok (.ifCond .lt off, 3)) (ht : (pc : Int) + off = (tgt : Int)) (hx : -2147483648 ≤ x ∧ x < 2147483648) (kt : x < 0 → G M d mc ms tgt ls st (w, m) Q) (kf : 0 ≤ x → G M d mc ms (pc + 3) ls st (w, m) Q) : G M d mc ms pc ls (iV x :: st) (w, m) Q := by
  have hy : -2147483648 ≤ (0 : Int) ∧ (0 : Int) < 2147483648 := by decide
  intro l b0 D cA X p e R s mm args below meth c H locs cells slots ls' c1 c2
  refine lv_if_lt c1.1 c1.2.1 hd ht (fun h => kt ?_ l b0 D cA X p e R s mm args below meth c H locs cells slots ls' c1 c2) (fun h => kf ?_ l b0 D cA X p e R s mm args below meth c H locs cells slots ls' c1 c2)
  · rw [← oi_0] at h
    simp only [ge_iff_le, gt_iff_lt, ne_eq, oi_lt hx hy, oi_le hx hy, oi_lt hy hx, oi_le hy hx, oi_inj hx hy] at h
    omega
  · rw [← oi_0] at h
    simp only [ge_iff_le, gt_iff_lt, ne_eq, oi_lt hx hy, oi_le hx hy, oi_lt hy hx, oi_le hy hx, oi_inj hx hy] at h
    omega
theorem G_icmp_ge {M : MD} {d mc ms pc : Nat} {ls st : List PV} {w : List KD} {m : Nat → Nat → Int} {Q : Ps} {x y off : Int} (tgt : Nat) (hd : decode M.2.1 pc = .ok (.if_icmp .ge off, 3)) (ht : (pc : Int) + off = (tgt : Int)) (hx : -2147483648 ≤ x ∧ x < 2147483648) (hy : -2147483648 ≤ y ∧ y < 2147483648) (kt : y ≤ x → G M d mc ms tgt ls st (w, m) Q) (kf : x < y → G M d mc ms (pc + 3) ls st (w, m) Q) : G M d mc ms pc ls (iV y :: iV x :: st) (w, m) Q := by
  intro l b0 D cA X p e R s mm args below meth c H locs cells slots ls' c1 c2
  refine lv_icmp_ge c1.1 c1.2.1 hd ht (fun h => kt ?_ l b0 D cA X p e R s mm args below meth c H locs cells slots ls' c1 c2) (fun h => kf ?_ l b0 D cA X p e R s mm args below meth c H locs cells slots ls' c1 c2)
  · simp only [ge_iff_le, gt_iff_lt, ne_eq, oi_lt hx hy, oi_le hx hy, oi_lt hy hx, oi_le hy hx, oi_inj hx hy] at h
    omega
  · simp only [ge_iff_le, gt_iff_lt, ne_eq, oi_lt hx hy, oi_le hx hy, oi_lt hy hx, oi_le hy hx, oi_inj hx hy] at h
    omega
theorem G_if_ge {M : MD} {d mc ms pc : Nat} {ls st : List PV} {w : List KD} {m : Nat → Nat → Int} {Q : Ps} {x off : Int} (tgt : Nat) (hd : decode M.2.1 pc = .ok (.ifCond .ge off, 3)) (ht : (pc : Int) + off = (tgt : Int)) (hx : -2147483648 ≤ x ∧ x < 2147483648) (kt : 0 ≤ x → G M d mc ms tgt ls st (w, m) Q) (kf : x < 0 → G M d mc ms (pc + 3) ls st (w, m) Q) : G M d mc ms pc ls (iV x :: st) (w, m) Q := by
  have hy : -2147483648 ≤ (0 : Int) ∧ (0 : Int) < 2147483648 := by decide
  intro l b0 D cA X p e R s mm args below meth c H locs cells slots ls' c1 c2
  refine lv_if_ge c1.1 c1.2.1 hd ht (fun h => kt ?_ l b0 D cA X p e R s mm args below meth c H locs cells slots ls' c1 c2) (fun h => kf ?_ l b0 D cA X p e R s mm args below meth c H locs cells slots ls' c1 c2)
  · rw [← oi_0] at h
    simp only [ge_iff_le, gt_iff_lt, ne_eq, oi_lt hx hy, oi_le hx hy, oi_lt hy hx, oi_le hy hx, oi_inj hx hy] at h
    omega
  · rw [← oi_0] at h
    simp only [ge_iff_le, gt_iff_lt, ne_eq, oi_lt hx hy, oi_le hx hy, oi_lt hy hx, oi_le hy hx, oi_inj hx hy] at h
    omega
theorem G_icmp_gt {M : MD} {d mc ms pc : Nat} {ls st : List PV} {w : List KD} {m : Nat → Nat → Int} {Q : Ps} {x y off : Int} (tgt : Nat) (hd : decode M.2.1 pc = .ok (.if_icmp .gt off, 3)) (ht : (pc : Int) + off = (tgt : Int)) (hx : -2147483648 ≤ x ∧ x < 2147483648) (hy : -2147483648 ≤ y ∧ y < 2147483648) (kt : y < x → G M d mc ms tgt ls st (w, m) Q) (kf : x ≤ y → G M d mc ms (pc + 3) ls st (w, m) Q) : G M d mc ms pc ls (iV y :: iV x :: st) (w, m) Q := by
  intro l b0 D cA X p e R s mm args below meth c H locs cells slots ls' c1 c2
  refine lv_icmp_gt c1.1 c1.2.1 hd ht (fun h => kt ?_ l b0 D cA X p e R s mm args below meth c H locs cells slots ls' c1 c2) (fun h => kf ?_ l b0 D cA X p e R s mm args below meth c H locs cells slots ls' c1 c2)
  · simp only [ge_iff_le, gt_iff_lt, ne_eq, oi_lt hx hy, oi_le hx hy, oi_lt hy hx, oi_le hy hx, oi_inj hx hy] at h
    omega
  · simp only [ge_iff_le, gt_iff_lt, ne_eq, oi_lt hx hy, oi_le hx hy, oi_lt hy hx, oi_le hy hx, oi_inj hx hy] at h
    omega
theorem G_if_gt {M : MD} {d mc ms pc : Nat} {ls st : List PV} {w : List KD} {m : Nat → Nat → Int} {Q : Ps} {x off : Int} (tgt : Nat) (hd : decode M.2.1 pc = .ok (.ifCond .gt off, 3)) (ht : (pc : Int) + off = (tgt : Int)) (hx : -2147483648 ≤ x ∧ x < 2147483648) (kt : 0 < x → G M d mc ms tgt ls st (w, m) Q) (kf : x ≤ 0 → G M d mc ms (pc + 3) ls st (w, m) Q) : G M d mc ms pc ls (iV x :: st) (w, m) Q := by
  have hy : -2147483648 ≤ (0 : Int) ∧ (0 : Int) < 2147483648 := by decide
  intro l b0 D cA X p e R s mm args below meth c H locs cells slots ls' c1 c2
  refine lv_if_gt c1.1 c1.2.1 hd ht (fun h => kt ?_ l b0 D cA X p e R s mm args below meth c H locs cells slots ls' c1 c2) (fun h => kf ?_ l b0 D cA X p e R s mm args below meth c H locs cells slots ls' c1 c2)
  · rw [← oi_0] at h
    simp only [ge_iff_le, gt_iff_lt, ne_eq, oi_lt hx hy, oi_le hx hy, oi_lt hy hx, oi_le hy hx, oi_inj hx hy] at h
    omega
  · rw [← oi_0] at h
    simp only [ge_iff_le, gt_iff_lt, ne_eq, oi_lt hx hy, oi_le hx hy, oi_lt hy hx, oi_le hy hx, oi_inj hx hy] at h
    omega
theorem G_icmp_le {M : MD} {d mc ms pc : Nat} {ls st : List PV} {w : List KD} {m : Nat → Nat → Int} {Q : Ps} {x y off : Int} (tgt : Nat) (hd : decode M.2.1 pc = .ok (.if_icmp .le off, 3)) (ht : (pc : Int) + off = (tgt : Int)) (hx : -2147483648 ≤ x ∧ x < 2147483648) (hy : -2147483648 ≤ y ∧ y < 2147483648) (kt : x ≤ y → G M d mc ms tgt ls st (w, m) Q) (kf : y < x → G M d mc ms (pc + 3) ls st (w, m) Q) : G M d mc ms pc ls (iV y :: iV x :: st) (w, m) Q := by
  intro l b0 D cA X p e R s mm args below meth c H locs cells slots ls' c1 c2
  refine lv_icmp_le c1.1 c1.2.1 hd ht (fun h => kt ?_ l b0 D cA X p e R s mm args below meth c H locs cells slots ls' c1 c2) (fun h => kf ?_ l b0 D cA X p e R s mm args below meth c H locs cells slots ls' c1 c2)
  · simp only [ge_iff_le, gt_iff_lt, ne_eq, oi_lt hx hy, oi_le hx hy, oi_lt hy hx, oi_le hy hx, oi_inj hx hy] at h
    omega
  · simp only [ge_iff_le, gt_iff_lt, ne_eq, oi_lt hx hy, oi_le hx hy, oi_lt hy hx, oi_le hy hx, oi_inj hx hy] at h
    omega
theorem G_if_le {M : MD} {d mc ms pc : Nat} {ls st : List PV} {w : List KD} {m : Nat → Nat → Int} {Q : Ps} {x off : Int} (tgt : Nat) (hd : decode M.2.1 pc = .ok (.ifCond .le off, 3)) (ht : (pc : Int) + off = (tgt : Int)) (hx : -2147483648 ≤ x ∧ x < 2147483648) (kt : x ≤ 0 → G M d mc ms tgt ls st (w, m) Q) (kf : 0 < x → G M d mc ms (pc + 3) ls st (w, m) Q) : G M d mc ms pc ls (iV x :: st) (w, m) Q := by
  have hy : -2147483648 ≤ (0 : Int) ∧ (0 : Int) < 2147483648 := by decide
  intro l b0 D cA X p e R s mm args below meth c H locs cells slots ls' c1 c2
  refine lv_if_le c1.1 c1.2.1 hd ht (fun h => kt ?_ l b0 D cA X p e R s mm args below meth c H locs cells slots ls' c1 c2) (fun h => kf ?_ l b0 D cA X p e R s mm args below meth c H locs cells slots ls' c1 c2)
  · rw [← oi_0] at h
    simp only [ge_iff_le, gt_iff_lt, ne_eq, oi_lt hx hy, oi_le hx hy, oi_lt hy hx, oi_le hy hx, oi_inj hx hy] at h
    omega
  · rw [← oi_0] at h
    simp only [ge_iff_le, gt_iff_lt, ne_eq, oi_lt hx hy, oi_le hx hy, oi_lt hy hx, oi_le hy hx, oi_inj hx hy] at h
    omega
theorem G_icmp_eq {M : MD} {d mc ms pc : Nat} {ls st : List PV} {w : List KD} {m : Nat → Nat → Int} {Q : Ps} {x y off : Int} (tgt : Nat) (hd : decode M.2.1 pc = .ok (.if_icmp .eq off, 3)) (ht : (pc : Int) + off = (tgt : Int)) (hx : -2147483648 ≤ x ∧ x < 2147483648) (hy : -2147483648 ≤ y ∧ y < 2147483648) (kt : x = y → G M d mc ms tgt ls st (w, m) Q) (kf : x ≠ y → G M d mc ms (pc + 3) ls st (w, m) Q) : G M d mc ms pc ls (iV y :: iV x :: st) (w, m) Q := by
  intro l b0 D cA X p e R s mm args below meth c H locs cells slots ls' c1 c2
  refine lv_icmp_eq c1.1 c1.2.1 hd ht (fun h => kt ?_ l b0 D cA X p e R s mm args below meth c H locs cells slots ls' c1 c2) (fun h => kf ?_ l b0 D cA X p e R s mm args below meth c H locs cells slots ls' c1 c2)
  · simp only [ge_iff_le, gt_iff_lt, ne_eq, oi_lt hx hy, oi_le hx hy, oi_lt hy hx, oi_le hy hx, oi_inj hx hy] at h
    omega
  · simp only [ge_iff_le, gt_iff_lt, ne_eq, oi_lt hx hy, oi_le hx hy, oi_lt hy hx, oi_le hy hx, oi_inj hx hy] at h
    omega
theorem G_if_eq {M : MD} {d mc ms pc : Nat} {ls st : List PV} {w : List KD} {m : Nat → Nat → Int} {Q : Ps} {x off : Int} (tgt : Nat) (hd : decode M.2.1 pc = .ok (.ifCond .eq off, 3)) (ht : (pc : Int) + off = (tgt : Int)) (hx : -2147483648 ≤ x ∧ x < 2147483648) (kt : x = 0 → G M d mc ms tgt ls st (w, m) Q) (kf : x ≠ 0 → G M d mc ms (pc + 3) ls st (w, m) Q) : G M d mc ms pc ls (iV x :: st) (w, m) Q := by
  have hy : -2147483648 ≤ (0 : Int) ∧ (0 : Int) < 2147483648 := by decide
  intro l b0 D cA X p e R s mm args below meth c H locs cells slots ls' c1 c2
  refine lv_if_eq c1.1 c1.2.1 hd ht (fun h => kt ?_ l b0 D cA X p e R s mm args below meth c H locs cells slots ls' c1 c2) (fun h => kf ?_ l b0 D cA X p e R s mm args below meth c H locs cells slots ls' c1 c2)
  · rw [← oi_0] at h
    simp only [ge_iff_le, gt_iff_lt, ne_eq, oi_lt hx hy, oi_le hx hy, oi_lt hy hx, oi_le hy hx, oi_inj hx hy] at h
    omega
  · rw [← oi_0] at h
    simp only [ge_iff_le, gt_iff_lt, ne_eq, oi_lt hx hy, oi_le hx hy, oi_lt hy hx, oi_le hy hx, oi_inj hx hy] at h
    omega
theorem G_icmp_ne {M : MD} {d mc ms pc : Nat} {ls st : List PV} {w : List KD} {m : Nat → Nat → Int} {Q : Ps} {x y off : Int} (tgt : Nat) (hd : decode M.2.1 pc = .ok (.if_icmp .ne off, 3)) (ht : (pc : Int) + off = (tgt : Int)) (hx : -2147483648 ≤ x ∧ x < 2147483648) (hy : -2147483648 ≤ y ∧ y < 2147483648) (kt : x ≠ y → G M d mc ms tgt ls st (w, m) Q) (kf : x = y → G M d mc ms (pc + 3) ls st (w, m) Q) : G M d mc ms pc ls (iV y :: iV x :: st) (w, m) Q := by
  intro l b0 D cA X p e R s mm args below meth c H locs cells slots ls' c1 c2
  refine lv_icmp_ne c1.1 c1.2.1 hd ht (fun h => kt ?_ l b0 D cA X p e R s mm args below meth c H locs cells slots ls' c1 c2) (fun h => kf ?_ l b0 D cA X p e R s mm args below meth c H locs cells slots ls' c1 c2)
  · simp only [ge_iff_le, gt_iff_lt, ne_eq, oi_lt hx hy, oi_le hx hy, oi_lt hy hx, oi_le hy hx, oi_inj hx hy] at h
    omega
  · simp only [ge_iff_le, gt_iff_lt, ne_eq, oi_lt hx hy, oi_le hx hy, oi_lt hy hx, oi_le hy hx, oi_inj hx hy] at h
    omega
theorem G_if_ne {M : MD} {d mc ms pc : Nat} {ls st : List PV} {w : List KD} {m : Nat → Nat → Int} {Q : Ps} {x off : Int} (tgt : Nat) (hd : decode M.2.1 pc = .ok (.ifCond .ne off, 3)) (ht : (pc : Int) + off = (tgt : Int)) (hx : -2147483648 ≤ x ∧ x < 2147483648) (kt : x ≠ 0 → G M d mc ms tgt ls st (w, m) Q) (kf : x = 0 → G M d mc ms (pc + 3) ls st (w, m) Q) : G M d mc ms pc ls (iV x :: st) (w, m) Q := by
  have hy : -2147483648 ≤ (0 : Int) ∧ (0 : Int) < 2147483648 := by decide
  intro l b0 D cA X p e R s mm args below meth c H locs cells slots ls' c1 c2
  refine lv_if_ne c1.1 c1.2.1 hd ht (fun h => kt ?_ l b0 D cA X p e R s mm args below meth c H locs cells slots ls' c1 c2) (fun h => kf ?_ l b0 D cA X p e R s mm args below meth c H locs cells slots ls' c1 c2)
  · rw [← oi_0] at h
    simp only [ge_iff_le, gt_iff_lt, ne_eq, oi_lt hx hy, oi_le hx hy, oi_lt hy hx, oi_le hy hx, oi_inj hx hy] at h
    omega
  · rw [← oi_0] at h
    simp only [ge_iff_le, gt_iff_lt, ne_eq, oi_lt hx hy, oi_le hx hy, oi_lt hy hx, oi_le hy hx, oi_inj hx hy] at h
    omega
theorem G_tin {M : MD} {d mc ms pc : Nat} {ls st : List PV} {w : List KD} {m : Nat → Nat → Int} {Q : Ps} {x dflt lo hi off : Int} {offs : Array Int} {len : Nat} (tgt : Nat) (hd : decode M.2.1 pc = .ok (.tableswitch dflt lo hi offs, len)) (hx : -2147483648 ≤ x ∧ x < 2147483648) (h1 : lo ≤ x) (h2 : x ≤ hi) (ho : offs[(x - lo).toNat]? = some off) (ht : (pc : Int) + off = (tgt : Int)) (k : G M d mc ms tgt ls st (w, m) Q) : G M d mc ms pc ls (iV x :: st) (w, m) Q := by
  intro l b0 D cA X p e R s mm args below meth c H locs cells slots ls' c1 c2
  exact lv_tableIn c1.1 c1.2.1 hd (by rw [oi_toInt hx]; omega) (by rw [oi_toInt hx]; omega) (by rw [oi_toInt hx]; exact ho) ht (k l b0 D cA X p e R s mm args below meth c H locs cells slots ls' c1 c2)
theorem G_tout {M : MD} {d mc ms pc : Nat} {ls st : List PV} {w : List KD} {m : Nat → Nat → Int} {Q : Ps} {x dflt lo hi : Int} {offs : Array Int} {len : Nat} (tgt : Nat) (hd : decode M.2.1 pc = .ok (.tableswitch dflt lo hi offs, len)) (hx : -2147483648 ≤ x ∧ x < 2147483648) (h1 : x < lo ∨ hi < x) (ht : (pc : Int) + dflt = (tgt : Int)) (k : G M d mc ms tgt ls st (w, m) Q) : G M d mc ms pc ls (iV x :: st) (w, m) Q := by
  intro l b0 D cA X p e R s mm args below meth c H locs cells slots ls' c1 c2
  exact lv_tableOut c1.1 c1.2.1 hd (by rw [oi_toInt hx]; exact h1) ht (k l b0 D cA X p e R s mm args below meth c H locs cells slots ls' c1 c2)
end
section
theorem C1.hx {M : MD} {d mc ms b0 : Nat} {D : va_G} {cA : Nat → ClassId} {X : Nat × Nat × (Nat → Int32)} {p : Program} {R : Room} {s : State} {mm : MethodId} {args : Array Value} {meth : Method} {c : Code} {cells slots : Nat} (c1 : C1 M d mc ms b0 D cA X p R s mm args meth c cells slots) : p.tables.exec = Jvm.exec := c1.1
theorem C1.hb {M : MD} {d mc ms b0 : Nat} {D : va_G} {cA : Nat → ClassId} {X : Nat × Nat × (Nat → Int32)} {p : Program} {R : Room} {s : State} {mm : MethodId} {args : Array Value} {meth : Method} {c : Code} {cells slots : Nat} (c1 : C1 M d mc ms b0 D cA X p R s mm args meth c cells slots) : c.code = M.2.1 := c1.2.1
theorem C1.hml {M : MD} {d mc ms b0 : Nat} {D : va_G} {cA : Nat → ClassId} {X : Nat × Nat × (Nat → Int32)} {p : Program} {R : Room} {s : State} {mm : MethodId} {args : Array Value} {meth : Method} {c : Code} {cells slots : Nat} (c1 : C1 M d mc ms b0 D cA X p R s mm args meth c cells slots) : c.maxLocals = M.2.2.1 := c1.2.2.1
theorem C1.hr {M : MD} {d mc ms b0 : Nat} {D : va_G} {cA : Nat → ClassId} {X : Nat × Nat × (Nat → Int32)} {p : Program} {R : Room} {s : State} {mm : MethodId} {args : Array Value} {meth : Method} {c : Code} {cells slots : Nat} (c1 : C1 M d mc ms b0 D cA X p R s mm args meth c cells slots) : meth.sig.returnType = M.2.2.2 := c1.2.2.2.1
theorem C1.hown {M : MD} {d mc ms b0 : Nat} {D : va_G} {cA : Nat → ClassId} {X : Nat × Nat × (Nat → Int32)} {p : Program} {R : Room} {s : State} {mm : MethodId} {args : Array Value} {meth : Method} {c : Code} {cells slots : Nat} (c1 : C1 M d mc ms b0 D cA X p R s mm args meth c cells slots) : s.vm.findClass M.1.cls = some mm.cls := c1.2.2.2.2.1
theorem C1.hts {M : MD} {d mc ms b0 : Nat} {D : va_G} {cA : Nat → ClassId} {X : Nat × Nat × (Nat → Int32)} {p : Program} {R : Room} {s : State} {mm : MethodId} {args : Array Value} {meth : Method} {c : Code} {cells slots : Nat} (c1 : C1 M d mc ms b0 D cA X p R s mm args meth c cells slots) : ∀ w ∈ lwg, w.before args s = true := c1.2.2.2.2.2.1
theorem C1.hlk {M : MD} {d mc ms b0 : Nat} {D : va_G} {cA : Nat → ClassId} {X : Nat × Nat × (Nat → Int32)} {p : Program} {R : Room} {s : State} {mm : MethodId} {args : Array Value} {meth : Method} {c : Code} {cells slots : Nat} (c1 : C1 M d mc ms b0 D cA X p R s mm args meth c cells slots) : meth.locks = false := c1.2.2.2.2.2.2.1
theorem C1.hnm {M : MD} {d mc ms b0 : Nat} {D : va_G} {cA : Nat → ClassId} {X : Nat × Nat × (Nat → Int32)} {p : Program} {R : Room} {s : State} {mm : MethodId} {args : Array Value} {meth : Method} {c : Code} {cells slots : Nat} (c1 : C1 M d mc ms b0 D cA X p R s mm args meth c cells slots) : meth.name = M.1.name := c1.2.2.2.2.2.2.2.1
theorem C1.hfr {M : MD} {d mc ms b0 : Nat} {D : va_G} {cA : Nat → ClassId} {X : Nat × Nat × (Nat → Int32)} {p : Program} {R : Room} {s : State} {mm : MethodId} {args : Array Value} {meth : Method} {c : Code} {cells slots : Nat} (c1 : C1 M d mc ms b0 D cA X p R s mm args meth c cells slots) : d ≤ R.frames := c1.2.2.2.2.2.2.2.2.1
theorem C1.hlo {M : MD} {d mc ms b0 : Nat} {D : va_G} {cA : Nat → ClassId} {X : Nat × Nat × (Nat → Int32)} {p : Program} {R : Room} {s : State} {mm : MethodId} {args : Array Value} {meth : Method} {c : Code} {cells slots : Nat} (c1 : C1 M d mc ms b0 D cA X p R s mm args meth c cells slots) : 40 * d ≤ R.locals := c1.2.2.2.2.2.2.2.2.2.1
theorem C1.hce {M : MD} {d mc ms b0 : Nat} {D : va_G} {cA : Nat → ClassId} {X : Nat × Nat × (Nat → Int32)} {p : Program} {R : Room} {s : State} {mm : MethodId} {args : Array Value} {meth : Method} {c : Code} {cells slots : Nat} (c1 : C1 M d mc ms b0 D cA X p R s mm args meth c cells slots) : cells + mc ≤ R.cells := c1.2.2.2.2.2.2.2.2.2.2.1
theorem C1.hsl {M : MD} {d mc ms b0 : Nat} {D : va_G} {cA : Nat → ClassId} {X : Nat × Nat × (Nat → Int32)} {p : Program} {R : Room} {s : State} {mm : MethodId} {args : Array Value} {meth : Method} {c : Code} {cells slots : Nat} (c1 : C1 M d mc ms b0 D cA X p R s mm args meth c cells slots) : slots + ms ≤ R.slots := c1.2.2.2.2.2.2.2.2.2.2.2.1
theorem C1.hK {M : MD} {d mc ms b0 : Nat} {D : va_G} {cA : Nat → ClassId} {X : Nat × Nat × (Nat → Int32)} {p : Program} {R : Room} {s : State} {mm : MethodId} {args : Array Value} {meth : Method} {c : Code} {cells slots : Nat} (c1 : C1 M d mc ms b0 D cA X p R s mm args meth c cells slots) : va_K D vwCl (tysL cA) s := c1.2.2.2.2.2.2.2.2.2.2.2.2.1
theorem C1.hX {M : MD} {d mc ms b0 : Nat} {D : va_G} {cA : Nat → ClassId} {X : Nat × Nat × (Nat → Int32)} {p : Program} {R : Room} {s : State} {mm : MethodId} {args : Array Value} {meth : Method} {c : Code} {cells slots : Nat} (c1 : C1 M d mc ms b0 D cA X p R s mm args meth c cells slots) : va_X X.1 X.2.1 X.2.2 s s.heap := c1.2.2.2.2.2.2.2.2.2.2.2.2.2.1
theorem C1.hXb {M : MD} {d mc ms b0 : Nat} {D : va_G} {cA : Nat → ClassId} {X : Nat × Nat × (Nat → Int32)} {p : Program} {R : Room} {s : State} {mm : MethodId} {args : Array Value} {meth : Method} {c : Code} {cells slots : Nat} (c1 : C1 M d mc ms b0 D cA X p R s mm args meth c cells slots) : X.1 < b0 := c1.2.2.2.2.2.2.2.2.2.2.2.2.2.2.1
theorem C1.hb0 {M : MD} {d mc ms b0 : Nat} {D : va_G} {cA : Nat → ClassId} {X : Nat × Nat × (Nat → Int32)} {p : Program} {R : Room} {s : State} {mm : MethodId} {args : Array Value} {meth : Method} {c : Code} {cells slots : Nat} (c1 : C1 M d mc ms b0 D cA X p R s mm args meth c cells slots) : b0 ≤ s.heap.size := c1.2.2.2.2.2.2.2.2.2.2.2.2.2.2.2.1
theorem C1.hXW {M : MD} {d mc ms b0 : Nat} {D : va_G} {cA : Nat → ClassId} {X : Nat × Nat × (Nat → Int32)} {p : Program} {R : Room} {s : State} {mm : MethodId} {args : Array Value} {meth : Method} {c : Code} {cells slots : Nat} (c1 : C1 M d mc ms b0 D cA X p R s mm args meth c cells slots) : XW s := c1.2.2.2.2.2.2.2.2.2.2.2.2.2.2.2.2
theorem rfO_nat (b0 r : Nat) : rfO b0 (r : Int) = some (b0 + r) := by
  unfold rfO
  rw [if_neg (by omega)]
  rfl
theorem updV_upm (F : Int → Value) (m : Nat → Nat → Int) (a k : Nat) (x : Int) : updV (fun j => F (m a j)) k (F x) = fun j => F (upm m a k x a j) := by
  funext j
  unfold updV upm
  by_cases h : j = k <;> simp [h]
/-- a store into one of our own cells: what stands behind it -/
theorem C2.put {M : MD} {b0 : Nat} {D : va_G} {cA : Nat → ClassId} {w w' : List KD} {m m' : Nat → Nat → Int} {H0 H H1 : Heap} {locs : List Loc} {ls : List PV} {ls' : Array Slot} {a kk : Nat} {kd : KD} (c2 : C2 M b0 D cA (w, m) H0 H locs ls ls') (hk0 : a < w.length) (hk : w'[a]? = some kd) (hl : w'.length = w.length) (hw : ∀ a', a' ≠ a → w'[a']? = w[a']?) (hm : ∀ a', a' ≠ a → m' a' = m a')
    (z : H1.size = H.size) (oq : ∀ q : Nat, q ≠ b0 + a → H1[q]? = H[q]?) (hat : va_at D vwCl (b0 + a, cellE b0 cA m' a kd) H1) : C2 M b0 D cA (w', m') H0 H1 (locs ++ [⟨b0 + a, kk⟩]) ls ls' := by
  have hk1 : w[a]? = some w[a] := List.getElem?_eq_getElem hk0
  refine ⟨?_, ?_, c2.2.2.1.put z oq (Nat.le_add_right _ _), c2.2.2.2⟩
  · rw [← wsOf_set hk hl hw hm rfl]
    exact c2.1.set (wsOf_D b0 cA (w, m)) (wsOf_at (h := (w, m)) hk1) hat oq
  · rw [z]
    show H.size = b0 + w'.length
    rw [hl]
    exact c2.2.1
theorem G_iald {M : MD} {d mc ms pc : Nat} {ls st : List PV} {w : List KD} {m : Nat → Nat → Int} {Q : Ps} {a n : Nat} {i : Int} {rs : List Int} (hd : decode M.2.1 pc = .ok (.iaload, 1)) (hw : w[a]? = some (1, n, rs)) (hi : 0 ≤ i ∧ i < n) (hn : n < 2147483648) (k : G M d mc ms (pc + 1) ls (iV (m a i.toNat) :: st) (w, m) Q) : G M d mc ms pc ls (iV i :: rV a :: st) (w, m) Q := by
  intro l b0 D cA X p e R s mm args below meth c H locs cells slots ls' c1 c2
  have k1 := k l b0 D cA X p e R s mm args below meth c H locs cells slots ls' c1 c2
  refine va_iald c1.hx c1.hb c1.hK c2.1 a 0 (wsOf_at (h := (w, m)) hw) rfl (oi_in hi hn) hd ?_
  rw [oi_nat hi.1 (by omega)]
  exact k1
theorem G_bald {M : MD} {d mc ms pc : Nat} {ls st : List PV} {w : List KD} {m : Nat → Nat → Int} {Q : Ps} {a n : Nat} {i : Int} {rs : List Int} (hd : decode M.2.1 pc = .ok (.baload, 1)) (hw : w[a]? = some (2, n, rs)) (hi : 0 ≤ i ∧ i < n) (hn : n < 2147483648) (k : G M d mc ms (pc + 1) ls (iV (m a i.toNat) :: st) (w, m) Q) : G M d mc ms pc ls (iV i :: rV a :: st) (w, m) Q := by
  intro l b0 D cA X p e R s mm args below meth c H locs cells slots ls' c1 c2
  have k1 := k l b0 D cA X p e R s mm args below meth c H locs cells slots ls' c1 c2
  refine va_bald c1.hx c1.hb c1.hK c2.1 a 1 (wsOf_at (h := (w, m)) hw) rfl (oi_in hi hn) hd ?_
  rw [oi_nat hi.1 (by omega)]
  exact k1
theorem G_sald {M : MD} {d mc ms pc : Nat} {ls st : List PV} {w : List KD} {m : Nat → Nat → Int} {Q : Ps} {a n : Nat} {i : Int} {rs : List Int} (hd : decode M.2.1 pc = .ok (.saload, 1)) (hw : w[a]? = some (3, n, rs)) (hi : 0 ≤ i ∧ i < n) (hn : n < 2147483648) (k : G M d mc ms (pc + 1) ls (iV (m a i.toNat) :: st) (w, m) Q) : G M d mc ms pc ls (iV i :: rV a :: st) (w, m) Q := by
  intro l b0 D cA X p e R s mm args below meth c H locs cells slots ls' c1 c2
  have k1 := k l b0 D cA X p e R s mm args below meth c H locs cells slots ls' c1 c2
  refine va_sald c1.hx c1.hb c1.hK c2.1 a 2 (wsOf_at (h := (w, m)) hw) rfl (oi_in hi hn) hd ?_
  rw [oi_nat hi.1 (by omega)]
  exact k1
theorem G_zald {M : MD} {d mc ms pc : Nat} {ls st : List PV} {w : List KD} {m : Nat → Nat → Int} {Q : Ps} {a n : Nat} {i : Int} {rs : List Int} (hd : decode M.2.1 pc = .ok (.baload, 1)) (hw : w[a]? = some (4, n, rs)) (hi : 0 ≤ i ∧ i < n) (hn : n < 2147483648) (k : G M d mc ms (pc + 1) ls (iV (m a i.toNat) :: st) (w, m) Q) : G M d mc ms pc ls (iV i :: rV a :: st) (w, m) Q := by
  intro l b0 D cA X p e R s mm args below meth c H locs cells slots ls' c1 c2
  have k1 := k l b0 D cA X p e R s mm args below meth c H locs cells slots ls' c1 c2
  refine va_zald c1.hx c1.hb c1.hK c2.1 a 3 (wsOf_at (h := (w, m)) hw) rfl (oi_in hi hn) hd ?_
  rw [oi_nat hi.1 (by omega)]
  exact k1
theorem G_lald {M : MD} {d mc ms pc : Nat} {ls st : List PV} {w : List KD} {m : Nat → Nat → Int} {Q : Ps} {a n : Nat} {i : Int} {rs : List Int} (hd : decode M.2.1 pc = .ok (.laload, 1)) (hw : w[a]? = some (5, n, rs)) (hi : 0 ≤ i ∧ i < n) (hn : n < 2147483648) (k : G M d mc ms (pc + 1) ls (lV (m a i.toNat) :: st) (w, m) Q) : G M d mc ms pc ls (iV i :: rV a :: st) (w, m) Q := by
  intro l b0 D cA X p e R s mm args below meth c H locs cells slots ls' c1 c2
  have k1 := k l b0 D cA X p e R s mm args below meth c H locs cells slots ls' c1 c2
  refine va_lald c1.hx c1.hb c1.hK c2.1 a 4 (wsOf_at (h := (w, m)) hw) rfl (oi_in hi hn) hd ?_
  rw [oi_nat hi.1 (by omega)]
  exact k1
theorem narB {x : Int} (hx : -128 ≤ x ∧ x < 128) : narrow .byte (.int (Int32.ofInt x)) = .int (Int32.ofInt x) := by
  rw [narrow_byte]
  congr 1
  rw [← Int32.toInt_inj, Int8.toInt_toInt32, Int32.toInt_toInt8, oi_toInt (by omega)]
  exact Int.bmod_eq_of_le (by omega) (by omega)
theorem narS {x : Int} (hx : -32768 ≤ x ∧ x < 32768) : narrow .short (.int (Int32.ofInt x)) = .int (Int32.ofInt x) := by
  rw [narrow_short]
  congr 1
  rw [← Int32.toInt_inj, Int16.toInt_toInt32, Int32.toInt_toInt16, oi_toInt (by omega)]
  exact Int.bmod_eq_of_le (by omega) (by omega)
theorem narZ {x : Int} (hx : 0 ≤ x ∧ x < 2) : narrow .boolean (.int (Int32.ofInt x)) = .int (Int32.ofInt x) := by
  rcases (show x = 0 ∨ x = 1 by omega) with rfl | rfl <;> rfl
theorem G_iast {M : MD} {d mc ms pc : Nat} {ls st : List PV} {w : List KD} {m : Nat → Nat → Int} {Q : Ps} {a n : Nat} {i x : Int} {rs : List Int} (hd : decode M.2.1 pc = .ok (.iastore, 1)) (hw : w[a]? = some (1, n, rs)) (hi : 0 ≤ i ∧ i < n) (hn : n < 2147483648)  (k : G M d mc ms (pc + 1) ls st (w, upm m a i.toNat x) Q) : G M d mc ms pc ls (iV x :: iV i :: rV a :: st) (w, m) Q := by
  intro l b0 D cA X p e R s mm args below meth c H locs cells slots ls' c1 c2
  have ha := wsOf_at (b0 := b0) (cA := cA) (h := (w, m)) hw
  refine W.iast c1.hx c1.hb (c2.1 a _ ha) ((c1.hK.2 0 _ rfl).1 n (fun j => .int (Int32.ofInt (m a j)))) (fun q => by cases q) (by show ¬ (_ ∨ (arrV _ _ _).slots.size ≤ _); rw [arrV_size]; exact oi_in hi hn) rfl rfl hd fun H1 e1 z oq => ?_
  refine k l b0 D cA X p e R s mm args below meth c H1 _ cells slots ls' c1 (c2.put (List.getElem?_eq_some_iff.mp hw).1 hw rfl (fun _ _ => rfl) (fun a' h => upm_off m x h) z oq ?_)
  show H1[b0 + a]? = some (arrV _ _ (fun j => .int (Int32.ofInt (upm m a i.toNat x a j))))
  rw [e1, oi_nat hi.1 (by omega)]
  show some ((arrV _ _ (fun j => .int (Int32.ofInt (m a j)))).setSlot _ _) = _
  rw [arrV_store, updV_upm (fun z => .int (Int32.ofInt z))]
theorem G_bast {M : MD} {d mc ms pc : Nat} {ls st : List PV} {w : List KD} {m : Nat → Nat → Int} {Q : Ps} {a n : Nat} {i x : Int} {rs : List Int} (hd : decode M.2.1 pc = .ok (.bastore, 1)) (hw : w[a]? = some (2, n, rs)) (hi : 0 ≤ i ∧ i < n) (hn : n < 2147483648) (hx : -128 ≤ x ∧ x < 128) (k : G M d mc ms (pc + 1) ls st (w, upm m a i.toNat x) Q) : G M d mc ms pc ls (iV x :: iV i :: rV a :: st) (w, m) Q := by
  intro l b0 D cA X p e R s mm args below meth c H locs cells slots ls' c1 c2
  have ha := wsOf_at (b0 := b0) (cA := cA) (h := (w, m)) hw
  refine W.bast c1.hx c1.hb (c2.1 a _ ha) ((c1.hK.2 1 _ rfl).1 n (fun j => .int (Int32.ofInt (m a j)))) (fun q => by cases q) (by show ¬ (_ ∨ (arrV _ _ _).slots.size ≤ _); rw [arrV_size]; exact oi_in hi hn) rfl rfl hd fun H1 e1 z oq => ?_
  refine k l b0 D cA X p e R s mm args below meth c H1 _ cells slots ls' c1 (c2.put (List.getElem?_eq_some_iff.mp hw).1 hw rfl (fun _ _ => rfl) (fun a' h => upm_off m x h) z oq ?_)
  show H1[b0 + a]? = some (arrV _ _ (fun j => .int (Int32.ofInt (upm m a i.toNat x a j))))
  rw [e1, oi_nat hi.1 (by omega), narB hx]
  show some ((arrV _ _ (fun j => .int (Int32.ofInt (m a j)))).setSlot _ _) = _
  rw [arrV_store, updV_upm (fun z => .int (Int32.ofInt z))]
theorem G_sast {M : MD} {d mc ms pc : Nat} {ls st : List PV} {w : List KD} {m : Nat → Nat → Int} {Q : Ps} {a n : Nat} {i x : Int} {rs : List Int} (hd : decode M.2.1 pc = .ok (.sastore, 1)) (hw : w[a]? = some (3, n, rs)) (hi : 0 ≤ i ∧ i < n) (hn : n < 2147483648) (hx : -32768 ≤ x ∧ x < 32768) (k : G M d mc ms (pc + 1) ls st (w, upm m a i.toNat x) Q) : G M d mc ms pc ls (iV x :: iV i :: rV a :: st) (w, m) Q := by
  intro l b0 D cA X p e R s mm args below meth c H locs cells slots ls' c1 c2
  have ha := wsOf_at (b0 := b0) (cA := cA) (h := (w, m)) hw
  refine W.sast c1.hx c1.hb (c2.1 a _ ha) ((c1.hK.2 2 _ rfl).1 n (fun j => .int (Int32.ofInt (m a j)))) (fun q => by cases q) (by show ¬ (_ ∨ (arrV _ _ _).slots.size ≤ _); rw [arrV_size]; exact oi_in hi hn) rfl rfl hd fun H1 e1 z oq => ?_
  refine k l b0 D cA X p e R s mm args below meth c H1 _ cells slots ls' c1 (c2.put (List.getElem?_eq_some_iff.mp hw).1 hw rfl (fun _ _ => rfl) (fun a' h => upm_off m x h) z oq ?_)
  show H1[b0 + a]? = some (arrV _ _ (fun j => .int (Int32.ofInt (upm m a i.toNat x a j))))
  rw [e1, oi_nat hi.1 (by omega), narS hx]
  show some ((arrV _ _ (fun j => .int (Int32.ofInt (m a j)))).setSlot _ _) = _
  rw [arrV_store, updV_upm (fun z => .int (Int32.ofInt z))]
theorem G_zast {M : MD} {d mc ms pc : Nat} {ls st : List PV} {w : List KD} {m : Nat → Nat → Int} {Q : Ps} {a n : Nat} {i x : Int} {rs : List Int} (hd : decode M.2.1 pc = .ok (.bastore, 1)) (hw : w[a]? = some (4, n, rs)) (hi : 0 ≤ i ∧ i < n) (hn : n < 2147483648) (hx : 0 ≤ x ∧ x < 2) (k : G M d mc ms (pc + 1) ls st (w, upm m a i.toNat x) Q) : G M d mc ms pc ls (iV x :: iV i :: rV a :: st) (w, m) Q := by
  intro l b0 D cA X p e R s mm args below meth c H locs cells slots ls' c1 c2
  have ha := wsOf_at (b0 := b0) (cA := cA) (h := (w, m)) hw
  refine W.zast c1.hx c1.hb (c2.1 a _ ha) ((c1.hK.2 3 _ rfl).1 n (fun j => .int (Int32.ofInt (m a j)))) (fun q => by cases q) (by show ¬ (_ ∨ (arrV _ _ _).slots.size ≤ _); rw [arrV_size]; exact oi_in hi hn) rfl rfl hd fun H1 e1 z oq => ?_
  refine k l b0 D cA X p e R s mm args below meth c H1 _ cells slots ls' c1 (c2.put (List.getElem?_eq_some_iff.mp hw).1 hw rfl (fun _ _ => rfl) (fun a' h => upm_off m x h) z oq ?_)
  show H1[b0 + a]? = some (arrV _ _ (fun j => .int (Int32.ofInt (upm m a i.toNat x a j))))
  rw [e1, oi_nat hi.1 (by omega), narZ hx]
  show some ((arrV _ _ (fun j => .int (Int32.ofInt (m a j)))).setSlot _ _) = _
  rw [arrV_store, updV_upm (fun z => .int (Int32.ofInt z))]
theorem G_last {M : MD} {d mc ms pc : Nat} {ls st : List PV} {w : List KD} {m : Nat → Nat → Int} {Q : Ps} {a n : Nat} {i x : Int} {rs : List Int} (hd : decode M.2.1 pc = .ok (.lastore, 1)) (hw : w[a]? = some (5, n, rs)) (hi : 0 ≤ i ∧ i < n) (hn : n < 2147483648)  (k : G M d mc ms (pc + 1) ls st (w, upm m a i.toNat x) Q) : G M d mc ms pc ls (lV x :: iV i :: rV a :: st) (w, m) Q := by
  intro l b0 D cA X p e R s mm args below meth c H locs cells slots ls' c1 c2
  have ha := wsOf_at (b0 := b0) (cA := cA) (h := (w, m)) hw
  refine W.last c1.hx c1.hb (c2.1 a _ ha) ((c1.hK.2 4 _ rfl).1 n (fun j => .long (Int64.ofInt (m a j)))) (fun q => by cases q) (by show ¬ (_ ∨ (arrV _ _ _).slots.size ≤ _); rw [arrV_size]; exact oi_in hi hn) rfl rfl hd fun H1 e1 z oq => ?_
  refine k l b0 D cA X p e R s mm args below meth c H1 _ cells slots ls' c1 (c2.put (List.getElem?_eq_some_iff.mp hw).1 hw rfl (fun _ _ => rfl) (fun a' h => upm_off m x h) z oq ?_)
  show H1[b0 + a]? = some (arrV _ _ (fun j => .long (Int64.ofInt (upm m a i.toNat x a j))))
  rw [e1, oi_nat hi.1 (by omega)]
  show some ((arrV _ _ (fun j => .long (Int64.ofInt (m a j)))).setSlot _ _) = _
  rw [arrV_store, updV_upm (fun z => .long (Int64.ofInt z))]
theorem G_aald {M : MD} {d mc ms pc : Nat} {ls st : List PV} {w : List KD} {m : Nat → Nat → Int} {Q : Ps} {a n r : Nat} {i : Int} {rs : List Int} (hd : decode M.2.1 pc = .ok (.aaload, 1)) (hw : w[a]? = some (6, n, rs)) (hi : 0 ≤ i ∧ i < n) (hn : n < 2147483648) (hr : rs[i.toNat]? = some (r : Int)) (k : G M d mc ms (pc + 1) ls (rV r :: st) (w, m) Q) : G M d mc ms pc ls (iV i :: rV a :: st) (w, m) Q := by
  intro l b0 D cA X p e R s mm args below meth c H locs cells slots ls' c1 c2
  have ha := wsOf_at (b0 := b0) (cA := cA) (h := (w, m)) hw
  refine W.aald (v := .ref (b0 + r)) (ty := .array .int) c1.hx c1.hb (c2.1 a _ ha) ((c1.hK.2 5 _ rfl).1 n (fun j => va_rf (rfO b0 (rs.getD j (-1))))) rfl (fun q => by cases q) (by show ¬ (_ ∨ (arrV _ _ _).slots.size ≤ _); rw [arrV_size]; exact oi_in hi hn) ?_ rfl rfl hd (k l b0 D cA X p e R s mm args below meth c H locs cells slots ls' c1 c2)
  show (arrV _ _ _).slots[_]? = _
  rw [oi_nat hi.1 (by omega), arrV_read _ _ (show i.toNat < n by omega)]
  show some (va_rf (rfO b0 (rs.getD i.toNat (-1)))) = _
  rw [List.getD_eq_getElem?_getD, hr, Option.getD_some, rfO_nat]
  rfl
theorem G_alen1 {M : MD} {d mc ms pc : Nat} {ls st : List PV} {w : List KD} {m : Nat → Nat → Int} {Q : Ps} {a n : Nat} {rs : List Int} (hd : decode M.2.1 pc = .ok (.arraylength, 1)) (hw : w[a]? = some (1, n, rs)) (k : G M d mc ms (pc + 1) ls (iV (n : Int) :: st) (w, m) Q) : G M d mc ms pc ls (rV a :: st) (w, m) Q := by
  intro l b0 D cA X p e R s mm args below meth c H locs cells slots ls' c1 c2
  exact va_alen c1.hx c1.hb c1.hK c2.1 a 0 (wsOf_at (h := (w, m)) hw) rfl (v := Int32.ofInt (n : Int)) (Int32.ofInt_eq_ofNat).symm hd (k l b0 D cA X p e R s mm args below meth c H locs cells slots ls' c1 c2)
theorem G_alen2 {M : MD} {d mc ms pc : Nat} {ls st : List PV} {w : List KD} {m : Nat → Nat → Int} {Q : Ps} {a n : Nat} {rs : List Int} (hd : decode M.2.1 pc = .ok (.arraylength, 1)) (hw : w[a]? = some (2, n, rs)) (k : G M d mc ms (pc + 1) ls (iV (n : Int) :: st) (w, m) Q) : G M d mc ms pc ls (rV a :: st) (w, m) Q := by
  intro l b0 D cA X p e R s mm args below meth c H locs cells slots ls' c1 c2
  exact va_alen c1.hx c1.hb c1.hK c2.1 a 1 (wsOf_at (h := (w, m)) hw) rfl (v := Int32.ofInt (n : Int)) (Int32.ofInt_eq_ofNat).symm hd (k l b0 D cA X p e R s mm args below meth c H locs cells slots ls' c1 c2)
theorem G_alen3 {M : MD} {d mc ms pc : Nat} {ls st : List PV} {w : List KD} {m : Nat → Nat → Int} {Q : Ps} {a n : Nat} {rs : List Int} (hd : decode M.2.1 pc = .ok (.arraylength, 1)) (hw : w[a]? = some (3, n, rs)) (k : G M d mc ms (pc + 1) ls (iV (n : Int) :: st) (w, m) Q) : G M d mc ms pc ls (rV a :: st) (w, m) Q := by
  intro l b0 D cA X p e R s mm args below meth c H locs cells slots ls' c1 c2
  exact va_alen c1.hx c1.hb c1.hK c2.1 a 2 (wsOf_at (h := (w, m)) hw) rfl (v := Int32.ofInt (n : Int)) (Int32.ofInt_eq_ofNat).symm hd (k l b0 D cA X p e R s mm args below meth c H locs cells slots ls' c1 c2)
theorem G_alen4 {M : MD} {d mc ms pc : Nat} {ls st : List PV} {w : List KD} {m : Nat → Nat → Int} {Q : Ps} {a n : Nat} {rs : List Int} (hd : decode M.2.1 pc = .ok (.arraylength, 1)) (hw : w[a]? = some (4, n, rs)) (k : G M d mc ms (pc + 1) ls (iV (n : Int) :: st) (w, m) Q) : G M d mc ms pc ls (rV a :: st) (w, m) Q := by
  intro l b0 D cA X p e R s mm args below meth c H locs cells slots ls' c1 c2
  exact va_alen c1.hx c1.hb c1.hK c2.1 a 3 (wsOf_at (h := (w, m)) hw) rfl (v := Int32.ofInt (n : Int)) (Int32.ofInt_eq_ofNat).symm hd (k l b0 D cA X p e R s mm args below meth c H locs cells slots ls' c1 c2)
theorem G_alen5 {M : MD} {d mc ms pc : Nat} {ls st : List PV} {w : List KD} {m : Nat → Nat → Int} {Q : Ps} {a n : Nat} {rs : List Int} (hd : decode M.2.1 pc = .ok (.arraylength, 1)) (hw : w[a]? = some (5, n, rs)) (k : G M d mc ms (pc + 1) ls (iV (n : Int) :: st) (w, m) Q) : G M d mc ms pc ls (rV a :: st) (w, m) Q := by
  intro l b0 D cA X p e R s mm args below meth c H locs cells slots ls' c1 c2
  exact va_alen c1.hx c1.hb c1.hK c2.1 a 4 (wsOf_at (h := (w, m)) hw) rfl (v := Int32.ofInt (n : Int)) (Int32.ofInt_eq_ofNat).symm hd (k l b0 D cA X p e R s mm args below meth c H locs cells slots ls' c1 c2)
theorem G_alen6 {M : MD} {d mc ms pc : Nat} {ls st : List PV} {w : List KD} {m : Nat → Nat → Int} {Q : Ps} {a n : Nat} {rs : List Int} (hd : decode M.2.1 pc = .ok (.arraylength, 1)) (hw : w[a]? = some (6, n, rs)) (k : G M d mc ms (pc + 1) ls (iV (n : Int) :: st) (w, m) Q) : G M d mc ms pc ls (rV a :: st) (w, m) Q := by
  intro l b0 D cA X p e R s mm args below meth c H locs cells slots ls' c1 c2
  exact va_alen c1.hx c1.hb c1.hK c2.1 a 5 (wsOf_at (h := (w, m)) hw) rfl (v := Int32.ofInt (n : Int)) (Int32.ofInt_eq_ofNat).symm hd (k l b0 D cA X p e R s mm args below meth c H locs cells slots ls' c1 c2)
theorem G_scr {M : MD} {d mc ms pc : Nat} {ls st : List PV} {w : List KD} {m : Nat → Nat → Int} {Q : Ps} (xa L : Nat) (xs : Nat → Int32) {i : Int} (hd : decode M.2.1 pc = .ok (.iaload, 1)) (hi : 0 ≤ i ∧ i < L) (hn : L < 2147483648) (k : G M d mc ms (pc + 1) ls (iV (xs i.toNat).toInt :: st) (w, m) Q) : ∀ l b0 D cA X p e R s mm args below meth c H locs cells slots ls', X = (xa, L, xs) → C1 M d mc ms b0 D cA X p R s mm args meth c cells slots → C2 M b0 D cA (w, m) s.heap H locs ls ls' → W p l e R s mm args below meth c H locs cells slots (MQ below (QcM b0 D cA X Q) args s (cells + mc) (slots + ms) (fun q => b0 ≤ q)) (F0 mm pc ls' ((iV i :: vV (.ref xa) :: st).map (enc b0))) := by
  intro l b0 D cA X p e R s mm args below meth c H locs cells slots ls' hXe c1 c2
  have k1 := k l b0 D cA X p e R s mm args below meth c H locs cells slots ls' c1 c2
  subst hXe
  have hX : va_X xa L xs s s.heap := c1.hX
  have hXb : xa < b0 := c1.hXb
  refine va_sld c1.hx c1.hb hX (Nat.lt_of_lt_of_le hXb c1.hb0) (A := fun q => b0 ≤ q) (by show ¬ b0 ≤ xa; have : xa < b0 := hXb; omega) c2.2.2.1 (oi_in hi hn) hd ?_
  rw [oi_nat hi.1 (by omega), ← oi_eta (xs i.toNat)]
  exact k1
def CLk (ci : Nat) (C : String) (T : u_T) (N : Nat) : Prop := vwCl[ci]? = some (C, T, N) ∧ (∀ x ∈ u_ws C T N, x ∈ lwg) ∧ N = nOfC ci ∧ (∀ k, k < N → parseFieldDescriptor (T k).2.2.1 = some (tyOf ci k)) ∧ (∀ a, a < N → ∀ b, b < N → a ≠ b → (T a).2.1 ≠ (T b).2.1) ∧ ∀ k, k < N → (T k).1 = C
def FLr (own : String) (idx ci k : Nat) : Prop := ∃ C T N, CLk ci C T N ∧ k < N ∧ Cond.fieldLink own idx (T k).1 (T k).2.1 (T k).2.2.1 ∈ lwg
def FLk (own : String) (idx ci k : Nat) (fin : Bool) : Prop := ∃ C T N, CLk ci C T N ∧ k < N ∧ Cond.fieldLink own idx (T k).1 (T k).2.1 (T k).2.2.1 ∈ lwg ∧ (T k).2.2.2 = fin ∧ (fin = true → C = own)
theorem FLk.r {own : String} {idx ci k : Nat} {fin : Bool} (h : FLk own idx ci k fin) : FLr own idx ci k := by
  obtain ⟨C, T, N, h1, h2, h3, -⟩ := h
  exact ⟨C, T, N, h1, h2, h3⟩
def isI (ty : FieldType) : Bool := match ty with
  | .int => true
  | .boolean => true
  | _ => false
def isR (ty : FieldType) : Bool := match ty with
  | .object _ => true
  | .array _ => true
  | _ => false
theorem fVal_I {b0 : Nat} {ty : FieldType} {x r : Int} (h : isI ty = true) : fVal b0 ty x r = .int (Int32.ofInt x) := by
  cases ty <;> first | rfl | (simp [isI] at h)
theorem fVal_R {b0 : Nat} {ty : FieldType} {x r : Int} (h : isR ty = true) : fVal b0 ty x r = va_rf (rfO b0 r) := by
  cases ty <;> first | rfl | (simp [isR] at h)
theorem objF_at {b0 : Nat} {m : Nat → Nat → Int} {a ci k : Nat} {rs : List Int} (hk : k < nOfC ci) : (objF b0 m a ci rs)[k]? = some (fVal b0 (tyOf ci k) (m a k) (rs.getD k (-1))) := by
  unfold objF
  rw [List.getElem?_map, List.getElem?_range hk]
  rfl
theorem objF_len (b0 : Nat) (m : Nat → Nat → Int) (a ci : Nat) (rs : List Int) : (objF b0 m a ci rs).length = nOfC ci := by simp [objF]
theorem G_getI {M : MD} {d mc ms pc : Nat} {ls st : List PV} {w : List KD} {m : Nat → Nat → Int} {Q : Ps} {o ci f idx : Nat} {rs : List Int} (hF : FLr M.1.cls idx ci f) (hd : decode M.2.1 pc = .ok (.getfield idx, 3)) (hw : w[o]? = some (0, ci, rs)) (hty : isI (tyOf ci f) = true) (k : G M d mc ms (pc + 3) ls (iV (m o f) :: st) (w, m) Q) : G M d mc ms pc ls (rV o :: st) (w, m) Q := by
  intro l b0 D cA X p e R s mm args below meth c H locs cells slots ls' c1 c2
  obtain ⟨C, T, N, ⟨hc, hin, hN, hp, hnm, hT⟩, hk, hl⟩ := hF
  have k1 := k l b0 D cA X p e R s mm args below meth c H locs cells slots ls' c1 c2
  refine va_get (v := .int (Int32.ofInt (m o f))) c1.hx c1.hb c1.hts hin c1.hown c1.hK c2.1 o (wsOf_at (h := (w, m)) hw) hc f hk (c1.hts _ hl) (fun _ h => h) ?_ hd k1
  rw [objF_at (by rw [← hN]; exact hk), fVal_I hty]
theorem G_getR {M : MD} {d mc ms pc : Nat} {ls st : List PV} {w : List KD} {m : Nat → Nat → Int} {Q : Ps} {o ci f idx r : Nat} {rs : List Int} (hF : FLr M.1.cls idx ci f) (hd : decode M.2.1 pc = .ok (.getfield idx, 3)) (hw : w[o]? = some (0, ci, rs)) (hty : isR (tyOf ci f) = true) (hr : rs[f]? = some (r : Int)) (k : G M d mc ms (pc + 3) ls (rV r :: st) (w, m) Q) : G M d mc ms pc ls (rV o :: st) (w, m) Q := by
  intro l b0 D cA X p e R s mm args below meth c H locs cells slots ls' c1 c2
  obtain ⟨C, T, N, ⟨hc, hin, hN, hp, hnm, hT⟩, hk, hl⟩ := hF
  have k1 := k l b0 D cA X p e R s mm args below meth c H locs cells slots ls' c1 c2
  refine va_get (v := .ref (b0 + r)) c1.hx c1.hb c1.hts hin c1.hown c1.hK c2.1 o (wsOf_at (h := (w, m)) hw) hc f hk (c1.hts _ hl) (fun _ h => h) ?_ hd k1
  rw [objF_at (by rw [← hN]; exact hk), fVal_R hty, List.getD_eq_getElem?_getD, hr, Option.getD_some, rfO_nat]
  rfl
theorem objF_set {b0 : Nat} {m m' : Nat → Nat → Int} {a ci k : Nat} {rs rs' : List Int} {v : Value} (hk : k < nOfC ci) (hv : fVal b0 (tyOf ci k) (m' a k) (rs'.getD k (-1)) = v) (ho : ∀ j, j ≠ k → m' a j = m a j ∧ rs'.getD j (-1) = rs.getD j (-1)) : (objF b0 m a ci rs).set k v = objF b0 m' a ci rs' := by
  apply List.ext_getElem?
  intro i
  rw [List.getElem?_set]
  by_cases hi : k = i
  · subst hi
    rw [if_pos rfl, objF_len, if_pos hk, objF_at hk, hv]
  · rw [if_neg hi]
    by_cases hl : i < nOfC ci
    · rw [objF_at hl, objF_at hl, (ho i (fun e => hi e.symm)).1, (ho i (fun e => hi e.symm)).2]
    · rw [List.getElem?_eq_none (by rw [objF_len]; omega), List.getElem?_eq_none (by rw [objF_len]; omega)]
theorem fits_I {ty : FieldType} {x : Int} (h : isI ty = true) (hx : ty = .boolean → 0 ≤ x ∧ x < 2) : fits ty (.int (Int32.ofInt x)) = true := by
  cases ty with
  | int => rfl
  | boolean => rcases (show x = 0 ∨ x = 1 by have := hx rfl; omega) with rfl | rfl <;> rfl
  | _ => simp [isI] at h
theorem fits_R {ty : FieldType} {a : Nat} (h : isR ty = true) : fits ty (.ref a) = true := by
  cases ty <;> first | rfl | (simp [isR] at h)
theorem nar_R {ty : FieldType} {a : Nat} (h : isR ty = true) : narrow ty (.ref a) = .ref a := by
  cases ty <;> first | rfl | (simp [isR] at h)
theorem nar_I {ty : FieldType} {x : Int} (h : isI ty = true) (hx : ty = .boolean → 0 ≤ x ∧ x < 2) : narrow ty (.int (Int32.ofInt x)) = .int (Int32.ofInt x) := by
  cases ty with
  | int => rfl
  | boolean => exact narZ (hx rfl)
  | _ => simp [isI] at h
theorem G_putI {M : MD} {d mc ms pc : Nat} {ls st : List PV} {w : List KD} {m : Nat → Nat → Int} {Q : Ps} {o ci f idx : Nat} {x : Int} {rs : List Int} (hF : FLk M.1.cls idx ci f false) (hd : decode M.2.1 pc = .ok (.putfield idx, 3)) (hw : w[o]? = some (0, ci, rs)) (hty : isI (tyOf ci f) = true) (hx : tyOf ci f = .boolean → 0 ≤ x ∧ x < 2) (k : G M d mc ms (pc + 3) ls st (w, upm m o f x) Q) : G M d mc ms pc ls (iV x :: rV o :: st) (w, m) Q := by
  intro l b0 D cA X p e R s mm args below meth c H locs cells slots ls' c1 c2
  obtain ⟨C, T, N, ⟨hc, hin, hN, hp, hnm, hT⟩, hk, hl, hfin, -⟩ := hF
  have hts := c1.hts
  have ha := wsOf_at (b0 := b0) (cA := cA) (h := (w, m)) hw
  have hap := va_apart (own := M.1.cls) hts hin (tyOf ci) hp hnm c1.hK hc
  obtain ⟨r, h1, cell, q1, q2, q3, q4⟩ := c2.1 o _ ha
  have hr : r = (C, T, N) := Option.some.inj (h1.symm.trans hc)
  subst hr
  obtain ⟨hS, hfc, kC, hkC, hkind⟩ := c1.hK.1 ci _ hc
  obtain ⟨cf, kf, fi, fl, hi, hsl⟩ := hS f hk
  have hlay := hts _ (hin _ (u_in_lay hk))
  unfold u_lay at hlay
  rw [if_neg (by rw [hfin]; decide)] at hlay
  have hst := (u_facts hfc hkC (u_lays hts hin hk) hi).1
  have h6 := u_store hfc hkC hkind hlay hi (hp f hk) (nar_I hty hx) (fits_I hty hx)
  refine W.putK c1.hx c1.hb (f := fl) ⟨c1.hown, hts _ hl, ⟨_, _, _, hi⟩, hst⟩ (by rw [q2]; exact h6) q1 q3 (by rw [hsl]; exact k2_hasslot (q4 f hk)) rfl rfl hd fun H1 e1 z oq => ?_
  rw [hsl] at e1 ⊢
  refine k l b0 D cA X p e R s mm args below meth c H1 _ cells slots ls' c1 (c2.put (List.getElem?_eq_some_iff.mp hw).1 hw rfl (fun _ _ => rfl) (fun a' h => upm_off m x h) z oq ?_)
  refine ⟨(C, T, N), hc, ?_⟩
  refine t_OB.to (V := updV (vp_V (objF b0 m o ci rs)) f (.int (Int32.ofInt x))) ⟨_, e1, q2, q3, t_set q4 hap hk _⟩ (fun j hj => ?_)
  rw [vp_updV_set (by rw [objF_len, ← hN]; exact hk)]
  congr 1
  exact objF_set (by rw [← hN]; exact hk) (by rw [upm_same, fVal_I hty]) (fun j hj => ⟨upm_ne m x (fun _ => hj), rfl⟩)
theorem G_putR {M : MD} {d mc ms pc : Nat} {ls st : List PV} {w : List KD} {m : Nat → Nat → Int} {Q : Ps} {o ci f idx r : Nat} {rs : List Int} (hF : FLk M.1.cls idx ci f true) (hd : decode M.2.1 pc = .ok (.putfield idx, 3)) (hw : w[o]? = some (0, ci, rs)) (hty : isR (tyOf ci f) = true) (hini : M.1.name = "<init>") (hrl : f < rs.length) (k : G M d mc ms (pc + 3) ls st (w.set o (0, ci, rs.set f (r : Int)), m) Q) : G M d mc ms pc ls (rV r :: rV o :: st) (w, m) Q := by
  intro l b0 D cA X p e R s mm args below meth c H locs cells slots ls' c1 c2
  obtain ⟨C, T, N, ⟨hc, hin, hN, hp, hnm, hT⟩, hk, hl, hfin, hCo⟩ := hF
  have hts := c1.hts
  have ha := wsOf_at (b0 := b0) (cA := cA) (h := (w, m)) hw
  have hap := va_apart (own := M.1.cls) hts hin (tyOf ci) hp hnm c1.hK hc
  obtain ⟨r0, h1, cell, q1, q2, q3, q4⟩ := c2.1 o _ ha
  have hr : r0 = (C, T, N) := Option.some.inj (h1.symm.trans hc)
  subst hr
  obtain ⟨hS, hfc, kC, hkC, hkind⟩ := c1.hK.1 ci _ hc
  obtain ⟨cf, kf, fi, fl, hi, hsl⟩ := hS f hk
  have hlay := hts _ (hin _ (u_in_lay hk))
  unfold u_lay at hlay
  rw [if_pos hfin] at hlay
  have hst := (u_facts hfc hkC (u_lays hts hin hk) hi).1
  have hcf : mm.cls = cf := by
    obtain ⟨_, _, c', _, _, _, -, -, hf', -, -, -, hown2, -⟩ := Cond.laysFinal_spec hlay
    have e1 : c' = cf := by have := hi.symm.trans hf'; simp at this; exact this.1.symm
    rw [hT f hk, hCo rfl] at hown2
    rw [← e1]; exact Option.some.inj (c1.hown.symm.trans hown2)
  have h6 := u_fits (v := .ref (b0 + r)) hfc hkC hkind (Or.inr hlay) hi (hp f hk) (nar_R hty) (fits_R hty)
  refine W.putFinK c1.hx c1.hb c1.hown (hts _ hl) hi hst hcf (by rw [c1.hnm]; exact hini) (by rw [q2]; exact h6) q1 q3 (by rw [hsl]; exact k2_hasslot (q4 f hk)) rfl rfl hd fun H1 e1 z oq => ?_
  rw [hsl] at e1 ⊢
  have hol : o < w.length := (List.getElem?_eq_some_iff.mp hw).1
  refine k l b0 D cA X p e R s mm args below meth c H1 _ cells slots ls' c1 (c2.put (kd := (0, ci, rs.set f (r : Int))) hol (by rw [List.getElem?_set, if_pos rfl, if_pos hol]) (by simp) (fun a' h => by rw [List.getElem?_set, if_neg (fun e => h e.symm)]) (fun a' h => rfl) z oq ?_)
  refine ⟨(C, T, N), hc, ?_⟩
  refine t_OB.to (V := updV (vp_V (objF b0 m o ci rs)) f (.ref (b0 + r))) ⟨_, e1, q2, q3, t_set q4 hap hk _⟩ (fun j hj => ?_)
  rw [vp_updV_set (by rw [objF_len, ← hN]; exact hk)]
  congr 1
  refine objF_set (by rw [← hN]; exact hk) ?_ (fun j hj => ⟨rfl, ?_⟩)
  · rw [fVal_R hty, List.getD_eq_getElem?_getD, List.getElem?_set, if_pos rfl, if_pos hrl, Option.getD_some, rfO_nat]
    rfl
  · rw [List.getD_eq_getElem?_getD, List.getD_eq_getElem?_getD, List.getElem?_set, if_neg (fun e => hj e.symm)]
def zer (m : Nat → Nat → Int) (a : Nat) : Nat → Nat → Int := fun a' j => if a' = a then 0 else m a' j
theorem zer_off (m : Nat → Nat → Int) {a a' : Nat} (h : a' ≠ a) : zer m a a' = m a' := by
  funext j
  simp [zer, h]
theorem zer_at (m : Nat → Nat → Int) (a j : Nat) : zer m a a j = 0 := by simp [zer]
theorem fVal_0 {b0 ci k N : Nat} {m : Nat → Nat → Int} (a : Nat) : isI (tyOf ci k) = true ∨ isR (tyOf ci k) = true → defaultValue (tyOf ci k) = fVal b0 (tyOf ci k) (zer m a a k) ((List.replicate N (-1)).getD k (-1)) := by
  have h2 : (List.replicate N (-1 : Int)).getD k (-1) = -1 := by
    rw [List.getD_eq_getElem?_getD, List.getElem?_replicate]
    split <;> rfl
  rw [zer_at, h2]
  intro h
  generalize tyOf ci k = ty at h
  cases ty <;> first | rfl | (simp [isI, isR] at h)
def NWk (own : String) (idx ci : Nat) : Prop := ∃ C T N, CLk ci C T N ∧ Cond.classLink own idx C ∈ lwg ∧ Cond.instantiable C N ∈ lwg ∧ Cond.initialized C ∈ lwg ∧ ∀ k, k < N → isI (tyOf ci k) = true ∨ isR (tyOf ci k) = true
theorem G_new {M : MD} {d mc ms pc : Nat} {ls st : List PV} {w : List KD} {m : Nat → Nat → Int} {Q : Ps} {ci idx N o : Nat} (hN : NWk M.1.cls idx ci) (hd : decode M.2.1 pc = .ok (.new idx, 3)) (hn : nOfC ci = N) (ho : w.length = o) (k : G M d mc ms (pc + 3) ls (rV o :: st) (w ++ [(0, ci, List.replicate N (-1))], zer m o) Q) : G M d (mc + 1) (ms + N) pc ls st (w, m) Q := by
  intro l b0 D cA X p e R s mm args below meth c H locs cells slots ls' c1 c2
  obtain ⟨C, T, N', ⟨hc, hin, hN', hp, hnm, hT⟩, hcl, hins, hini, hty⟩ := hN
  have hts := c1.hts
  have hNN : N' = N := by rw [hN', hn]
  subst hNN
  subst ho
  have hKn := c1.hK.1 ci _ hc
  have hce := c1.hce
  have hsl := c1.hsl
  refine W.newcK c1.hx c1.hb c1.hown (hts _ hcl) (hts _ hins) (hts _ hini) rfl hd (by omega) (by omega) hKn.2.1 rfl fun H1 kC hkC e1 z1 o1 => ?_
  have hH : H.size = b0 + w.length := c2.2.1
  have c1' : C1 M d mc ms b0 D cA X p R s mm args meth c (cells + 1) (slots + N') := ⟨c1.hx, c1.hb, c1.hml, c1.hr, c1.hown, hts, c1.hlk, c1.hnm, c1.hfr, c1.hlo, by omega, by omega, c1.hK, c1.hX, c1.hXb, c1.hb0, c1.hXW⟩
  have k1 := k l b0 D cA X p e R s mm args below meth c H1 locs (cells + 1) (slots + N') ls' c1' ⟨?_, ?_, ?_, c2.2.2.2⟩
  · rw [show cells + 1 + mc = cells + (mc + 1) by omega, show slots + N' + ms = slots + (ms + N') by omega] at k1
    have e0 : enc b0 (rV w.length) = Value.ref H.size := by rw [hH]; rfl
    simp only [List.map_cons, e0] at k1
    exact k1
  · rw [← wsOf_push (w := w) (m := m) (m' := zer m w.length) (kd := (0, ci, List.replicate N' (-1))) (fun a' h => zer_off m (by omega)) rfl]
    refine va_P.app (c2.1.kept (fun k q hq => o1 q.1 (c2.1 k q hq).lt)) (fun k q hq => ?_)
    have hz : k < 1 := (List.getElem?_eq_some_iff.mp hq).1
    rw [show k = 0 by omega] at hq
    cases hq
    refine ⟨(C, T, N'), hc, ?_⟩
    show t_OB (b0 + w.length) _ _ _ _ _
    rw [← hH]
    refine (u_born (tyOf ci) hts hin hKn hkC e1 hp).to (fun j hj => ?_)
    rw [fVal_0 (b0 := b0) (N := N') (m := m) w.length (hty j hj)]
    have e9 : (objF b0 (zer m w.length) w.length ci (List.replicate N' (-1))).getD j .null = fVal b0 (tyOf ci j) (zer m w.length w.length j) ((List.replicate N' (-1)).getD j (-1)) := by
      rw [List.getD_eq_getElem?_getD, objF_at (by rw [← hN']; exact hj)]
      rfl
    exact e9.symm
  · rw [z1, hH]
    simp
    omega
  · exact ⟨Nat.le_trans c2.2.2.1.1 (by omega), fun x h1 h2 => (o1 x (Nat.lt_of_lt_of_le h1 c2.2.2.1.1)).trans (c2.2.2.1.2.1 x h1 h2), c2.2.2.1.2.2⟩
theorem G_newai {M : MD} {d mc ms pc : Nat} {ls st : List PV} {w : List KD} {m : Nat → Nat → Int} {Q : Ps} {n o : Nat} (hd : decode M.2.1 pc = .ok (.newarray .int, 2)) (hw : Cond.arrayClass .int ∈ lwg) (hn : n ≤ 60000) (ho : w.length = o) (k : G M d mc ms (pc + 2) ls (rV o :: st) (w ++ [(1, n, [])], zer m o) Q) : G M d (mc + 1) (ms + n) pc ls (iV (n : Int) :: st) (w, m) Q := by
  intro l b0 D cA X p e R s mm args below meth c H locs cells slots ls' c1 c2
  have hts := c1.hts
  subst ho
  have hce := c1.hce
  have hsl := c1.hsl
  have hnn : (Int32.ofInt (n : Int)).toNatClampNeg = n := by rw [oi_nat (by omega) (by omega)]; rfl
  refine va_newaK c1.hx c1.hb (atype := .int) (hts _ hw) rfl hd rfl (by rw [← oi_0, oi_lt (by omega) (by decide)]; omega) hnn (by show n * _ ≤ _; simp [newarray.typeOf, componentBytes]; omega) (by omega) (by omega) rfl fun H1 cA' e1 z1 o1 hAr hNm => ?_
  have hH : H.size = b0 + w.length := c2.2.1
  have hcA : cA' = cA 0 := by
    have h1 := (c1.hK.2 0 _ rfl).2
    have h2 : s.vm.findClass ("[" ++ FieldType.toString .int) = some (cA 0) := h1
    have h3 : s.vm.findClass ("[" ++ FieldType.toString .int) = some cA' := hNm
    exact Option.some.inj (h3.symm.trans h2)
  subst hcA
  have c1' : C1 M d mc ms b0 D cA X p R s mm args meth c (cells + 1) (slots + n) := ⟨c1.hx, c1.hb, c1.hml, c1.hr, c1.hown, hts, c1.hlk, c1.hnm, c1.hfr, c1.hlo, by omega, by omega, c1.hK, c1.hX, c1.hXb, c1.hb0, c1.hXW⟩
  have k1 := k l b0 D cA X p e R s mm args below meth c H1 locs (cells + 1) (slots + n) ls' c1' ⟨?_, ?_, ?_, c2.2.2.2⟩
  · rw [show cells + 1 + mc = cells + (mc + 1) by omega, show slots + n + ms = slots + (ms + n) by omega] at k1
    have e0 : enc b0 (rV w.length) = Value.ref H.size := by rw [hH]; rfl
    simp only [List.map_cons, e0] at k1
    exact k1
  · rw [← wsOf_push (w := w) (m := m) (m' := zer m w.length) (kd := (1, n, [])) (fun a' h => zer_off m (by omega)) rfl]
    refine va_P.app (c2.1.kept (fun k q hq => o1 q.1 (c2.1 k q hq).lt)) (fun k q hq => ?_)
    have hz : k < 1 := (List.getElem?_eq_some_iff.mp hq).1
    rw [show k = 0 by omega] at hq
    cases hq
    show H1[b0 + w.length]? = some (vp_cell _ _)
    rw [← hH, e1]
    congr 1
    show (arrV (cA 0) n fun _ => defaultValue .int) = arrV (cA 0) n (fun j => .int (Int32.ofInt (zer m w.length w.length j)))
    congr 1
    funext j
    rw [zer_at]
    rfl
  · rw [z1, hH]
    simp
    omega
  · exact ⟨Nat.le_trans c2.2.2.1.1 (by omega), fun x h1 h2 => (o1 x (Nat.lt_of_lt_of_le h1 c2.2.2.1.1)).trans (c2.2.2.1.2.1 x h1 h2), c2.2.2.1.2.2⟩
theorem G_newab {M : MD} {d mc ms pc : Nat} {ls st : List PV} {w : List KD} {m : Nat → Nat → Int} {Q : Ps} {n o : Nat} (hd : decode M.2.1 pc = .ok (.newarray .byte, 2)) (hw : Cond.arrayClass .byte ∈ lwg) (hn : n ≤ 60000) (ho : w.length = o) (k : G M d mc ms (pc + 2) ls (rV o :: st) (w ++ [(2, n, [])], zer m o) Q) : G M d (mc + 1) (ms + n) pc ls (iV (n : Int) :: st) (w, m) Q := by
  intro l b0 D cA X p e R s mm args below meth c H locs cells slots ls' c1 c2
  have hts := c1.hts
  subst ho
  have hce := c1.hce
  have hsl := c1.hsl
  have hnn : (Int32.ofInt (n : Int)).toNatClampNeg = n := by rw [oi_nat (by omega) (by omega)]; rfl
  refine va_newaK c1.hx c1.hb (atype := .byte) (hts _ hw) rfl hd rfl (by rw [← oi_0, oi_lt (by omega) (by decide)]; omega) hnn (by show n * _ ≤ _; simp [newarray.typeOf, componentBytes]; omega) (by omega) (by omega) rfl fun H1 cA' e1 z1 o1 hAr hNm => ?_
  have hH : H.size = b0 + w.length := c2.2.1
  have hcA : cA' = cA 1 := by
    have h1 := (c1.hK.2 1 _ rfl).2
    have h2 : s.vm.findClass ("[" ++ FieldType.toString .byte) = some (cA 1) := h1
    have h3 : s.vm.findClass ("[" ++ FieldType.toString .byte) = some cA' := hNm
    exact Option.some.inj (h3.symm.trans h2)
  subst hcA
  have c1' : C1 M d mc ms b0 D cA X p R s mm args meth c (cells + 1) (slots + n) := ⟨c1.hx, c1.hb, c1.hml, c1.hr, c1.hown, hts, c1.hlk, c1.hnm, c1.hfr, c1.hlo, by omega, by omega, c1.hK, c1.hX, c1.hXb, c1.hb0, c1.hXW⟩
  have k1 := k l b0 D cA X p e R s mm args below meth c H1 locs (cells + 1) (slots + n) ls' c1' ⟨?_, ?_, ?_, c2.2.2.2⟩
  · rw [show cells + 1 + mc = cells + (mc + 1) by omega, show slots + n + ms = slots + (ms + n) by omega] at k1
    have e0 : enc b0 (rV w.length) = Value.ref H.size := by rw [hH]; rfl
    simp only [List.map_cons, e0] at k1
    exact k1
  · rw [← wsOf_push (w := w) (m := m) (m' := zer m w.length) (kd := (2, n, [])) (fun a' h => zer_off m (by omega)) rfl]
    refine va_P.app (c2.1.kept (fun k q hq => o1 q.1 (c2.1 k q hq).lt)) (fun k q hq => ?_)
    have hz : k < 1 := (List.getElem?_eq_some_iff.mp hq).1
    rw [show k = 0 by omega] at hq
    cases hq
    show H1[b0 + w.length]? = some (vp_cell _ _)
    rw [← hH, e1]
    congr 1
    show (arrV (cA 1) n fun _ => defaultValue .byte) = arrV (cA 1) n (fun j => .int (Int32.ofInt (zer m w.length w.length j)))
    congr 1
    funext j
    rw [zer_at]
    rfl
  · rw [z1, hH]
    simp
    omega
  · exact ⟨Nat.le_trans c2.2.2.1.1 (by omega), fun x h1 h2 => (o1 x (Nat.lt_of_lt_of_le h1 c2.2.2.1.1)).trans (c2.2.2.1.2.1 x h1 h2), c2.2.2.1.2.2⟩
theorem G_newas {M : MD} {d mc ms pc : Nat} {ls st : List PV} {w : List KD} {m : Nat → Nat → Int} {Q : Ps} {n o : Nat} (hd : decode M.2.1 pc = .ok (.newarray .short, 2)) (hw : Cond.arrayClass .short ∈ lwg) (hn : n ≤ 60000) (ho : w.length = o) (k : G M d mc ms (pc + 2) ls (rV o :: st) (w ++ [(3, n, [])], zer m o) Q) : G M d (mc + 1) (ms + n) pc ls (iV (n : Int) :: st) (w, m) Q := by
  intro l b0 D cA X p e R s mm args below meth c H locs cells slots ls' c1 c2
  have hts := c1.hts
  subst ho
  have hce := c1.hce
  have hsl := c1.hsl
  have hnn : (Int32.ofInt (n : Int)).toNatClampNeg = n := by rw [oi_nat (by omega) (by omega)]; rfl
  refine va_newaK c1.hx c1.hb (atype := .short) (hts _ hw) rfl hd rfl (by rw [← oi_0, oi_lt (by omega) (by decide)]; omega) hnn (by show n * _ ≤ _; simp [newarray.typeOf, componentBytes]; omega) (by omega) (by omega) rfl fun H1 cA' e1 z1 o1 hAr hNm => ?_
  have hH : H.size = b0 + w.length := c2.2.1
  have hcA : cA' = cA 2 := by
    have h1 := (c1.hK.2 2 _ rfl).2
    have h2 : s.vm.findClass ("[" ++ FieldType.toString .short) = some (cA 2) := h1
    have h3 : s.vm.findClass ("[" ++ FieldType.toString .short) = some cA' := hNm
    exact Option.some.inj (h3.symm.trans h2)
  subst hcA
  have c1' : C1 M d mc ms b0 D cA X p R s mm args meth c (cells + 1) (slots + n) := ⟨c1.hx, c1.hb, c1.hml, c1.hr, c1.hown, hts, c1.hlk, c1.hnm, c1.hfr, c1.hlo, by omega, by omega, c1.hK, c1.hX, c1.hXb, c1.hb0, c1.hXW⟩
  have k1 := k l b0 D cA X p e R s mm args below meth c H1 locs (cells + 1) (slots + n) ls' c1' ⟨?_, ?_, ?_, c2.2.2.2⟩
  · rw [show cells + 1 + mc = cells + (mc + 1) by omega, show slots + n + ms = slots + (ms + n) by omega] at k1
    have e0 : enc b0 (rV w.length) = Value.ref H.size := by rw [hH]; rfl
    simp only [List.map_cons, e0] at k1
    exact k1
  · rw [← wsOf_push (w := w) (m := m) (m' := zer m w.length) (kd := (3, n, [])) (fun a' h => zer_off m (by omega)) rfl]
    refine va_P.app (c2.1.kept (fun k q hq => o1 q.1 (c2.1 k q hq).lt)) (fun k q hq => ?_)
    have hz : k < 1 := (List.getElem?_eq_some_iff.mp hq).1
    rw [show k = 0 by omega] at hq
    cases hq
    show H1[b0 + w.length]? = some (vp_cell _ _)
    rw [← hH, e1]
    congr 1
    show (arrV (cA 2) n fun _ => defaultValue .short) = arrV (cA 2) n (fun j => .int (Int32.ofInt (zer m w.length w.length j)))
    congr 1
    funext j
    rw [zer_at]
    rfl
  · rw [z1, hH]
    simp
    omega
  · exact ⟨Nat.le_trans c2.2.2.1.1 (by omega), fun x h1 h2 => (o1 x (Nat.lt_of_lt_of_le h1 c2.2.2.1.1)).trans (c2.2.2.1.2.1 x h1 h2), c2.2.2.1.2.2⟩
theorem G_newaz {M : MD} {d mc ms pc : Nat} {ls st : List PV} {w : List KD} {m : Nat → Nat → Int} {Q : Ps} {n o : Nat} (hd : decode M.2.1 pc = .ok (.newarray .boolean, 2)) (hw : Cond.arrayClass .boolean ∈ lwg) (hn : n ≤ 60000) (ho : w.length = o) (k : G M d mc ms (pc + 2) ls (rV o :: st) (w ++ [(4, n, [])], zer m o) Q) : G M d (mc + 1) (ms + n) pc ls (iV (n : Int) :: st) (w, m) Q := by
  intro l b0 D cA X p e R s mm args below meth c H locs cells slots ls' c1 c2
  have hts := c1.hts
  subst ho
  have hce := c1.hce
  have hsl := c1.hsl
  have hnn : (Int32.ofInt (n : Int)).toNatClampNeg = n := by rw [oi_nat (by omega) (by omega)]; rfl
  refine va_newaK c1.hx c1.hb (atype := .boolean) (hts _ hw) rfl hd rfl (by rw [← oi_0, oi_lt (by omega) (by decide)]; omega) hnn (by show n * _ ≤ _; simp [newarray.typeOf, componentBytes]; omega) (by omega) (by omega) rfl fun H1 cA' e1 z1 o1 hAr hNm => ?_
  have hH : H.size = b0 + w.length := c2.2.1
  have hcA : cA' = cA 3 := by
    have h1 := (c1.hK.2 3 _ rfl).2
    have h2 : s.vm.findClass ("[" ++ FieldType.toString .boolean) = some (cA 3) := h1
    have h3 : s.vm.findClass ("[" ++ FieldType.toString .boolean) = some cA' := hNm
    exact Option.some.inj (h3.symm.trans h2)
  subst hcA
  have c1' : C1 M d mc ms b0 D cA X p R s mm args meth c (cells + 1) (slots + n) := ⟨c1.hx, c1.hb, c1.hml, c1.hr, c1.hown, hts, c1.hlk, c1.hnm, c1.hfr, c1.hlo, by omega, by omega, c1.hK, c1.hX, c1.hXb, c1.hb0, c1.hXW⟩
  have k1 := k l b0 D cA X p e R s mm args below meth c H1 locs (cells + 1) (slots + n) ls' c1' ⟨?_, ?_, ?_, c2.2.2.2⟩
  · rw [show cells + 1 + mc = cells + (mc + 1) by omega, show slots + n + ms = slots + (ms + n) by omega] at k1
    have e0 : enc b0 (rV w.length) = Value.ref H.size := by rw [hH]; rfl
    simp only [List.map_cons, e0] at k1
    exact k1
  · rw [← wsOf_push (w := w) (m := m) (m' := zer m w.length) (kd := (4, n, [])) (fun a' h => zer_off m (by omega)) rfl]
    refine va_P.app (c2.1.kept (fun k q hq => o1 q.1 (c2.1 k q hq).lt)) (fun k q hq => ?_)
    have hz : k < 1 := (List.getElem?_eq_some_iff.mp hq).1
    rw [show k = 0 by omega] at hq
    cases hq
    show H1[b0 + w.length]? = some (vp_cell _ _)
    rw [← hH, e1]
    congr 1
    show (arrV (cA 3) n fun _ => defaultValue .boolean) = arrV (cA 3) n (fun j => .int (Int32.ofInt (zer m w.length w.length j)))
    congr 1
    funext j
    rw [zer_at]
    rfl
  · rw [z1, hH]
    simp
    omega
  · exact ⟨Nat.le_trans c2.2.2.1.1 (by omega), fun x h1 h2 => (o1 x (Nat.lt_of_lt_of_le h1 c2.2.2.1.1)).trans (c2.2.2.1.2.1 x h1 h2), c2.2.2.1.2.2⟩
theorem G_newal {M : MD} {d mc ms pc : Nat} {ls st : List PV} {w : List KD} {m : Nat → Nat → Int} {Q : Ps} {n o : Nat} (hd : decode M.2.1 pc = .ok (.newarray .long, 2)) (hw : Cond.arrayClass .long ∈ lwg) (hn : n ≤ 60000) (ho : w.length = o) (k : G M d mc ms (pc + 2) ls (rV o :: st) (w ++ [(5, n, [])], zer m o) Q) : G M d (mc + 1) (ms + n) pc ls (iV (n : Int) :: st) (w, m) Q := by
  intro l b0 D cA X p e R s mm args below meth c H locs cells slots ls' c1 c2
  have hts := c1.hts
  subst ho
  have hce := c1.hce
  have hsl := c1.hsl
  have hnn : (Int32.ofInt (n : Int)).toNatClampNeg = n := by rw [oi_nat (by omega) (by omega)]; rfl
  refine va_newaK c1.hx c1.hb (atype := .long) (hts _ hw) rfl hd rfl (by rw [← oi_0, oi_lt (by omega) (by decide)]; omega) hnn (by show n * _ ≤ _; simp [newarray.typeOf, componentBytes]; omega) (by omega) (by omega) rfl fun H1 cA' e1 z1 o1 hAr hNm => ?_
  have hH : H.size = b0 + w.length := c2.2.1
  have hcA : cA' = cA 4 := by
    have h1 := (c1.hK.2 4 _ rfl).2
    have h2 : s.vm.findClass ("[" ++ FieldType.toString .long) = some (cA 4) := h1
    have h3 : s.vm.findClass ("[" ++ FieldType.toString .long) = some cA' := hNm
    exact Option.some.inj (h3.symm.trans h2)
  subst hcA
  have c1' : C1 M d mc ms b0 D cA X p R s mm args meth c (cells + 1) (slots + n) := ⟨c1.hx, c1.hb, c1.hml, c1.hr, c1.hown, hts, c1.hlk, c1.hnm, c1.hfr, c1.hlo, by omega, by omega, c1.hK, c1.hX, c1.hXb, c1.hb0, c1.hXW⟩
  have k1 := k l b0 D cA X p e R s mm args below meth c H1 locs (cells + 1) (slots + n) ls' c1' ⟨?_, ?_, ?_, c2.2.2.2⟩
  · rw [show cells + 1 + mc = cells + (mc + 1) by omega, show slots + n + ms = slots + (ms + n) by omega] at k1
    have e0 : enc b0 (rV w.length) = Value.ref H.size := by rw [hH]; rfl
    simp only [List.map_cons, e0] at k1
    exact k1
  · rw [← wsOf_push (w := w) (m := m) (m' := zer m w.length) (kd := (5, n, [])) (fun a' h => zer_off m (by omega)) rfl]
    refine va_P.app (c2.1.kept (fun k q hq => o1 q.1 (c2.1 k q hq).lt)) (fun k q hq => ?_)
    have hz : k < 1 := (List.getElem?_eq_some_iff.mp hq).1
    rw [show k = 0 by omega] at hq
    cases hq
    show H1[b0 + w.length]? = some (vp_cell _ _)
    rw [← hH, e1]
    congr 1
    show (arrV (cA 4) n fun _ => defaultValue .long) = arrV (cA 4) n (fun j => .long (Int64.ofInt (zer m w.length w.length j)))
    congr 1
    funext j
    rw [zer_at]
    rfl
  · rw [z1, hH]
    simp
    omega
  · exact ⟨Nat.le_trans c2.2.2.1.1 (by omega), fun x h1 h2 => (o1 x (Nat.lt_of_lt_of_le h1 c2.2.2.1.1)).trans (c2.2.2.1.2.1 x h1 h2), c2.2.2.1.2.2⟩
theorem G_iret {M : MD} {d mc ms pc : Nat} {ls st : List PV} {w : List KD} {m : Nat → Nat → Int} {Q : Ps} {x : Int} (hd : decode M.2.1 pc = .ok (.ireturn, 1)) (hr : M.2.2.2 = some .int) (k : Q (some (iV x)) (w, m)) : G M d 0 0 pc ls [iV x] (w, m) Q := by
  intro l b0 D cA X p e R s mm args below meth c H locs cells slots ls' c1 c2
  refine W.iret c1.hx c1.hb (by rw [c1.hr]; exact hr) (fun t ht hW => ⟨⟨some (iV x), (w, m), rfl, k, by rw [ht]; exact c2.1, by rw [ht]; exact c2.2.1, c1.hK.moved hW.alike, (c1.hX.moved hW.alike).kept (by rw [ht]; exact c2.2.2.1.2.1 _ (Nat.lt_of_lt_of_le c1.hXb c1.hb0) (by show ¬ b0 ≤ X.1; have := c1.hXb; omega)), c1.hXb, c1.hXW.moved hW⟩, c2.2.2.1.F ht⟩) c2.2.2.1.2.2 hd c1.hlk
theorem G_zret {M : MD} {d mc ms pc : Nat} {ls st : List PV} {w : List KD} {m : Nat → Nat → Int} {Q : Ps} {x : Int} (hd : decode M.2.1 pc = .ok (.ireturn, 1)) (hr : M.2.2.2 = some .boolean) (hx : 0 ≤ x ∧ x < 2) (k : Q (some (iV x)) (w, m)) : G M d 0 0 pc ls [iV x] (w, m) Q := by
  intro l b0 D cA X p e R s mm args below meth c H locs cells slots ls' c1 c2
  refine W.zret (ty := .boolean) c1.hx c1.hb (by rw [c1.hr]; exact hr) (narZ hx) (fun t ht hW => ⟨⟨some (iV x), (w, m), rfl, k, by rw [ht]; exact c2.1, by rw [ht]; exact c2.2.1, c1.hK.moved hW.alike, (c1.hX.moved hW.alike).kept (by rw [ht]; exact c2.2.2.1.2.1 _ (Nat.lt_of_lt_of_le c1.hXb c1.hb0) (by show ¬ b0 ≤ X.1; have := c1.hXb; omega)), c1.hXb, c1.hXW.moved hW⟩, c2.2.2.1.F ht⟩) c2.2.2.1.2.2 hd c1.hlk
theorem G_lret {M : MD} {d mc ms pc : Nat} {ls st : List PV} {w : List KD} {m : Nat → Nat → Int} {Q : Ps} {x : Int} (hd : decode M.2.1 pc = .ok (.lreturn, 1)) (hr : M.2.2.2 = some .long) (k : Q (some (lV x)) (w, m)) : G M d 0 0 pc ls [lV x] (w, m) Q := by
  intro l b0 D cA X p e R s mm args below meth c H locs cells slots ls' c1 c2
  refine W.lret c1.hx c1.hb (by rw [c1.hr]; exact hr) (fun t ht hW => ⟨⟨some (lV x), (w, m), rfl, k, by rw [ht]; exact c2.1, by rw [ht]; exact c2.2.1, c1.hK.moved hW.alike, (c1.hX.moved hW.alike).kept (by rw [ht]; exact c2.2.2.1.2.1 _ (Nat.lt_of_lt_of_le c1.hXb c1.hb0) (by show ¬ b0 ≤ X.1; have := c1.hXb; omega)), c1.hXb, c1.hXW.moved hW⟩, c2.2.2.1.F ht⟩) c2.2.2.1.2.2 hd c1.hlk
theorem G_aret {M : MD} {d mc ms pc : Nat} {ls st : List PV} {w : List KD} {m : Nat → Nat → Int} {Q : Ps} {x : Nat} (hd : decode M.2.1 pc = .ok (.areturn, 1)) (hr : M.2.2.2 = some (.array .int)) (k : Q (some (rV x)) (w, m)) : G M d 0 0 pc ls [rV x] (w, m) Q := by
  intro l b0 D cA X p e R s mm args below meth c H locs cells slots ls' c1 c2
  refine W.aret c1.hx c1.hb (by rw [c1.hr]; exact hr) (Or.inr ⟨.int, rfl⟩) (Or.inr ⟨_, rfl⟩) (fun t ht hW => ⟨⟨some (rV x), (w, m), rfl, k, by rw [ht]; exact c2.1, by rw [ht]; exact c2.2.1, c1.hK.moved hW.alike, (c1.hX.moved hW.alike).kept (by rw [ht]; exact c2.2.2.1.2.1 _ (Nat.lt_of_lt_of_le c1.hXb c1.hb0) (by show ¬ b0 ≤ X.1; have := c1.hXb; omega)), c1.hXb, c1.hXW.moved hW⟩, c2.2.2.1.F ht⟩) c2.2.2.1.2.2 hd c1.hlk
theorem G_vret {M : MD} {d mc ms pc : Nat} {ls st : List PV} {w : List KD} {m : Nat → Nat → Int} {Q : Ps} (hd : decode M.2.1 pc = .ok (.return_, 1)) (hr : M.2.2.2 = none) (k : Q none (w, m)) : G M d 0 0 pc ls [] (w, m) Q := by
  intro l b0 D cA X p e R s mm args below meth c H locs cells slots ls' c1 c2
  refine W.vret c1.hx c1.hb (by rw [c1.hr]; exact hr) (fun t ht hW => ⟨⟨none, (w, m), rfl, k, by rw [ht]; exact c2.1, by rw [ht]; exact c2.2.1, c1.hK.moved hW.alike, (c1.hX.moved hW.alike).kept (by rw [ht]; exact c2.2.2.1.2.1 _ (Nat.lt_of_lt_of_le c1.hXb c1.hb0) (by show ¬ b0 ≤ X.1; have := c1.hXb; omega)), c1.hXb, c1.hXW.moved hW⟩, c2.2.2.1.F ht⟩) c2.2.2.1.2.2 hd c1.hlk
/-- what a call needs of the words -/
def WG (M' : MD) : Prop := GoodIn lwg (wsM M')
theorem QcM_blind {b0 : Nat} {D : va_G} {cA : Nat → ClassId} {X : Nat × Nat × (Nat → Int32)} {as : List Value} {h : Hp} : FrameBlind (va_Pc as (RelU b0 D cA X h)) := by
  intro a U g mk hq
  obtain ⟨h0, h1, h2, h3, h4, h5, h6⟩ := hq
  exact ⟨h0, h1, h2, va_K.moved (u := U) (U := U.calling g mk a) (Vm.Alike.refl U.vm) h3, va_X.moved (u := U) (U := U.calling g mk a) (Vm.Alike.refl U.vm) h4, h5, XW.moved (u := U) (U := U.calling g mk a) (State.WarmedH.refl U) h6⟩
/-- behind a call that ran -/
theorem G_run {M : MD} {d mc ms mc' ms' pc : Nat} {ls st st0 : List PV} {h : Hp} {Q Q' : Ps} {as : List Value} {l : Launch} {b0 : Nat} {D : va_G} {cA : Nat → ClassId} {X : Nat × Nat × (Nat → Int32)} {p : Program} {e : Env} {R : Room} {s : State} {mm : MethodId} {args : Array Value} {below : List Frame} {meth : Method} {c : Code} {H : Heap} {locs : List Loc} {cells slots : Nat} {ls' : Array Slot}
    (c1 : C1 M d (mc' + mc) (ms' + ms) b0 D cA X p R s mm args meth c cells slots) (c2 : C2 M b0 D cA h s.heap H locs ls ls')
    (hrun : va_Run p l e R s mm args below meth c H locs cells slots mc' ms' (F0 mm pc ls' (st0.map (enc b0))) (st.map (enc b0)) (QcM b0 D cA X Q' as.toArray) (fun q => b0 ≤ q))
    (k : ∀ r h', Q' r h' → G M d mc ms (pc + 3) ls (r.toList ++ st) h' Q) :
    W p l e R s mm args below meth c H locs cells slots (MQ below (QcM b0 D cA X Q) args s (cells + (mc' + mc)) (slots + (ms' + ms)) (fun q => b0 ≤ q)) (F0 mm pc ls' (st0.map (enc b0))) := by
  intro T hT XT
  obtain ⟨v, st₀, t, T', L, h0, X', hL, e1, e2, ⟨⟨r, h', ho, hq, hP', hsz', hK', -, -⟩, hF1, hF2⟩, stp⟩ := hrun T hT XT
  have hce := c1.hce
  have hsl := c1.hsl
  have c1' : C1 M d mc ms b0 D cA X p R s mm args meth c (cells + mc') (slots + ms') := ⟨c1.hx, c1.hb, c1.hml, c1.hr, c1.hown, c1.hts, c1.hlk, c1.hnm, c1.hfr, c1.hlo, by omega, by omega, c1.hK, c1.hX, c1.hXb, c1.hb0, c1.hXW⟩
  have k1 := k r h' hq l b0 D cA X p e R s mm args below meth c T'.heap (locs ++ L) (cells + mc') (slots + ms') ls' c1' ⟨by rw [e1]; exact hP', by rw [e1]; exact hsz', ⟨?_, ?_, ?_⟩, c2.2.2.2⟩
  · rw [show cells + mc' + mc = cells + (mc' + mc) by omega, show slots + ms' + ms = slots + (ms' + ms) by omega] at k1
    have hv : v = r.map (enc b0) := by cases ho; rfl
    have e3 : (r.toList ++ st).map (enc b0) = v.toList ++ st.map (enc b0) := by
      rw [hv]
      cases r <;> rfl
    rw [e3] at k1
    obtain ⟨t2, a1, b1⟩ := k1 T' rfl X'
    exact ⟨t2, stp t2 a1, b1⟩
  · rw [h0] at hF1
    exact Nat.le_trans c2.2.2.1.1 (by rw [e1]; exact hF1)
  · intro q h1 h2
    rw [e1, hF2 q (by rw [h0]; exact Nat.lt_of_lt_of_le h1 c2.2.2.1.1) h2, h0]
    exact c2.2.2.1.2.1 q h1 h2
  · intro q hq2
    rcases List.mem_append.mp hq2 with h | h
    · exact c2.2.2.1.2.2 q h
    · exact hL q h
/-- an instance method: its words -/
def CVk (own : String) (idx : Nat) (M' : MD) (n : Nat) : Prop := GoodIn lwg (wsV own idx M'.1.cls M'.1 (wsM M')) ∧ M'.1.cls ≠ "java/lang/invoke/MethodHandle" ∧ M'.1.cls ≠ "java/lang/invoke/VarHandle" ∧ (parseMethodDescriptor M'.1.desc).map (fun d => d.parameters.length) = some n ∧ M'.2.2.1 ≤ 20
def CSk (own : String) (idx : Nat) (M' : MD) (n : Nat) : Prop := GoodIn lwg (wsM M') ∧ Cond.methodLink own idx M'.1 ∈ lwg ∧ Cond.static M'.1 ∈ lwg ∧ Cond.initialized M'.1.cls ∈ lwg ∧ M'.1.cls ≠ "java/lang/invoke/MethodHandle" ∧ M'.1.cls ≠ "java/lang/invoke/VarHandle" ∧ (parseMethodDescriptor M'.1.desc).map (fun d => d.parameters.length) = some n ∧ M'.2.2.1 ≤ 20
def CIk (own : String) (idx : Nat) (M' : MD) (n : Nat) : Prop := GoodIn lwg (wsM M') ∧ Cond.methodLink own idx M'.1 ∈ lwg ∧ Cond.instanceMethod M'.1 ∈ lwg ∧ Cond.initialized M'.1.cls ∈ lwg ∧ M'.1.name = "<init>" ∧ M'.2.2.2 = none ∧ M'.1.cls ≠ "java/lang/invoke/MethodHandle" ∧ M'.1.cls ≠ "java/lang/invoke/VarHandle" ∧ (parseMethodDescriptor M'.1.desc).map (fun d => d.parameters.length) = some n ∧ M'.2.2.1 ≤ 20
def CNk (own : String) (idx : Nat) (M' : MD) (n : Nat) : Prop := (∃ q ∈ xwN, own = "PathCycle" ∧ idx = q.1 ∧ M'.1 = ⟨q.2, "<init>", "()V"⟩) ∧ GoodIn lwg (wsM M') ∧ Cond.instanceMethod M'.1 ∈ lwg ∧ Cond.initialized M'.1.cls ∈ lwg ∧ M'.1.name = "<init>" ∧ M'.2.2.2 = none ∧ M'.1.cls ≠ "java/lang/invoke/MethodHandle" ∧ M'.1.cls ≠ "java/lang/invoke/VarHandle" ∧ (parseMethodDescriptor M'.1.desc).map (fun d => d.parameters.length) = some n ∧ M'.2.2.1 ≤ 20
theorem room_ok {d d' m20 : Nat} {R : Room} (h20 : m20 ≤ 20) (hd : d' + 1 ≤ d) (h1 : d ≤ R.frames) (h2 : 40 * d ≤ R.locals) (mc ms : Nat) : (roomD d' mc ms).frames + 1 ≤ R.frames ∧ 8 + (m20 + 11) + (roomD d' mc ms).locals ≤ R.locals := by
  refine ⟨Nat.le_trans hd h1, ?_⟩
  show 8 + (m20 + 11) + 40 * d' ≤ R.locals
  omega
def okCat (st : List PV) (b : Nat) : Prop := (st.map pcat).sum ≤ b
theorem cat_enc (b0 : Nat) : ∀ st : List PV, ((st.map (enc b0)).map fun v => v.category).sum = (st.map pcat).sum
  | [] => rfl
  | v :: st => by
    simp only [List.map_cons, List.sum_cons, enc_cat]
    rw [cat_enc b0 st]
theorem G_callV {M : MD} {d mc ms pc : Nat} {ls st : List PV} {w : List KD} {m : Nat → Nat → Int} {Q : Ps} {M' : MD} {d' mc' ms' idx o ci : Nat} {rs : List Int} (as : List PV) {st0 : List PV} {Q' : Ps} (hC : CVk M.1.cls idx M' as.length) (hci : (vwCl[ci]?).map (fun q => q.1) = some M'.1.cls) (hd : decode M.2.1 pc = .ok (.invokevirtual idx, 3)) (hw : w[o]? = some (0, ci, rs)) (hst : st0 = as.reverse ++ rV o :: st) (hcat : okCat st 8) (hdd : d' + 1 ≤ d) (hS : Sp M' d' mc' ms' (rV o :: as) (w, m) Q') (k : ∀ r h', Q' r h' → G M d mc ms (pc + 3) ls (r.toList ++ st) h' Q) : G M d (mc' + mc) (ms' + ms) pc ls st0 (w, m) Q := by
  intro l b0 D cA X p e R s mm args below meth c H locs cells slots ls' c1 c2
  subst hst
  obtain ⟨hG, h1, h2, h3, h4⟩ := hC
  have hce := c1.hce
  have hsl := c1.hsl
  obtain ⟨q, hq, hqn⟩ := Option.map_eq_some_iff.mp hci
  have cw := cwV (R := R) (rm := roomD d' mc' ms') as.length c1.hts hG rfl rfl rfl ⟨rfl, h1, h2, h3⟩ (room_ok h4 hdd c1.hfr c1.hlo mc' ms')
  have hrec := va_recv (a := b0 + o) c1.hK c2.1 hq (wsOf_at (h := (w, m)) hw)
  rw [hqn] at hrec
  refine G_run c1 c2 (as := Value.ref (b0 + o) :: as.map (enc b0)) (va_runV (As := as.map (enc b0)) (rest := st.map (enc b0)) ⟨c1.hx, c1.hb, c1.hml, c1.hown, c1.hts⟩ (hS l b0 D cA X) cw ⟨QcM_blind, hrec, fun U hU hW => ⟨by rw [List.map_cons]; rfl, by rw [hU]; exact c2.1, by rw [hU]; exact c2.2.1, c1.hK.moved hW.alike, (c1.hX.moved hW.alike).kept (by rw [hU]; exact c2.2.2.1.2.1 _ (Nat.lt_of_lt_of_le c1.hXb c1.hb0) (by show ¬ b0 ≤ X.1; have := c1.hXb; omega)), c1.hXb, c1.hXW.moved hW⟩⟩ rfl (by simp) c2.2.2.2.1 (by simp [enc]) (lv_room (by rw [cat_enc]; exact hcat)) hd ⟨by omega, by omega⟩) k
theorem G_callS {M : MD} {d mc ms pc : Nat} {ls st : List PV} {w : List KD} {m : Nat → Nat → Int} {Q : Ps} {M' : MD} {d' mc' ms' idx : Nat} (as : List PV) {st0 : List PV} {Q' : Ps} (hC : CSk M.1.cls idx M' as.length) (hd : decode M.2.1 pc = .ok (.invokestatic idx, 3)) (hst : st0 = as.reverse ++ st) (hcat : okCat st 8) (hdd : d' + 1 ≤ d) (hS : Sp M' d' mc' ms' as (w, m) Q') (k : ∀ r h', Q' r h' → G M d mc ms (pc + 3) ls (r.toList ++ st) h' Q) : G M d (mc' + mc) (ms' + ms) pc ls st0 (w, m) Q := by
  intro l b0 D cA X p e R s mm args below meth c H locs cells slots ls' c1 c2
  subst hst
  obtain ⟨hG, hl, hs, hini, h1, h2, h3, h4⟩ := hC
  have hce := c1.hce
  have hsl := c1.hsl
  have cw := callB_of (R := R) (rm := roomD d' mc' ms') (own := M.1.cls) (index := idx) as.length c1.hts hG rfl rfl rfl (c1.hts _ hini) (c1.hts _ hl) ⟨h1, h2, h3⟩ (room_ok h4 hdd c1.hfr c1.hlo mc' ms')
  refine G_run c1 c2 (as := as.map (enc b0)) (va_runS (As := as.map (enc b0)) (rest := st.map (enc b0)) ⟨c1.hx, c1.hb, c1.hml, c1.hown, c1.hts⟩ (hS l b0 D cA X) ⟨cw, c1.hts _ hs⟩ ⟨QcM_blind, fun U hU hW => ⟨rfl, by rw [hU]; exact c2.1, by rw [hU]; exact c2.2.1, c1.hK.moved hW.alike, (c1.hX.moved hW.alike).kept (by rw [hU]; exact c2.2.2.1.2.1 _ (Nat.lt_of_lt_of_le c1.hXb c1.hb0) (by show ¬ b0 ≤ X.1; have := c1.hXb; omega)), c1.hXb, c1.hXW.moved hW⟩⟩ rfl (by simp) c2.2.2.2.1 (by simp) (lv_room (by rw [cat_enc]; exact hcat)) hd ⟨by omega, by omega⟩) k
theorem G_callI {M : MD} {d mc ms pc : Nat} {ls st : List PV} {w : List KD} {m : Nat → Nat → Int} {Q : Ps} {M' : MD} {d' mc' ms' idx o : Nat} (as : List PV) {st0 : List PV} {Q' : Ps} (hC : CIk M.1.cls idx M' as.length) (hd : decode M.2.1 pc = .ok (.invokespecial idx, 3)) (hst : st0 = as.reverse ++ rV o :: st) (hcat : okCat st 8) (hdd : d' + 1 ≤ d) (hS : Sp M' d' mc' ms' (rV o :: as) (w, m) Q') (k : ∀ r h', Q' r h' → G M d mc ms (pc + 3) ls (r.toList ++ st) h' Q) : G M d (mc' + mc) (ms' + ms) pc ls st0 (w, m) Q := by
  intro l b0 D cA X p e R s mm args below meth c H locs cells slots ls' c1 c2
  subst hst
  obtain ⟨hG, hl, hi, hini, hnm, hret, h1, h2, h3, h4⟩ := hC
  have hce := c1.hce
  have hsl := c1.hsl
  have cw := cwI (R := R) (rm := roomD d' mc' ms') (own := M.1.cls) (index := idx) (bytes := M'.2.1) (maxL := M'.2.2.1) (ws' := lwg) as.length c1.hts hG (by unfold wsM; rw [hret]) rfl rfl (c1.hts _ hini) (c1.hts _ hl) (c1.hts _ hi) hnm ⟨h1, h2, h3⟩ (room_ok h4 hdd c1.hfr c1.hlo mc' ms')
  refine G_run c1 c2 (as := Value.ref (b0 + o) :: as.map (enc b0)) (va_runI (As := as.map (enc b0)) (rest := st.map (enc b0)) ⟨c1.hx, c1.hb, c1.hml, c1.hown, c1.hts⟩ (hS l b0 D cA X) cw ⟨QcM_blind, fun U hU hW => ⟨by rw [List.map_cons]; rfl, by rw [hU]; exact c2.1, by rw [hU]; exact c2.2.1, c1.hK.moved hW.alike, (c1.hX.moved hW.alike).kept (by rw [hU]; exact c2.2.2.1.2.1 _ (Nat.lt_of_lt_of_le c1.hXb c1.hb0) (by show ¬ b0 ≤ X.1; have := c1.hXb; omega)), c1.hXb, c1.hXW.moved hW⟩⟩ rfl (by simp) c2.2.2.2.1 (by simp [enc]) (lv_room (by rw [cat_enc]; exact hcat)) hd ⟨by omega, by omega⟩) k
theorem G_callN {M : MD} {d mc ms pc : Nat} {ls st : List PV} {w : List KD} {m : Nat → Nat → Int} {Q : Ps} {M' : MD} {d' mc' ms' idx o : Nat} (as : List PV) {st0 : List PV} {Q' : Ps} (hC : CNk M.1.cls idx M' as.length) (hd : decode M.2.1 pc = .ok (.invokespecial idx, 3)) (hst : st0 = as.reverse ++ rV o :: st) (hcat : okCat st 8) (hdd : d' + 1 ≤ d) (hS : Sp M' d' mc' ms' (rV o :: as) (w, m) Q') (k : ∀ r h', Q' r h' → G M d mc ms (pc + 3) ls (r.toList ++ st) h' Q) : G M d (mc' + mc) (ms' + ms) pc ls st0 (w, m) Q := by
  intro l b0 D cA X p e R s mm args below meth c H locs cells slots ls' c1 c2
  subst hst
  obtain ⟨⟨q, hq, e1, e2, e3⟩, hG, hi, hini, hnm, hret, h1, h2, h3, h4⟩ := hC
  have hl := c1.hXW.1 q hq
  rw [← e1, ← e2, ← e3] at hl
  have hce := c1.hce
  have hsl := c1.hsl
  have cw := va_cnB (R := R) (rm := roomD d' mc' ms') (own := M.1.cls) (index := idx) (y := M'.1) (host := M.1.cls) (bytes := M'.2.1) (maxL := M'.2.2.1) (ret := none) (ws' := lwg) as.length c1.hts hG (by unfold wsM; rw [hret]) rfl rfl hl (c1.hts _ hini) ⟨h1, h2, h3⟩ (room_ok h4 hdd c1.hfr c1.hlo mc' ms')
  refine G_run c1 c2 (as := Value.ref (b0 + o) :: as.map (enc b0)) (va_runIN (As := as.map (enc b0)) (rest := st.map (enc b0)) ⟨c1.hx, c1.hb, c1.hml, c1.hown, c1.hts⟩ (hS l b0 D cA X) ⟨cw, hnm, c1.hts _ hi⟩ ⟨QcM_blind, fun U hU hW => ⟨by rw [List.map_cons]; rfl, by rw [hU]; exact c2.1, by rw [hU]; exact c2.2.1, c1.hK.moved hW.alike, (c1.hX.moved hW.alike).kept (by rw [hU]; exact c2.2.2.1.2.1 _ (Nat.lt_of_lt_of_le c1.hXb c1.hb0) (by show ¬ b0 ≤ X.1; have := c1.hXb; omega)), c1.hXb, c1.hXW.moved hW⟩⟩ rfl (by simp) c2.2.2.2.1 (by simp [enc]) (lv_room (by rw [cat_enc]; exact hcat)) hd ⟨by omega, by omega⟩) k
theorem G_obj {M : MD} {d mc ms pc : Nat} {ls st : List PV} {w : List KD} {m : Nat → Nat → Int} {Q : Ps} {idx o : Nat} (hd : decode M.2.1 pc = .ok (.invokespecial idx, 3)) (hl : Cond.methodLink M.1.cls idx objectInit ∈ lwg) (hi : Cond.instanceMethod objectInit ∈ lwg) (hc : Cond.code objectInit ⟨#[0xb1]⟩ 1 none ∈ lwg) (hcat : okCat st 8) (hdd : 1 ≤ d) (k : G M d mc ms (pc + 3) ls st (w, m) Q) : G M d mc ms pc ls (rV o :: st) (w, m) Q := by
  intro l b0 D cA X p e R s mm args below meth c H locs cells slots ls' c1 c2
  have hfr := c1.hfr
  have hlo := c1.hlo
  have hcat' : (st.map pcat).sum ≤ 8 := hcat
  exact W.objInit c1.hx c1.hb c1.hown (c1.hts _ hl) (c1.hts _ hi) (c1.hts _ hc) rfl (by rw [c1.hml]; exact c2.2.2.2.1) rfl hd (by omega) (by rw [cat_enc]; show 2 * 0 + _ + 12 ≤ _; omega) (k l b0 D cA X p e R s mm args below meth c H locs cells slots ls' c1 c2)
def cpm (m : Nat → Nat → Int) (a0 a n : Nat) : Nat → Nat → Int := fun a' j => if a' = a ∧ j < n then m a0 j else m a' j
theorem cpm_off (m : Nat → Nat → Int) {a0 a n a' : Nat} (h : a' ≠ a) : cpm m a0 a n a' = m a' := by
  funext j
  simp [cpm, h]
theorem G_acopyi {M : MD} {d mc ms pc : Nat} {ls st : List PV} {w : List KD} {m : Nat → Nat → Int} {Q : Ps} {idx a0 a n n0 n1 : Nat} {rs0 rs1 : List Int} (hd : decode M.2.1 pc = .ok (.invokestatic idx, 3)) (hl : Cond.methodLink M.1.cls idx arraycopyName ∈ lwg) (hna : Cond.native arraycopyName ∈ lwg) (hsta : Cond.static arraycopyName ∈ lwg) (hini : Cond.initialized "java/lang/System" ∈ lwg) (hw0 : w[a0]? = some (1, n0, rs0)) (hw : w[a]? = some (1, n1, rs1)) (hn0 : n ≤ n0) (hn1 : n ≤ n1) (hb : n1 < 2147483648) (hcat : okCat st 8) (hdd : 1 ≤ d) (k : G M d mc ms (pc + 3) ls st (w, cpm m a0 a n) Q) : G M d mc ms pc ls (iV (n : Int) :: iV 0 :: rV a :: iV 0 :: rV a0 :: st) (w, m) Q := by
  intro l b0 D cA X p e R s mm args below meth c H locs cells slots ls' c1 c2
  have hfr := c1.hfr
  have hlo := c1.hlo
  have hcat' : (st.map pcat).sum ≤ 8 := hcat
  have hnn : (Int32.ofInt (n : Int)).toNatClampNeg = n := by rw [oi_nat (by omega) (by omega)]; rfl
  have hni : (Int32.ofInt (n : Int)).toInt = n := oi_toInt (by omega)
  have hng : ¬ Int32.ofInt (n : Int) < 0 := by rw [← oi_0, oi_lt (by omega) (by decide)]; omega
  intro T hT XT
  have hc0 : H[b0 + a0]? = some (vp_cell (cA 0) (n0, .inl fun j => Int32.ofInt (m a0 j))) := c2.1 a0 _ (wsOf_at (h := (w, m)) hw0)
  have hc1 : H[b0 + a]? = some (vp_cell (cA 0) (n1, .inl fun j => Int32.ofInt (m a j))) := c2.1 a _ (wsOf_at (h := (w, m)) hw)
  obtain ⟨-, k0, hk0, cm0, hkk0⟩ := (c1.hK.2 0 _ rfl).1 n0 (fun j => .int (Int32.ofInt (m a0 j)))
  obtain ⟨-, k1, hk1, cm1, hkk1⟩ := (c1.hK.2 0 _ rfl).1 n1 (fun j => .int (Int32.ofInt (m a j)))
  have hfit : ∀ i, i < n → fits .int (.int (Int32.ofInt (m a0 i))) = true := fun i hi => rfl
  obtain ⟨vm', X', step⟩ := XT.arraycopy c1.hx c1.hown (c1.hts _ hl) (c1.hts _ hna) (c1.hts _ hsta) (c1.hts _ hini) (src := b0 + a0) (dst := b0 + a) (cs := vp_cell (cA 0) (n0, .inl fun j => Int32.ofInt (m a0 j))) (cd := vp_cell (cA 0) (n1, .inl fun j => Int32.ofInt (m a j))) (srcPos := 0) (destPos := 0) (n := Int32.ofInt (n : Int)) (by rw [hT]; exact hc0) (by rw [hT]; exact hc1)
    (fun _ h => by cases h) (fun _ h => by cases h) (fun h => by cases h) (fun h => by cases h) hk0 hk1 hkk0 hkk1 (by simp [refKind]) (by decide) (by decide) hng
    (by rw [hni]; show ¬ (0 : Int) + _ > ((arrV _ n0 (fun j => .int (Int32.ofInt (m a0 j)))).slots.size : Int); rw [arrV_size]; omega)
    (by rw [hni]; show ¬ (0 : Int) + _ > ((arrV _ n1 (fun j => .int (Int32.ofInt (m a j)))).slots.size : Int); rw [arrV_size]; omega)
    (fun vm₁ _ i hi => by
      have e : (vp_cell (cA 0) (n0, .inl fun j => Int32.ofInt (m a0 j))).slots.getD ((0 : Int32).toNatClampNeg + i) .null = .int (Int32.ofInt (m a0 i)) := by
        show (arrV _ n0 (fun j => .int (Int32.ofInt (m a0 j)))).slots.getD _ _ = _
        rw [show (0 : Int32).toNatClampNeg = 0 from rfl, Nat.zero_add, Array.getD_eq_getD_getElem?, arrV_read _ _ (by omega)]
        rfl
      refine ⟨?_, ?_⟩
      · rw [e]
        exact hfit i (by omega)
      · rw [e]
        exact trivial)
    (g := F0 mm pc ls' ((iV (n : Int) :: iV 0 :: rV a :: iV 0 :: rV a0 :: st).map (enc b0))) rfl (by rw [c1.hml]; exact c2.2.2.2.1) (rest := st.map (enc b0)) rfl (by rw [c1.hb]; exact hd) (by omega) (by rw [cat_enc]; have h20 : nativeFrameWords "java/lang/System" "arraycopy" 5 ≤ 20 := (by decide); show 2 * 0 + _ + (nativeFrameWords "java/lang/System" "arraycopy" 5 + 11) ≤ _; omega)
  have e1 : copied (vp_cell (cA 0) (n0, .inl fun j => Int32.ofInt (m a0 j))) (vp_cell (cA 0) (n1, .inl fun j => Int32.ofInt (m a j))) 0 0 (Int32.ofInt (n : Int)) = vp_cell (cA 0) (n1, .inl fun j => Int32.ofInt (cpm m a0 a n a j)) := by
    have e2 := va_copied (fun z => .int z) (cA 0) (cA 0) (n0 := n0) (n1 := n1) (sp := 0) (dp := 0) (n := n) (fun j => Int32.ofInt (m a0 j)) (fun j => Int32.ofInt (m a j)) (by omega)
    have e3 : copied (vp_cell (cA 0) (n0, .inl fun j => Int32.ofInt (m a0 j))) (vp_cell (cA 0) (n1, .inl fun j => Int32.ofInt (m a j))) 0 0 (Int32.ofInt (n : Int)) = (arrV (cA 0) n1 fun j => Value.int (Int32.ofInt (m a j))).storeRun 0 ((arrV (cA 0) n0 fun j => Value.int (Int32.ofInt (m a0 j))).stretch 0 (Int32.ofInt (n : Int)).toNatClampNeg) := rfl
    rw [e3, hnn, e2]
    show arrV _ _ _ = arrV _ _ (fun j => Value.int (Int32.ofInt (cpm m a0 a n a j)))
    congr 1
    funext j
    unfold va_cpy cpm
    by_cases hj : j < n <;> simp [hj]
  rw [e1] at X' step
  have hl0 : b0 + a < H.size := (Array.getElem?_eq_some_iff.mp hc1).1
  have oq : ∀ q : Nat, q ≠ b0 + a → (H.setIfInBounds (b0 + a) (vp_cell (cA 0) (n1, .inl fun j => Int32.ofInt (cpm m a0 a n a j))))[q]? = H[q]? := fun q hq => by simp [Array.getElem?_setIfInBounds, Ne.symm hq]
  have c2' := c2.put (H1 := H.setIfInBounds (b0 + a) (vp_cell (cA 0) (n1, .inl fun j => Int32.ofInt (cpm m a0 a n a j)))) (kk := 0) (m' := cpm m a0 a n) (List.getElem?_eq_some_iff.mp hw).1 hw rfl (fun _ _ => rfl) (fun a' h => cpm_off m h) (by simp) oq (show (H.setIfInBounds (b0 + a) _)[b0 + a]? = some _ by simp [Array.getElem?_setIfInBounds, hl0])
  obtain ⟨t, a1, b1⟩ := k l b0 D cA X p e R s mm args below meth c _ _ cells slots ls' c1 ⟨c2'.1, c2'.2.1, ⟨c2'.2.2.1.1, c2'.2.2.1.2.1, fun q hq => by
      rcases List.mem_append.mp hq with h | h
      · exact c2.2.2.1.2.2 q h
      · obtain ⟨z, -, hz⟩ := List.mem_map.mp h
        rw [← hz]
        exact Nat.le_add_right _ _⟩, c2'.2.2.2⟩ _ (by rw [← hT]; rfl) X'
  exact ⟨t, step t a1, b1⟩
theorem fitB {x : Int} (hx : -128 ≤ x ∧ x < 128) : fits .byte (.int (Int32.ofInt x)) = true := by
  have h := narB hx
  unfold fits
  rw [narrow_byte] at h
  simp only [Value.int.injEq] at h
  simp [h]
  rw [show (-128 : Int32) = Int32.ofInt (-128) from rfl, show (127 : Int32) = Int32.ofInt 127 from rfl, oi_le (by decide) (by omega), oi_le (by omega) (by decide)]
  omega
theorem G_acopyb {M : MD} {d mc ms pc : Nat} {ls st : List PV} {w : List KD} {m : Nat → Nat → Int} {Q : Ps} {idx a0 a n n0 n1 : Nat} {rs0 rs1 : List Int} (hd : decode M.2.1 pc = .ok (.invokestatic idx, 3)) (hl : Cond.methodLink M.1.cls idx arraycopyName ∈ lwg) (hna : Cond.native arraycopyName ∈ lwg) (hsta : Cond.static arraycopyName ∈ lwg) (hini : Cond.initialized "java/lang/System" ∈ lwg) (hw0 : w[a0]? = some (2, n0, rs0)) (hw : w[a]? = some (2, n1, rs1)) (hn0 : n ≤ n0) (hn1 : n ≤ n1) (hb : n1 < 2147483648) (hx : ∀ j, j < n → -128 ≤ m a0 j ∧ m a0 j < 128) (hcat : okCat st 8) (hdd : 1 ≤ d) (k : G M d mc ms (pc + 3) ls st (w, cpm m a0 a n) Q) : G M d mc ms pc ls (iV (n : Int) :: iV 0 :: rV a :: iV 0 :: rV a0 :: st) (w, m) Q := by
  intro l b0 D cA X p e R s mm args below meth c H locs cells slots ls' c1 c2
  have hfr := c1.hfr
  have hlo := c1.hlo
  have hcat' : (st.map pcat).sum ≤ 8 := hcat
  have hnn : (Int32.ofInt (n : Int)).toNatClampNeg = n := by rw [oi_nat (by omega) (by omega)]; rfl
  have hni : (Int32.ofInt (n : Int)).toInt = n := oi_toInt (by omega)
  have hng : ¬ Int32.ofInt (n : Int) < 0 := by rw [← oi_0, oi_lt (by omega) (by decide)]; omega
  intro T hT XT
  have hc0 : H[b0 + a0]? = some (vp_cell (cA 1) (n0, .inl fun j => Int32.ofInt (m a0 j))) := c2.1 a0 _ (wsOf_at (h := (w, m)) hw0)
  have hc1 : H[b0 + a]? = some (vp_cell (cA 1) (n1, .inl fun j => Int32.ofInt (m a j))) := c2.1 a _ (wsOf_at (h := (w, m)) hw)
  obtain ⟨-, k0, hk0, cm0, hkk0⟩ := (c1.hK.2 1 _ rfl).1 n0 (fun j => .int (Int32.ofInt (m a0 j)))
  obtain ⟨-, k1, hk1, cm1, hkk1⟩ := (c1.hK.2 1 _ rfl).1 n1 (fun j => .int (Int32.ofInt (m a j)))
  have hfit : ∀ i, i < n → fits .byte (.int (Int32.ofInt (m a0 i))) = true := fun i hi => fitB (hx _ (by omega))
  obtain ⟨vm', X', step⟩ := XT.arraycopy c1.hx c1.hown (c1.hts _ hl) (c1.hts _ hna) (c1.hts _ hsta) (c1.hts _ hini) (src := b0 + a0) (dst := b0 + a) (cs := vp_cell (cA 1) (n0, .inl fun j => Int32.ofInt (m a0 j))) (cd := vp_cell (cA 1) (n1, .inl fun j => Int32.ofInt (m a j))) (srcPos := 0) (destPos := 0) (n := Int32.ofInt (n : Int)) (by rw [hT]; exact hc0) (by rw [hT]; exact hc1)
    (fun _ h => by cases h) (fun _ h => by cases h) (fun h => by cases h) (fun h => by cases h) hk0 hk1 hkk0 hkk1 (by simp [refKind]) (by decide) (by decide) hng
    (by rw [hni]; show ¬ (0 : Int) + _ > ((arrV _ n0 (fun j => .int (Int32.ofInt (m a0 j)))).slots.size : Int); rw [arrV_size]; omega)
    (by rw [hni]; show ¬ (0 : Int) + _ > ((arrV _ n1 (fun j => .int (Int32.ofInt (m a j)))).slots.size : Int); rw [arrV_size]; omega)
    (fun vm₁ _ i hi => by
      have e : (vp_cell (cA 1) (n0, .inl fun j => Int32.ofInt (m a0 j))).slots.getD ((0 : Int32).toNatClampNeg + i) .null = .int (Int32.ofInt (m a0 i)) := by
        show (arrV _ n0 (fun j => .int (Int32.ofInt (m a0 j)))).slots.getD _ _ = _
        rw [show (0 : Int32).toNatClampNeg = 0 from rfl, Nat.zero_add, Array.getD_eq_getD_getElem?, arrV_read _ _ (by omega)]
        rfl
      refine ⟨?_, ?_⟩
      · rw [e]
        exact hfit i (by omega)
      · rw [e]
        exact trivial)
    (g := F0 mm pc ls' ((iV (n : Int) :: iV 0 :: rV a :: iV 0 :: rV a0 :: st).map (enc b0))) rfl (by rw [c1.hml]; exact c2.2.2.2.1) (rest := st.map (enc b0)) rfl (by rw [c1.hb]; exact hd) (by omega) (by rw [cat_enc]; have h20 : nativeFrameWords "java/lang/System" "arraycopy" 5 ≤ 20 := (by decide); show 2 * 0 + _ + (nativeFrameWords "java/lang/System" "arraycopy" 5 + 11) ≤ _; omega)
  have e1 : copied (vp_cell (cA 1) (n0, .inl fun j => Int32.ofInt (m a0 j))) (vp_cell (cA 1) (n1, .inl fun j => Int32.ofInt (m a j))) 0 0 (Int32.ofInt (n : Int)) = vp_cell (cA 1) (n1, .inl fun j => Int32.ofInt (cpm m a0 a n a j)) := by
    have e2 := va_copied (fun z => .int z) (cA 1) (cA 1) (n0 := n0) (n1 := n1) (sp := 0) (dp := 0) (n := n) (fun j => Int32.ofInt (m a0 j)) (fun j => Int32.ofInt (m a j)) (by omega)
    have e3 : copied (vp_cell (cA 1) (n0, .inl fun j => Int32.ofInt (m a0 j))) (vp_cell (cA 1) (n1, .inl fun j => Int32.ofInt (m a j))) 0 0 (Int32.ofInt (n : Int)) = (arrV (cA 1) n1 fun j => Value.int (Int32.ofInt (m a j))).storeRun 0 ((arrV (cA 1) n0 fun j => Value.int (Int32.ofInt (m a0 j))).stretch 0 (Int32.ofInt (n : Int)).toNatClampNeg) := rfl
    rw [e3, hnn, e2]
    show arrV _ _ _ = arrV _ _ (fun j => Value.int (Int32.ofInt (cpm m a0 a n a j)))
    congr 1
    funext j
    unfold va_cpy cpm
    by_cases hj : j < n <;> simp [hj]
  rw [e1] at X' step
  have hl0 : b0 + a < H.size := (Array.getElem?_eq_some_iff.mp hc1).1
  have oq : ∀ q : Nat, q ≠ b0 + a → (H.setIfInBounds (b0 + a) (vp_cell (cA 1) (n1, .inl fun j => Int32.ofInt (cpm m a0 a n a j))))[q]? = H[q]? := fun q hq => by simp [Array.getElem?_setIfInBounds, Ne.symm hq]
  have c2' := c2.put (H1 := H.setIfInBounds (b0 + a) (vp_cell (cA 1) (n1, .inl fun j => Int32.ofInt (cpm m a0 a n a j)))) (kk := 0) (m' := cpm m a0 a n) (List.getElem?_eq_some_iff.mp hw).1 hw rfl (fun _ _ => rfl) (fun a' h => cpm_off m h) (by simp) oq (show (H.setIfInBounds (b0 + a) _)[b0 + a]? = some _ by simp [Array.getElem?_setIfInBounds, hl0])
  obtain ⟨t, a1, b1⟩ := k l b0 D cA X p e R s mm args below meth c _ _ cells slots ls' c1 ⟨c2'.1, c2'.2.1, ⟨c2'.2.2.1.1, c2'.2.2.1.2.1, fun q hq => by
      rcases List.mem_append.mp hq with h | h
      · exact c2.2.2.1.2.2 q h
      · obtain ⟨z, -, hz⟩ := List.mem_map.mp h
        rw [← hz]
        exact Nat.le_add_right _ _⟩, c2'.2.2.2⟩ _ (by rw [← hT]; rfl) X'
  exact ⟨t, step t a1, b1⟩
def zmn (m : Nat → Nat → Int) (o n : Nat) : Nat → Nat → Int := fun a j => if o ≤ a ∧ a ≤ o + n then 0 else m a j
theorem G_mna {M : MD} {d mc ms pc : Nat} {ls st : List PV} {w : List KD} {m : Nat → Nat → Int} {Q : Ps} {idx n kk o : Nat} (hd : decode M.2.1 pc = .ok (.multianewarray idx 2, 4)) (hcl : Cond.classLink M.1.cls idx ("[" ++ (FieldType.array .int).toString) ∈ lwg) (harr : Cond.arrayClass .int ∈ lwg) (hn : n ≤ 1000) (hk : kk ≤ 1000) (ho : w.length = o) (k : G M d mc ms (pc + 4) ls (rV o :: st) (w ++ ((6, n, (List.range n).map fun i => ((o + 1 + i : Nat) : Int)) :: List.replicate n (1, kk, [])), zmn m o n) Q) : G M d (mc + (1 + n)) (ms + (n + n * kk)) pc ls (iV (kk : Int) :: iV (n : Int) :: st) (w, m) Q := by
  intro l b0 D cA X p e R s mm args below meth c H locs cells slots ls' c1 c2
  have hts := c1.hts
  subst ho
  have hce := c1.hce
  have hsl := c1.hsl
  have hnn : (Int32.ofInt (n : Int)).toNatClampNeg = n := by rw [oi_nat (by omega) (by omega)]; rfl
  have hkk : (Int32.ofInt (kk : Int)).toNatClampNeg = kk := by rw [oi_nat (by omega) (by omega)]; rfl
  have hng : ¬ Int32.ofInt (n : Int) < 0 := by rw [← oi_0, oi_lt (by omega) (by decide)]; omega
  have hkg : ¬ Int32.ofInt (kk : Int) < 0 := by rw [← oi_0, oi_lt (by omega) (by decide)]; omega
  intro T hT Xs
  obtain ⟨vm₁, cA', comp, -, fA, fC, hO, -, X', step⟩ := Xs.multianewarray2F c1.hx c1.hown (hts _ hcl) c1.hXW.2 (hts _ harr) (g := F0 mm pc ls' ((iV (kk : Int) :: iV (n : Int) :: st).map (enc b0))) rfl (by rw [c1.hb]; exact hd) rfl hng hkg (by rw [hnn]; omega) (by rw [hkk]; simp [componentBytes]; omega) (by rw [hkk]; omega) rfl rfl (by rw [hnn]; omega) (by rw [hnn, hkk]; omega)
  have hcA : cA' = cA 5 := by
    have h1 := (c1.hK.2 5 _ rfl).2
    exact Option.some.inj (fA.symm.trans h1)
  have hcI : comp = cA 0 := by
    have h1 := (c1.hK.2 0 _ rfl).2
    have h3 : s.vm.findClass ("[" ++ FieldType.toString .int) = some comp := fC
    exact Option.some.inj (h3.symm.trans h1)
  subst hcA
  subst hcI
  rw [hnn, hkk] at X' step
  have hH : H.size = b0 + w.length := c2.2.1
  generalize hF : Jvm.Free.Multi.fill (T.setVm vm₁) (cA 5) (cA 0) n kk (defaultValue .int) n = F at X' step
  have hTh : (T.setVm vm₁).heap = H := hT
  obtain ⟨f1, f2, -, -⟩ := Jvm.Free.Multi.fill_facts (T.setVm vm₁) (cA 5) (cA 0) n kk (defaultValue .int) n
  rw [hF, hTh] at f1 f2
  have hold : ∀ x : Nat, x < H.size → F.heap[x]? = H[x]? := fun x hx => by
    have := Jvm.Free.Multi.fill_old (T.setVm vm₁) (cA 5) (cA 0) n kk (defaultValue .int) (a := x) (by rw [hTh]; exact hx) n
    rw [hF, hTh] at this
    exact this
  have hrow : ∀ j : Nat, j < n → F.heap[H.size + 1 + j]? = some (arrV (cA 0) kk (fun _ => .int 0)) := fun j hj => by
    have := Jvm.Free.Multi.fill_inner (T.setVm vm₁) (cA 5) (cA 0) n kk (defaultValue .int) n j hj
    rw [hF, hTh] at this
    rw [this, ← arrV_new]
    rfl
  have c1' : C1 M d mc ms b0 D cA X p R s mm args meth c (cells + 1 + n) (slots + n + n * kk) := ⟨c1.hx, c1.hb, c1.hml, c1.hr, c1.hown, hts, c1.hlk, c1.hnm, c1.hfr, c1.hlo, by omega, by omega, c1.hK, c1.hX, c1.hXb, c1.hb0, c1.hXW⟩
  have k1 := k l b0 D cA X p e R s mm args below meth c F.heap locs (cells + 1 + n) (slots + n + n * kk) ls' c1' ⟨?_, ?_, ?_, c2.2.2.2⟩
  · rw [show cells + 1 + n + mc = cells + (mc + (1 + n)) by omega, show slots + n + n * kk + ms = slots + (ms + (n + n * kk)) by omega] at k1
    have e0 : enc b0 (rV w.length) = Value.ref T.heap.size := by rw [hT, hH]; rfl
    simp only [List.map_cons, e0] at k1
    obtain ⟨t, a1, b1⟩ := k1 F rfl X'
    exact ⟨t, step t a1, b1⟩
  · intro i q hq
    obtain ⟨kd, hkd, rfl⟩ := wsOf_inv hq
    by_cases hi : i < w.length
    · have hkd' : w[i]? = some kd := by
        have h2 : (w ++ ((6, n, (List.range n).map fun i => ((w.length + 1 + i : Nat) : Int)) :: List.replicate n (1, kk, [])))[i]? = some kd := hkd
        rw [List.getElem?_append_left hi] at h2
        exact h2
      have h3 := c2.1 i _ (wsOf_at (h := (w, m)) hkd')
      have h4 : cellE b0 cA m i kd = cellE b0 cA (zmn m w.length n) i kd := by
        have : zmn m w.length n i = m i := by
          funext j
          unfold zmn
          rw [if_neg (by omega)]
        unfold cellE objF
        simp only [this]
      show va_at D vwCl (b0 + i, cellE b0 cA (zmn m w.length n) i kd) F.heap
      rw [← h4]
      exact h3.kept (hold _ (by rw [hH]; show b0 + i < _; omega))
    · have h2 : (w ++ ((6, n, (List.range n).map fun i => ((w.length + 1 + i : Nat) : Int)) :: List.replicate n (1, kk, [])))[i]? = some kd := hkd
      rw [List.getElem?_append_right (by omega)] at h2
      by_cases hi2 : i = w.length
      · subst hi2
        rw [Nat.sub_self] at h2
        cases h2
        show F.heap[b0 + w.length]? = some (vp_cell (cA 5) (n, .inr (.inr (.inr (.inr fun j => rfO b0 (((List.range n).map fun i => ((w.length + 1 + i : Nat) : Int)).getD j (-1)))))))
        rw [← hH, f2, vp_cell_q, vr_outer]
        congr 2
        funext j
        congr 1
        by_cases hj : j < n
        · rw [if_pos hj, List.getD_eq_getElem?_getD, List.getElem?_map, List.getElem?_range hj]
          show _ = rfO b0 ((w.length + 1 + j : Nat) : Int)
          rw [rfO_nat, hH]
          congr 1
          omega
        · rw [if_neg hj, List.getD_eq_getElem?_getD, List.getElem?_eq_none (by simp; omega)]
          rfl
      · obtain ⟨j, hj⟩ : ∃ j, i - w.length = j + 1 := ⟨i - w.length - 1, by omega⟩
        rw [hj, List.getElem?_cons_succ, List.getElem?_replicate] at h2
        split at h2
        · rename_i hjn
          cases h2
          show F.heap[b0 + i]? = some (arrV (cA 0) kk (fun j => .int (Int32.ofInt (zmn m w.length n i j))))
          rw [show b0 + i = H.size + 1 + j by rw [hH]; omega, hrow j hjn]
          congr 2
          funext x
          unfold zmn
          rw [if_pos (by omega)]
          rfl
        · cases h2
  · rw [f1, hH]
    simp
    omega
  · exact ⟨Nat.le_trans c2.2.2.1.1 (by rw [f1]; omega), fun x h1 h2 => (hold x (Nat.lt_of_lt_of_le h1 c2.2.2.1.1)).trans (c2.2.2.1.2.1 x h1 h2), c2.2.2.1.2.2⟩
theorem G_f2raw {M : MD} {d mc ms pc : Nat} {ls st : List PV} {w : List KD} {m : Nat → Nat → Int} {Q : Ps} {idx : Nat} {b : UInt32} (hd : decode M.2.1 pc = .ok (.invokestatic idx, 3)) (h1 : Cond.methodLink M.1.cls idx ⟨"java/lang/Float", "floatToRawIntBits", "(F)I"⟩ ∈ lwg) (h2 : Cond.native ⟨"java/lang/Float", "floatToRawIntBits", "(F)I"⟩ ∈ lwg) (h3 : Cond.static ⟨"java/lang/Float", "floatToRawIntBits", "(F)I"⟩ ∈ lwg) (h4 : Cond.initialized "java/lang/Float" ∈ lwg) (hcat : okCat st 8) (hdd : 1 ≤ d) (k : G M d mc ms (pc + 3) ls (iV b.toInt32.toInt :: st) (w, m) Q) : G M d mc ms pc ls (vV (.float b) :: st) (w, m) Q := by
  intro l b0 D cA X p e R s mm args below meth c H locs cells slots ls' c1 c2
  have hfr := c1.hfr
  have hlo := c1.hlo
  have hcat' : (st.map pcat).sum ≤ 8 := hcat
  have k1 := k l b0 D cA X p e R s mm args below meth c H locs cells slots ls' c1 c2
  refine vn_f2i c1.hx c1.hb (by rw [c1.hml]; exact c2.2.2.2.1.symm) c1.hown (c1.hts _ h1) (c1.hts _ h2) (c1.hts _ h3) (c1.hts _ h4) (by omega) (by rw [cat_enc]; omega) hd ?_
  rw [← oi_eta b.toInt32]
  exact k1
theorem G_d2raw {M : MD} {d mc ms pc : Nat} {ls st : List PV} {w : List KD} {m : Nat → Nat → Int} {Q : Ps} {idx : Nat} {b : UInt64} (hd : decode M.2.1 pc = .ok (.invokestatic idx, 3)) (h1 : Cond.methodLink M.1.cls idx ⟨"java/lang/Double", "doubleToRawLongBits", "(D)J"⟩ ∈ lwg) (h2 : Cond.native ⟨"java/lang/Double", "doubleToRawLongBits", "(D)J"⟩ ∈ lwg) (h3 : Cond.static ⟨"java/lang/Double", "doubleToRawLongBits", "(D)J"⟩ ∈ lwg) (h4 : Cond.initialized "java/lang/Double" ∈ lwg) (hcat : okCat st 8) (hdd : 1 ≤ d) (k : G M d mc ms (pc + 3) ls (lV b.toInt64.toInt :: st) (w, m) Q) : G M d mc ms pc ls (vV (.double b) :: st) (w, m) Q := by
  intro l b0 D cA X p e R s mm args below meth c H locs cells slots ls' c1 c2
  have hfr := c1.hfr
  have hlo := c1.hlo
  have hcat' : (st.map pcat).sum ≤ 8 := hcat
  have k1 := k l b0 D cA X p e R s mm args below meth c H locs cells slots ls' c1 c2
  refine vn_d2l c1.hx c1.hb (by rw [c1.hml]; exact c2.2.2.2.1.symm) c1.hown (c1.hts _ h1) (c1.hts _ h2) (c1.hts _ h3) (c1.hts _ h4) (by omega) (by rw [cat_enc]; omega) hd ?_
  rw [← Int64.ofInt_toInt b.toInt64]
  exact k1
end
section
theorem tb_1 : ∀ x ∈ tables_1_1, x ∈ lw_tbl := fun x hx => by
  unfold lw_tbl tables_1
  simp only [List.mem_append]
  simp only [hx, true_or, or_true]
theorem tb_2 : ∀ x ∈ tables_1_2, x ∈ lw_tbl := fun x hx => by
  unfold lw_tbl tables_1
  simp only [List.mem_append]
  simp only [hx, true_or, or_true]
theorem tb_3 : ∀ x ∈ tables_1_3, x ∈ lw_tbl := fun x hx => by
  unfold lw_tbl tables_1
  simp only [List.mem_append]
  simp only [hx, true_or, or_true]
theorem tb_4 : ∀ x ∈ tables_1_4, x ∈ lw_tbl := fun x hx => by
  unfold lw_tbl tables_1
  simp only [List.mem_append]
  simp only [hx, true_or, or_true]
theorem tb_5 : ∀ x ∈ tables_1_5, x ∈ lw_tbl := fun x hx => by
  unfold lw_tbl tables_1
  simp only [List.mem_append]
  simp only [hx, true_or, or_true]
theorem tb_6 : ∀ x ∈ tables_1_6, x ∈ lw_tbl := fun x hx => by
  unfold lw_tbl tables_1
  simp only [List.mem_append]
  simp only [hx, true_or, or_true]
theorem tb_7 : ∀ x ∈ tables_1_7, x ∈ lw_tbl := fun x hx => by
  unfold lw_tbl tables_1
  simp only [List.mem_append]
  simp only [hx, true_or, or_true]
theorem tp_1 : ∀ x ∈ k2_sels lw_privs_1, x ∈ lw_tbl := fun x hx => by
  unfold lw_tbl
  refine List.mem_append_left _ ?_
  obtain ⟨q, hq, rfl⟩ := List.mem_map.mp hx
  refine List.mem_map.mpr ⟨q, ?_, rfl⟩
  unfold lw_privs
  simp only [List.mem_append]
  simp only [hq, true_or, or_true]
theorem tp_2 : ∀ x ∈ k2_sels lw_privs_2, x ∈ lw_tbl := fun x hx => by
  unfold lw_tbl
  refine List.mem_append_left _ ?_
  obtain ⟨q, hq, rfl⟩ := List.mem_map.mp hx
  refine List.mem_map.mpr ⟨q, ?_, rfl⟩
  unfold lw_privs
  simp only [List.mem_append]
  simp only [hq, true_or, or_true]
theorem tp_3 : ∀ x ∈ k2_sels lw_privs_3, x ∈ lw_tbl := fun x hx => by
  unfold lw_tbl
  refine List.mem_append_left _ ?_
  obtain ⟨q, hq, rfl⟩ := List.mem_map.mp hx
  refine List.mem_map.mpr ⟨q, ?_, rfl⟩
  unfold lw_privs
  simp only [List.mem_append]
  simp only [hq, true_or, or_true]
theorem tp_4 : ∀ x ∈ k2_sels lw_privs_4, x ∈ lw_tbl := fun x hx => by
  unfold lw_tbl
  refine List.mem_append_left _ ?_
  obtain ⟨q, hq, rfl⟩ := List.mem_map.mp hx
  refine List.mem_map.mpr ⟨q, ?_, rfl⟩
  unfold lw_privs
  simp only [List.mem_append]
  simp only [hq, true_or, or_true]
theorem tp_5 : ∀ x ∈ k2_sels lw_privs_5, x ∈ lw_tbl := fun x hx => by
  unfold lw_tbl
  refine List.mem_append_left _ ?_
  obtain ⟨q, hq, rfl⟩ := List.mem_map.mp hx
  refine List.mem_map.mpr ⟨q, ?_, rfl⟩
  unfold lw_privs
  simp only [List.mem_append]
  simp only [hq, true_or, or_true]
theorem tp_6 : ∀ x ∈ k2_sels lw_privs_6, x ∈ lw_tbl := fun x hx => by
  unfold lw_tbl
  refine List.mem_append_left _ ?_
  obtain ⟨q, hq, rfl⟩ := List.mem_map.mp hx
  refine List.mem_map.mpr ⟨q, ?_, rfl⟩
  unfold lw_privs
  simp only [List.mem_append]
  simp only [hq, true_or, or_true]
theorem tp_7 : ∀ x ∈ k2_sels lw_privs_7, x ∈ lw_tbl := fun x hx => by
  unfold lw_tbl
  refine List.mem_append_left _ ?_
  obtain ⟨q, hq, rfl⟩ := List.mem_map.mp hx
  refine List.mem_map.mpr ⟨q, ?_, rfl⟩
  unfold lw_privs
  simp only [List.mem_append]
  simp only [hq, true_or, or_true]
theorem tp_8 : ∀ x ∈ k2_sels lw_privs_8, x ∈ lw_tbl := fun x hx => by
  unfold lw_tbl
  refine List.mem_append_left _ ?_
  obtain ⟨q, hq, rfl⟩ := List.mem_map.mp hx
  refine List.mem_map.mpr ⟨q, ?_, rfl⟩
  unfold lw_privs
  simp only [List.mem_append]
  simp only [hq, true_or, or_true]
theorem tp_9 : ∀ x ∈ k2_sels lw_privs_9, x ∈ lw_tbl := fun x hx => by
  unfold lw_tbl
  refine List.mem_append_left _ ?_
  obtain ⟨q, hq, rfl⟩ := List.mem_map.mp hx
  refine List.mem_map.mpr ⟨q, ?_, rfl⟩
  unfold lw_privs
  simp only [List.mem_append]
  simp only [hq, true_or, or_true]
theorem lw_goodIn {ws : List Cond} (h : ∀ w ∈ ws, w ∈ lwg) : GoodIn lwg ws := fun w hw => ⟨h w hw, good_of_word (List.mem_filter.mp (h w hw)).2⟩
theorem u_in_all {C : String} {T : u_T} {N : Nat} (h : ∀ k, k < N → u_lay C T k ∈ lwg) : ∀ x ∈ u_ws C T N, x ∈ lwg := fun x hx => by
  obtain ⟨k, hk, rfl⟩ := List.mem_map.mp hx
  exact h k (List.mem_range.mp hk)
def MK (M' : MD) (n : Nat) : Prop := Cond.initialized M'.1.cls ∈ lwg ∧ Cond.code M'.1 M'.2.1 M'.2.2.1 M'.2.2.2 ∈ lwg ∧ M'.1.cls ≠ "java/lang/invoke/MethodHandle" ∧ M'.1.cls ≠ "java/lang/invoke/VarHandle" ∧ (parseMethodDescriptor M'.1.desc).map (fun d => d.parameters.length) = some n ∧ M'.2.2.1 ≤ 20
theorem MK.wsM {M' : MD} {n : Nat} (h : MK M' n) : ∀ w ∈ wsM M', w ∈ lwg := fun w hw => (List.mem_cons.mp hw).elim (fun e => e ▸ h.2.1) id
def MKV (M' : MD) (n : Nat) : Prop := MK M' n ∧ Cond.instanceMethod M'.1 ∈ lwg ∧ Cond.selects M'.1.cls M'.1 M'.1 ∈ lwg
def MKS (M' : MD) (n : Nat) : Prop := MK M' n ∧ Cond.static M'.1 ∈ lwg
def MKI (M' : MD) (n : Nat) : Prop := MK M' n ∧ Cond.instanceMethod M'.1 ∈ lwg ∧ M'.1.name = "<init>" ∧ M'.2.2.2 = none
theorem CVk.of {own : String} {idx n : Nat} {M' : MD} (h : MKV M' n) (hl : Cond.methodLink own idx M'.1 ∈ lwg) : CVk own idx M' n := by
  obtain ⟨h0, h1, h2⟩ := h
  refine ⟨lw_goodIn (fun w hw => ?_), h0.2.2.1, h0.2.2.2.1, h0.2.2.2.2.1, h0.2.2.2.2.2⟩
  unfold wsV at hw
  rcases List.mem_append.mp hw with hw | hw
  · simp only [List.mem_cons, List.not_mem_nil, or_false] at hw
    rcases hw with rfl | rfl | rfl | rfl
    · exact hl
    · exact h1
    · exact h2
    · exact h0.1
  · exact h0.wsM w hw
theorem CSk.of {own : String} {idx n : Nat} {M' : MD} (h : MKS M' n) (hl : Cond.methodLink own idx M'.1 ∈ lwg) : CSk own idx M' n := ⟨lw_goodIn h.1.wsM, hl, h.2, h.1.1, h.1.2.2.1, h.1.2.2.2.1, h.1.2.2.2.2.1, h.1.2.2.2.2.2⟩
theorem CIk.of {own : String} {idx n : Nat} {M' : MD} (h : MKI M' n) (hl : Cond.methodLink own idx M'.1 ∈ lwg) : CIk own idx M' n := ⟨lw_goodIn h.1.wsM, hl, h.2.1, h.1.1, h.2.2.1, h.2.2.2, h.1.2.2.1, h.1.2.2.2.1, h.1.2.2.2.2.1, h.1.2.2.2.2.2⟩
theorem CNk.of {own : String} {idx n : Nat} {M' : MD} (h : MKI M' n) (q : Nat × String) (hq : q ∈ xwN) (h1 : own = "PathCycle") (h2 : idx = q.1) (h3 : M'.1 = ⟨q.2, "<init>", "()V"⟩) : CNk own idx M' n := ⟨⟨q, hq, h1, h2, h3⟩, lw_goodIn h.1.wsM, h.2.1, h.1.1, h.2.2.1, h.2.2.2, h.1.2.2.1, h.1.2.2.2.1, h.1.2.2.2.2.1, h.1.2.2.2.2.2⟩
theorem nest_in : ∀ q ∈ xwN, Cond.methodLinkNest "PathCycle" q.1 ⟨q.2, "<init>", "()V"⟩ "PathCycle" ∈ lw_tbl := by
  intro q hq
  simp only [xwN, List.mem_cons, List.not_mem_nil, or_false] at hq
  rcases hq with rfl | rfl | rfl | rfl | rfl | rfl | rfl
  · exact tb_1 _ (List.mem_of_getElem? (i := 107) (by decide +kernel))
  · exact tb_1 _ (List.mem_of_getElem? (i := 140) (by decide +kernel))
  · exact tb_1 _ (List.mem_of_getElem? (i := 173) (by decide +kernel))
  · exact tb_1 _ (List.mem_of_getElem? (i := 209) (by decide +kernel))
  · exact tb_2 _ (List.mem_of_getElem? (i := 0) (by decide +kernel))
  · exact tb_2 _ (List.mem_of_getElem? (i := 42) (by decide +kernel))
  · exact tb_2 _ (List.mem_of_getElem? (i := 67) (by decide +kernel))
theorem in_X0 : ∀ x ∈ u_ws RX0 TX0 5, x ∈ lwg := u_in_all fun k hk => match k, hk with
  | 0, _ => mem_lwg (tb_2 _ (List.mem_of_getElem? (i := 79) (by decide +kernel))) rfl
  | 1, _ => mem_lwg (tb_2 _ (List.mem_of_getElem? (i := 81) (by decide +kernel))) rfl
  | 2, _ => mem_lwg (tb_2 _ (List.mem_of_getElem? (i := 83) (by decide +kernel))) rfl
  | 3, _ => mem_lwg (tb_2 _ (List.mem_of_getElem? (i := 85) (by decide +kernel))) rfl
  | 4, _ => mem_lwg (tb_2 _ (List.mem_of_getElem? (i := 87) (by decide +kernel))) rfl
  | _ + 5, hk => absurd hk (by omega)
theorem ck_X0 : CLk 0 RX0 TX0 5 := ⟨rfl, in_X0, rfl, tyX0_ok, nmX0, by decide +kernel⟩
theorem in_X1 : ∀ x ∈ u_ws RX1 TX1 6, x ∈ lwg := u_in_all fun k hk => match k, hk with
  | 0, _ => mem_lwg (tb_1 _ (List.mem_of_getElem? (i := 92) (by decide +kernel))) rfl
  | 1, _ => mem_lwg (tb_1 _ (List.mem_of_getElem? (i := 94) (by decide +kernel))) rfl
  | 2, _ => mem_lwg (tb_1 _ (List.mem_of_getElem? (i := 96) (by decide +kernel))) rfl
  | 3, _ => mem_lwg (tb_1 _ (List.mem_of_getElem? (i := 98) (by decide +kernel))) rfl
  | 4, _ => mem_lwg (tb_1 _ (List.mem_of_getElem? (i := 100) (by decide +kernel))) rfl
  | 5, _ => mem_lwg (tb_1 _ (List.mem_of_getElem? (i := 102) (by decide +kernel))) rfl
  | _ + 6, hk => absurd hk (by omega)
theorem ck_X1 : CLk 1 RX1 TX1 6 := ⟨rfl, in_X1, rfl, tyX1_ok, nmX1, by decide +kernel⟩
theorem in_X2 : ∀ x ∈ u_ws RX2 TX2 5, x ∈ lwg := u_in_all fun k hk => match k, hk with
  | 0, _ => mem_lwg (tb_2 _ (List.mem_of_getElem? (i := 54) (by decide +kernel))) rfl
  | 1, _ => mem_lwg (tb_2 _ (List.mem_of_getElem? (i := 56) (by decide +kernel))) rfl
  | 2, _ => mem_lwg (tb_2 _ (List.mem_of_getElem? (i := 58) (by decide +kernel))) rfl
  | 3, _ => mem_lwg (tb_2 _ (List.mem_of_getElem? (i := 60) (by decide +kernel))) rfl
  | 4, _ => mem_lwg (tb_2 _ (List.mem_of_getElem? (i := 62) (by decide +kernel))) rfl
  | _ + 5, hk => absurd hk (by omega)
theorem ck_X2 : CLk 2 RX2 TX2 5 := ⟨rfl, in_X2, rfl, tyX2_ok, nmX2, by decide +kernel⟩
theorem in_X3 : ∀ x ∈ u_ws RX3 TX3 6, x ∈ lwg := u_in_all fun k hk => match k, hk with
  | 0, _ => mem_lwg (tb_1 _ (List.mem_of_getElem? (i := 157) (by decide +kernel))) rfl
  | 1, _ => mem_lwg (tb_1 _ (List.mem_of_getElem? (i := 159) (by decide +kernel))) rfl
  | 2, _ => mem_lwg (tb_1 _ (List.mem_of_getElem? (i := 161) (by decide +kernel))) rfl
  | 3, _ => mem_lwg (tb_1 _ (List.mem_of_getElem? (i := 163) (by decide +kernel))) rfl
  | 4, _ => mem_lwg (tb_1 _ (List.mem_of_getElem? (i := 165) (by decide +kernel))) rfl
  | 5, _ => mem_lwg (tb_1 _ (List.mem_of_getElem? (i := 167) (by decide +kernel))) rfl
  | _ + 6, hk => absurd hk (by omega)
theorem ck_X3 : CLk 3 RX3 TX3 6 := ⟨rfl, in_X3, rfl, tyX3_ok, nmX3, by decide +kernel⟩
theorem in_X4 : ∀ x ∈ u_ws RX4 TX4 6, x ∈ lwg := u_in_all fun k hk => match k, hk with
  | 0, _ => mem_lwg (tb_1 _ (List.mem_of_getElem? (i := 54) (by decide +kernel))) rfl
  | 1, _ => mem_lwg (tb_1 _ (List.mem_of_getElem? (i := 56) (by decide +kernel))) rfl
  | 2, _ => mem_lwg (tb_1 _ (List.mem_of_getElem? (i := 58) (by decide +kernel))) rfl
  | 3, _ => mem_lwg (tb_1 _ (List.mem_of_getElem? (i := 60) (by decide +kernel))) rfl
  | 4, _ => mem_lwg (tb_1 _ (List.mem_of_getElem? (i := 62) (by decide +kernel))) rfl
  | 5, _ => mem_lwg (tb_1 _ (List.mem_of_getElem? (i := 64) (by decide +kernel))) rfl
  | _ + 6, hk => absurd hk (by omega)
theorem ck_X4 : CLk 4 RX4 TX4 6 := ⟨rfl, in_X4, rfl, tyX4_ok, nmX4, by decide +kernel⟩
theorem in_X5 : ∀ x ∈ u_ws RX5 TX5 8, x ∈ lwg := u_in_all fun k hk => match k, hk with
  | 0, _ => mem_lwg (tb_1 _ (List.mem_of_getElem? (i := 190) (by decide +kernel))) rfl
  | 1, _ => mem_lwg (tb_1 _ (List.mem_of_getElem? (i := 192) (by decide +kernel))) rfl
  | 2, _ => mem_lwg (tb_1 _ (List.mem_of_getElem? (i := 194) (by decide +kernel))) rfl
  | 3, _ => mem_lwg (tb_1 _ (List.mem_of_getElem? (i := 196) (by decide +kernel))) rfl
  | 4, _ => mem_lwg (tb_1 _ (List.mem_of_getElem? (i := 198) (by decide +kernel))) rfl
  | 5, _ => mem_lwg (tb_1 _ (List.mem_of_getElem? (i := 200) (by decide +kernel))) rfl
  | 6, _ => mem_lwg (tb_1 _ (List.mem_of_getElem? (i := 202) (by decide +kernel))) rfl
  | 7, _ => mem_lwg (tb_1 _ (List.mem_of_getElem? (i := 204) (by decide +kernel))) rfl
  | _ + 8, hk => absurd hk (by omega)
theorem ck_X5 : CLk 5 RX5 TX5 8 := ⟨rfl, in_X5, rfl, tyX5_ok, nmX5, by decide +kernel⟩
theorem in_X6 : ∀ x ∈ u_ws RX6 TX6 8, x ∈ lwg := u_in_all fun k hk => match k, hk with
  | 0, _ => mem_lwg (tb_1 _ (List.mem_of_getElem? (i := 221) (by decide +kernel))) rfl
  | 1, _ => mem_lwg (tb_1 _ (List.mem_of_getElem? (i := 223) (by decide +kernel))) rfl
  | 2, _ => mem_lwg (tb_1 _ (List.mem_of_getElem? (i := 225) (by decide +kernel))) rfl
  | 3, _ => mem_lwg (tb_1 _ (List.mem_of_getElem? (i := 227) (by decide +kernel))) rfl
  | 4, _ => mem_lwg (tb_1 _ (List.mem_of_getElem? (i := 229) (by decide +kernel))) rfl
  | 5, _ => mem_lwg (tb_1 _ (List.mem_of_getElem? (i := 231) (by decide +kernel))) rfl
  | 6, _ => mem_lwg (tb_1 _ (List.mem_of_getElem? (i := 233) (by decide +kernel))) rfl
  | 7, _ => mem_lwg (tb_1 _ (List.mem_of_getElem? (i := 235) (by decide +kernel))) rfl
  | _ + 8, hk => absurd hk (by omega)
theorem ck_X6 : CLk 6 RX6 TX6 8 := ⟨rfl, in_X6, rfl, tyX6_ok, nmX6, by decide +kernel⟩
theorem in_X7 : ∀ x ∈ u_ws RX7 TX7 7, x ∈ lwg := u_in_all fun k hk => match k, hk with
  | 0, _ => mem_lwg (tb_1 _ (List.mem_of_getElem? (i := 123) (by decide +kernel))) rfl
  | 1, _ => mem_lwg (tb_1 _ (List.mem_of_getElem? (i := 125) (by decide +kernel))) rfl
  | 2, _ => mem_lwg (tb_1 _ (List.mem_of_getElem? (i := 127) (by decide +kernel))) rfl
  | 3, _ => mem_lwg (tb_1 _ (List.mem_of_getElem? (i := 129) (by decide +kernel))) rfl
  | 4, _ => mem_lwg (tb_1 _ (List.mem_of_getElem? (i := 131) (by decide +kernel))) rfl
  | 5, _ => mem_lwg (tb_1 _ (List.mem_of_getElem? (i := 133) (by decide +kernel))) rfl
  | 6, _ => mem_lwg (tb_1 _ (List.mem_of_getElem? (i := 135) (by decide +kernel))) rfl
  | _ + 7, hk => absurd hk (by omega)
theorem ck_X7 : CLk 7 RX7 TX7 7 := ⟨rfl, in_X7, rfl, tyX7_ok, nmX7, by decide +kernel⟩
theorem in_X8 : ∀ x ∈ u_ws RX8 TX8 9, x ∈ lwg := u_in_all fun k hk => match k, hk with
  | 0, _ => mem_lwg (tb_2 _ (List.mem_of_getElem? (i := 21) (by decide +kernel))) rfl
  | 1, _ => mem_lwg (tb_2 _ (List.mem_of_getElem? (i := 23) (by decide +kernel))) rfl
  | 2, _ => mem_lwg (tb_2 _ (List.mem_of_getElem? (i := 25) (by decide +kernel))) rfl
  | 3, _ => mem_lwg (tb_2 _ (List.mem_of_getElem? (i := 27) (by decide +kernel))) rfl
  | 4, _ => mem_lwg (tb_2 _ (List.mem_of_getElem? (i := 29) (by decide +kernel))) rfl
  | 5, _ => mem_lwg (tb_2 _ (List.mem_of_getElem? (i := 31) (by decide +kernel))) rfl
  | 6, _ => mem_lwg (tb_2 _ (List.mem_of_getElem? (i := 33) (by decide +kernel))) rfl
  | 7, _ => mem_lwg (tb_2 _ (List.mem_of_getElem? (i := 35) (by decide +kernel))) rfl
  | 8, _ => mem_lwg (tb_2 _ (List.mem_of_getElem? (i := 37) (by decide +kernel))) rfl
  | _ + 9, hk => absurd hk (by omega)
theorem ck_X8 : CLk 8 RX8 TX8 9 := ⟨rfl, in_X8, rfl, tyX8_ok, nmX8, by decide +kernel⟩
theorem in_X9 : ∀ x ∈ u_ws RX9 TX9 16, x ∈ lwg := u_in_all fun k hk => match k, hk with
  | 0, _ => mem_lwg (tb_2 _ (List.mem_of_getElem? (i := 125) (by decide +kernel))) rfl
  | 1, _ => mem_lwg (tb_2 _ (List.mem_of_getElem? (i := 127) (by decide +kernel))) rfl
  | 2, _ => mem_lwg (tb_2 _ (List.mem_of_getElem? (i := 129) (by decide +kernel))) rfl
  | 3, _ => mem_lwg (tb_2 _ (List.mem_of_getElem? (i := 131) (by decide +kernel))) rfl
  | 4, _ => mem_lwg (tb_2 _ (List.mem_of_getElem? (i := 133) (by decide +kernel))) rfl
  | 5, _ => mem_lwg (tb_2 _ (List.mem_of_getElem? (i := 135) (by decide +kernel))) rfl
  | 6, _ => mem_lwg (tb_2 _ (List.mem_of_getElem? (i := 137) (by decide +kernel))) rfl
  | 7, _ => mem_lwg (tb_2 _ (List.mem_of_getElem? (i := 139) (by decide +kernel))) rfl
  | 8, _ => mem_lwg (tb_2 _ (List.mem_of_getElem? (i := 141) (by decide +kernel))) rfl
  | 9, _ => mem_lwg (tb_2 _ (List.mem_of_getElem? (i := 143) (by decide +kernel))) rfl
  | 10, _ => mem_lwg (tb_2 _ (List.mem_of_getElem? (i := 145) (by decide +kernel))) rfl
  | 11, _ => mem_lwg (tb_2 _ (List.mem_of_getElem? (i := 147) (by decide +kernel))) rfl
  | 12, _ => mem_lwg (tb_2 _ (List.mem_of_getElem? (i := 149) (by decide +kernel))) rfl
  | 13, _ => mem_lwg (tb_2 _ (List.mem_of_getElem? (i := 151) (by decide +kernel))) rfl
  | 14, _ => mem_lwg (tb_2 _ (List.mem_of_getElem? (i := 153) (by decide +kernel))) rfl
  | 15, _ => mem_lwg (tb_2 _ (List.mem_of_getElem? (i := 155) (by decide +kernel))) rfl
  | _ + 16, hk => absurd hk (by omega)
theorem ck_X9 : CLk 9 RX9 TX9 16 := ⟨rfl, in_X9, rfl, tyX9_ok, nmX9, by decide +kernel⟩
theorem in_X10 : ∀ x ∈ u_ws RX10 TX10 30, x ∈ lwg := u_in_all fun k hk => match k, hk with
  | 0, _ => mem_lwg (tb_5 _ (List.mem_of_getElem? (i := 57) (by decide +kernel))) rfl
  | 1, _ => mem_lwg (tb_5 _ (List.mem_of_getElem? (i := 59) (by decide +kernel))) rfl
  | 2, _ => mem_lwg (tb_5 _ (List.mem_of_getElem? (i := 61) (by decide +kernel))) rfl
  | 3, _ => mem_lwg (tb_5 _ (List.mem_of_getElem? (i := 63) (by decide +kernel))) rfl
  | 4, _ => mem_lwg (tb_5 _ (List.mem_of_getElem? (i := 65) (by decide +kernel))) rfl
  | 5, _ => mem_lwg (tb_5 _ (List.mem_of_getElem? (i := 67) (by decide +kernel))) rfl
  | 6, _ => mem_lwg (tb_5 _ (List.mem_of_getElem? (i := 69) (by decide +kernel))) rfl
  | 7, _ => mem_lwg (tb_5 _ (List.mem_of_getElem? (i := 71) (by decide +kernel))) rfl
  | 8, _ => mem_lwg (tb_5 _ (List.mem_of_getElem? (i := 73) (by decide +kernel))) rfl
  | 9, _ => mem_lwg (tb_5 _ (List.mem_of_getElem? (i := 75) (by decide +kernel))) rfl
  | 10, _ => mem_lwg (tb_5 _ (List.mem_of_getElem? (i := 77) (by decide +kernel))) rfl
  | 11, _ => mem_lwg (tb_5 _ (List.mem_of_getElem? (i := 79) (by decide +kernel))) rfl
  | 12, _ => mem_lwg (tb_5 _ (List.mem_of_getElem? (i := 81) (by decide +kernel))) rfl
  | 13, _ => mem_lwg (tb_5 _ (List.mem_of_getElem? (i := 83) (by decide +kernel))) rfl
  | 14, _ => mem_lwg (tb_5 _ (List.mem_of_getElem? (i := 85) (by decide +kernel))) rfl
  | 15, _ => mem_lwg (tb_5 _ (List.mem_of_getElem? (i := 87) (by decide +kernel))) rfl
  | 16, _ => mem_lwg (tb_5 _ (List.mem_of_getElem? (i := 89) (by decide +kernel))) rfl
  | 17, _ => mem_lwg (tb_5 _ (List.mem_of_getElem? (i := 91) (by decide +kernel))) rfl
  | 18, _ => mem_lwg (tb_5 _ (List.mem_of_getElem? (i := 93) (by decide +kernel))) rfl
  | 19, _ => mem_lwg (tb_5 _ (List.mem_of_getElem? (i := 95) (by decide +kernel))) rfl
  | 20, _ => mem_lwg (tb_5 _ (List.mem_of_getElem? (i := 97) (by decide +kernel))) rfl
  | 21, _ => mem_lwg (tb_5 _ (List.mem_of_getElem? (i := 99) (by decide +kernel))) rfl
  | 22, _ => mem_lwg (tb_5 _ (List.mem_of_getElem? (i := 101) (by decide +kernel))) rfl
  | 23, _ => mem_lwg (tb_5 _ (List.mem_of_getElem? (i := 103) (by decide +kernel))) rfl
  | 24, _ => mem_lwg (tb_5 _ (List.mem_of_getElem? (i := 105) (by decide +kernel))) rfl
  | 25, _ => mem_lwg (tb_5 _ (List.mem_of_getElem? (i := 107) (by decide +kernel))) rfl
  | 26, _ => mem_lwg (tb_5 _ (List.mem_of_getElem? (i := 109) (by decide +kernel))) rfl
  | 27, _ => mem_lwg (tb_5 _ (List.mem_of_getElem? (i := 111) (by decide +kernel))) rfl
  | 28, _ => mem_lwg (tb_5 _ (List.mem_of_getElem? (i := 113) (by decide +kernel))) rfl
  | 29, _ => mem_lwg (tb_5 _ (List.mem_of_getElem? (i := 115) (by decide +kernel))) rfl
  | _ + 30, hk => absurd hk (by omega)
theorem ck_X10 : CLk 10 RX10 TX10 30 := ⟨rfl, in_X10, rfl, tyX10_ok, nmX10, by decide +kernel⟩
theorem fl_X9_12 : FLk RX9 12 9 0 true := ⟨RX9, TX9, 16, ck_X9, by decide, mem_lwg (tb_2 _ (List.mem_of_getElem? (i := 109) (by decide +kernel))) rfl, rfl, fun _ => rfl⟩
theorem fl_X9_19 : FLk RX9 19 9 1 true := ⟨RX9, TX9, 16, ck_X9, by decide, mem_lwg (tb_2 _ (List.mem_of_getElem? (i := 110) (by decide +kernel))) rfl, rfl, fun _ => rfl⟩
theorem fl_X9_23 : FLk RX9 23 9 2 true := ⟨RX9, TX9, 16, ck_X9, by decide, mem_lwg (tb_2 _ (List.mem_of_getElem? (i := 111) (by decide +kernel))) rfl, rfl, fun _ => rfl⟩
theorem fl_X9_26 : FLk RX9 26 9 3 true := ⟨RX9, TX9, 16, ck_X9, by decide, mem_lwg (tb_2 _ (List.mem_of_getElem? (i := 112) (by decide +kernel))) rfl, rfl, fun _ => rfl⟩
theorem fl_X9_29 : FLk RX9 29 9 4 false := ⟨RX9, TX9, 16, ck_X9, by decide, mem_lwg (tb_2 _ (List.mem_of_getElem? (i := 113) (by decide +kernel))) rfl, rfl, fun _ => rfl⟩
theorem fl_X9_36 : FLk RX9 36 9 5 true := ⟨RX9, TX9, 16, ck_X9, by decide, mem_lwg (tb_2 _ (List.mem_of_getElem? (i := 114) (by decide +kernel))) rfl, rfl, fun _ => rfl⟩
theorem fl_X9_43 : FLk RX9 43 9 6 true := ⟨RX9, TX9, 16, ck_X9, by decide, mem_lwg (tb_2 _ (List.mem_of_getElem? (i := 115) (by decide +kernel))) rfl, rfl, fun _ => rfl⟩
theorem fl_X9_47 : FLk RX9 47 9 7 false := ⟨RX9, TX9, 16, ck_X9, by decide, mem_lwg (tb_2 _ (List.mem_of_getElem? (i := 116) (by decide +kernel))) rfl, rfl, fun _ => rfl⟩
theorem fl_X9_54 : FLk RX9 54 9 8 true := ⟨RX9, TX9, 16, ck_X9, by decide, mem_lwg (tb_2 _ (List.mem_of_getElem? (i := 117) (by decide +kernel))) rfl, rfl, fun _ => rfl⟩
theorem fl_X9_61 : FLk RX9 61 9 9 true := ⟨RX9, TX9, 16, ck_X9, by decide, mem_lwg (tb_2 _ (List.mem_of_getElem? (i := 118) (by decide +kernel))) rfl, rfl, fun _ => rfl⟩
theorem fl_X9_65 : FLk RX9 65 9 10 true := ⟨RX9, TX9, 16, ck_X9, by decide, mem_lwg (tb_2 _ (List.mem_of_getElem? (i := 119) (by decide +kernel))) rfl, rfl, fun _ => rfl⟩
theorem fl_X9_69 : FLk RX9 69 9 11 false := ⟨RX9, TX9, 16, ck_X9, by decide, mem_lwg (tb_2 _ (List.mem_of_getElem? (i := 120) (by decide +kernel))) rfl, rfl, fun _ => rfl⟩
theorem fl_X9_72 : FLk RX9 72 9 12 true := ⟨RX9, TX9, 16, ck_X9, by decide, mem_lwg (tb_2 _ (List.mem_of_getElem? (i := 121) (by decide +kernel))) rfl, rfl, fun _ => rfl⟩
theorem fl_X9_79 : FLk RX9 79 9 13 true := ⟨RX9, TX9, 16, ck_X9, by decide, mem_lwg (tb_2 _ (List.mem_of_getElem? (i := 122) (by decide +kernel))) rfl, rfl, fun _ => rfl⟩
theorem fl_X9_86 : FLk RX9 86 9 14 true := ⟨RX9, TX9, 16, ck_X9, by decide, mem_lwg (tb_2 _ (List.mem_of_getElem? (i := 123) (by decide +kernel))) rfl, rfl, fun _ => rfl⟩
theorem fl_X9_93 : FLk RX9 93 9 15 true := ⟨RX9, TX9, 16, ck_X9, by decide, mem_lwg (tb_2 _ (List.mem_of_getElem? (i := 124) (by decide +kernel))) rfl, rfl, fun _ => rfl⟩
theorem fl_X9_110 : FLk RX9 110 3 0 false := ⟨RX3, TX3, 6, ck_X3, by decide, mem_lwg (tb_1 _ (List.mem_of_getElem? (i := 147) (by decide +kernel))) rfl, rfl, fun h => Bool.noConfusion h⟩
theorem fl_X9_117 : FLr RX9 117 4 2 := ⟨RX4, TX4, 6, ck_X4, by decide, mem_lwg (tb_1 _ (List.mem_of_getElem? (i := 43) (by decide +kernel))) rfl⟩
theorem fl_X9_123 : FLk RX9 123 1 0 false := ⟨RX1, TX1, 6, ck_X1, by decide, mem_lwg (tb_1 _ (List.mem_of_getElem? (i := 82) (by decide +kernel))) rfl, rfl, fun h => Bool.noConfusion h⟩
theorem fl_X9_139 : FLr RX9 139 1 2 := ⟨RX1, TX1, 6, ck_X1, by decide, mem_lwg (tb_1 _ (List.mem_of_getElem? (i := 86) (by decide +kernel))) rfl⟩
theorem fl_X9_149 : FLr RX9 149 1 3 := ⟨RX1, TX1, 6, ck_X1, by decide, mem_lwg (tb_1 _ (List.mem_of_getElem? (i := 88) (by decide +kernel))) rfl⟩
theorem fl_X9_152 : FLr RX9 152 4 3 := ⟨RX4, TX4, 6, ck_X4, by decide, mem_lwg (tb_1 _ (List.mem_of_getElem? (i := 47) (by decide +kernel))) rfl⟩
theorem fl_X9_158 : FLr RX9 158 4 4 := ⟨RX4, TX4, 6, ck_X4, by decide, mem_lwg (tb_1 _ (List.mem_of_getElem? (i := 50) (by decide +kernel))) rfl⟩
theorem fl_X9_164 : FLk RX9 164 1 1 false := ⟨RX1, TX1, 6, ck_X1, by decide, mem_lwg (tb_1 _ (List.mem_of_getElem? (i := 84) (by decide +kernel))) rfl, rfl, fun h => Bool.noConfusion h⟩
theorem fl_X9_171 : FLk RX9 171 4 1 false := ⟨RX4, TX4, 6, ck_X4, by decide, mem_lwg (tb_1 _ (List.mem_of_getElem? (i := 41) (by decide +kernel))) rfl, rfl, fun h => Bool.noConfusion h⟩
theorem fl_X9_178 : FLr RX9 178 4 5 := ⟨RX4, TX4, 6, ck_X4, by decide, mem_lwg (tb_1 _ (List.mem_of_getElem? (i := 53) (by decide +kernel))) rfl⟩
theorem fl_X9_187 : FLk RX9 187 7 0 false := ⟨RX7, TX7, 7, ck_X7, by decide, mem_lwg (tb_1 _ (List.mem_of_getElem? (i := 112) (by decide +kernel))) rfl, rfl, fun h => Bool.noConfusion h⟩
theorem fl_X9_194 : FLk RX9 194 4 0 false := ⟨RX4, TX4, 6, ck_X4, by decide, mem_lwg (tb_1 _ (List.mem_of_getElem? (i := 38) (by decide +kernel))) rfl, rfl, fun h => Bool.noConfusion h⟩
theorem fl_X9_200 : FLr RX9 200 7 5 := ⟨RX7, TX7, 7, ck_X7, by decide, mem_lwg (tb_1 _ (List.mem_of_getElem? (i := 120) (by decide +kernel))) rfl⟩
theorem fl_X9_203 : FLr RX9 203 7 6 := ⟨RX7, TX7, 7, ck_X7, by decide, mem_lwg (tb_1 _ (List.mem_of_getElem? (i := 122) (by decide +kernel))) rfl⟩
theorem fl_X9_210 : FLk RX9 210 7 1 false := ⟨RX7, TX7, 7, ck_X7, by decide, mem_lwg (tb_1 _ (List.mem_of_getElem? (i := 114) (by decide +kernel))) rfl, rfl, fun h => Bool.noConfusion h⟩
theorem fl_X9_213 : FLk RX9 213 7 2 false := ⟨RX7, TX7, 7, ck_X7, by decide, mem_lwg (tb_1 _ (List.mem_of_getElem? (i := 116) (by decide +kernel))) rfl, rfl, fun h => Bool.noConfusion h⟩
theorem fl_X9_219 : FLk RX9 219 2 1 false := ⟨RX2, TX2, 5, ck_X2, by decide, mem_lwg (tb_2 _ (List.mem_of_getElem? (i := 49) (by decide +kernel))) rfl, rfl, fun h => Bool.noConfusion h⟩
theorem fl_X9_229 : FLk RX9 229 0 1 false := ⟨RX0, TX0, 5, ck_X0, by decide, mem_lwg (tb_2 _ (List.mem_of_getElem? (i := 74) (by decide +kernel))) rfl, rfl, fun h => Bool.noConfusion h⟩
theorem fl_X9_235 : FLr RX9 235 2 2 := ⟨RX2, TX2, 5, ck_X2, by decide, mem_lwg (tb_2 _ (List.mem_of_getElem? (i := 51) (by decide +kernel))) rfl⟩
theorem fl_X9_238 : FLr RX9 238 0 2 := ⟨RX0, TX0, 5, ck_X0, by decide, mem_lwg (tb_2 _ (List.mem_of_getElem? (i := 76) (by decide +kernel))) rfl⟩
theorem fl_X9_241 : FLr RX9 241 3 3 := ⟨RX3, TX3, 6, ck_X3, by decide, mem_lwg (tb_1 _ (List.mem_of_getElem? (i := 152) (by decide +kernel))) rfl⟩
theorem fl_X9_250 : FLr RX9 250 5 5 := ⟨RX5, TX5, 8, ck_X5, by decide, mem_lwg (tb_1 _ (List.mem_of_getElem? (i := 187) (by decide +kernel))) rfl⟩
theorem fl_X9_258 : FLk RX9 258 5 1 false := ⟨RX5, TX5, 8, ck_X5, by decide, mem_lwg (tb_1 _ (List.mem_of_getElem? (i := 182) (by decide +kernel))) rfl, rfl, fun h => Bool.noConfusion h⟩
theorem fl_X9_279 : FLr RX9 279 3 5 := ⟨RX3, TX3, 6, ck_X3, by decide, mem_lwg (tb_1 _ (List.mem_of_getElem? (i := 156) (by decide +kernel))) rfl⟩
theorem fl_X9_282 : FLr RX9 282 3 4 := ⟨RX3, TX3, 6, ck_X3, by decide, mem_lwg (tb_1 _ (List.mem_of_getElem? (i := 154) (by decide +kernel))) rfl⟩
theorem fl_X9_326 : FLk RX9 326 5 0 false := ⟨RX5, TX5, 8, ck_X5, by decide, mem_lwg (tb_1 _ (List.mem_of_getElem? (i := 180) (by decide +kernel))) rfl, rfl, fun h => Bool.noConfusion h⟩
theorem fl_X9_403 : FLr RX9 403 1 5 := ⟨RX1, TX1, 6, ck_X1, by decide, mem_lwg (tb_1 _ (List.mem_of_getElem? (i := 91) (by decide +kernel))) rfl⟩
theorem fl_X9_417 : FLk RX9 417 3 1 false := ⟨RX3, TX3, 6, ck_X3, by decide, mem_lwg (tb_1 _ (List.mem_of_getElem? (i := 149) (by decide +kernel))) rfl, rfl, fun h => Bool.noConfusion h⟩
theorem fl_X9_423 : FLk RX9 423 8 0 false := ⟨RX8, TX8, 9, ck_X8, by decide, mem_lwg (tb_2 _ (List.mem_of_getElem? (i := 5) (by decide +kernel))) rfl, rfl, fun h => Bool.noConfusion h⟩
theorem fl_X9_430 : FLk RX9 430 2 0 false := ⟨RX2, TX2, 5, ck_X2, by decide, mem_lwg (tb_2 _ (List.mem_of_getElem? (i := 47) (by decide +kernel))) rfl, rfl, fun h => Bool.noConfusion h⟩
theorem fl_X9_435 : FLk RX9 435 0 0 false := ⟨RX0, TX0, 5, ck_X0, by decide, mem_lwg (tb_2 _ (List.mem_of_getElem? (i := 72) (by decide +kernel))) rfl, rfl, fun h => Bool.noConfusion h⟩
theorem fl_X0_9 : FLk RX0 9 0 0 false := ⟨RX0, TX0, 5, ck_X0, by decide, mem_lwg (tb_2 _ (List.mem_of_getElem? (i := 71) (by decide +kernel))) rfl, rfl, fun _ => rfl⟩
theorem fl_X0_15 : FLk RX0 15 0 1 false := ⟨RX0, TX0, 5, ck_X0, by decide, mem_lwg (tb_2 _ (List.mem_of_getElem? (i := 73) (by decide +kernel))) rfl, rfl, fun _ => rfl⟩
theorem fl_X0_19 : FLk RX0 19 0 2 true := ⟨RX0, TX0, 5, ck_X0, by decide, mem_lwg (tb_2 _ (List.mem_of_getElem? (i := 75) (by decide +kernel))) rfl, rfl, fun _ => rfl⟩
theorem fl_X0_23 : FLk RX0 23 0 3 true := ⟨RX0, TX0, 5, ck_X0, by decide, mem_lwg (tb_2 _ (List.mem_of_getElem? (i := 77) (by decide +kernel))) rfl, rfl, fun _ => rfl⟩
theorem fl_X0_26 : FLk RX0 26 0 4 true := ⟨RX0, TX0, 5, ck_X0, by decide, mem_lwg (tb_2 _ (List.mem_of_getElem? (i := 78) (by decide +kernel))) rfl, rfl, fun _ => rfl⟩
theorem fl_X0_29 : FLk RX0 29 8 1 false := ⟨RX8, TX8, 9, ck_X8, by decide, mem_lwg (tb_2 _ (List.mem_of_getElem? (i := 7) (by decide +kernel))) rfl, rfl, fun h => Bool.noConfusion h⟩
theorem fl_X0_34 : FLk RX0 34 3 0 false := ⟨RX3, TX3, 6, ck_X3, by decide, mem_lwg (tb_1 _ (List.mem_of_getElem? (i := 146) (by decide +kernel))) rfl, rfl, fun h => Bool.noConfusion h⟩
theorem fl_X0_47 : FLk RX0 47 8 2 false := ⟨RX8, TX8, 9, ck_X8, by decide, mem_lwg (tb_2 _ (List.mem_of_getElem? (i := 11) (by decide +kernel))) rfl, rfl, fun h => Bool.noConfusion h⟩
theorem fl_X0_54 : FLr RX0 54 8 8 := ⟨RX8, TX8, 9, ck_X8, by decide, mem_lwg (tb_2 _ (List.mem_of_getElem? (i := 20) (by decide +kernel))) rfl⟩
theorem fl_X1_9 : FLk RX1 9 1 0 false := ⟨RX1, TX1, 6, ck_X1, by decide, mem_lwg (tb_1 _ (List.mem_of_getElem? (i := 80) (by decide +kernel))) rfl, rfl, fun _ => rfl⟩
theorem fl_X1_15 : FLk RX1 15 1 1 false := ⟨RX1, TX1, 6, ck_X1, by decide, mem_lwg (tb_1 _ (List.mem_of_getElem? (i := 83) (by decide +kernel))) rfl, rfl, fun _ => rfl⟩
theorem fl_X1_19 : FLk RX1 19 1 2 true := ⟨RX1, TX1, 6, ck_X1, by decide, mem_lwg (tb_1 _ (List.mem_of_getElem? (i := 85) (by decide +kernel))) rfl, rfl, fun _ => rfl⟩
theorem fl_X1_23 : FLk RX1 23 1 3 true := ⟨RX1, TX1, 6, ck_X1, by decide, mem_lwg (tb_1 _ (List.mem_of_getElem? (i := 87) (by decide +kernel))) rfl, rfl, fun _ => rfl⟩
theorem fl_X1_26 : FLk RX1 26 1 4 true := ⟨RX1, TX1, 6, ck_X1, by decide, mem_lwg (tb_1 _ (List.mem_of_getElem? (i := 89) (by decide +kernel))) rfl, rfl, fun _ => rfl⟩
theorem fl_X1_29 : FLk RX1 29 1 5 true := ⟨RX1, TX1, 6, ck_X1, by decide, mem_lwg (tb_1 _ (List.mem_of_getElem? (i := 90) (by decide +kernel))) rfl, rfl, fun _ => rfl⟩
theorem fl_X2_9 : FLk RX2 9 2 0 false := ⟨RX2, TX2, 5, ck_X2, by decide, mem_lwg (tb_2 _ (List.mem_of_getElem? (i := 46) (by decide +kernel))) rfl, rfl, fun _ => rfl⟩
theorem fl_X2_15 : FLk RX2 15 2 1 false := ⟨RX2, TX2, 5, ck_X2, by decide, mem_lwg (tb_2 _ (List.mem_of_getElem? (i := 48) (by decide +kernel))) rfl, rfl, fun _ => rfl⟩
theorem fl_X2_19 : FLk RX2 19 2 2 true := ⟨RX2, TX2, 5, ck_X2, by decide, mem_lwg (tb_2 _ (List.mem_of_getElem? (i := 50) (by decide +kernel))) rfl, rfl, fun _ => rfl⟩
theorem fl_X2_23 : FLk RX2 23 2 3 true := ⟨RX2, TX2, 5, ck_X2, by decide, mem_lwg (tb_2 _ (List.mem_of_getElem? (i := 52) (by decide +kernel))) rfl, rfl, fun _ => rfl⟩
theorem fl_X2_26 : FLk RX2 26 2 4 false := ⟨RX2, TX2, 5, ck_X2, by decide, mem_lwg (tb_2 _ (List.mem_of_getElem? (i := 53) (by decide +kernel))) rfl, rfl, fun _ => rfl⟩
theorem fl_X2_32 : FLk RX2 32 8 1 false := ⟨RX8, TX8, 9, ck_X8, by decide, mem_lwg (tb_2 _ (List.mem_of_getElem? (i := 8) (by decide +kernel))) rfl, rfl, fun h => Bool.noConfusion h⟩
theorem fl_X2_37 : FLk RX2 37 8 6 false := ⟨RX8, TX8, 9, ck_X8, by decide, mem_lwg (tb_2 _ (List.mem_of_getElem? (i := 17) (by decide +kernel))) rfl, rfl, fun h => Bool.noConfusion h⟩
theorem fl_X2_44 : FLk RX2 44 8 2 false := ⟨RX8, TX8, 9, ck_X8, by decide, mem_lwg (tb_2 _ (List.mem_of_getElem? (i := 10) (by decide +kernel))) rfl, rfl, fun h => Bool.noConfusion h⟩
theorem fl_X2_53 : FLr RX2 53 8 5 := ⟨RX8, TX8, 9, ck_X8, by decide, mem_lwg (tb_2 _ (List.mem_of_getElem? (i := 15) (by decide +kernel))) rfl⟩
theorem fl_X3_9 : FLk RX3 9 3 0 false := ⟨RX3, TX3, 6, ck_X3, by decide, mem_lwg (tb_1 _ (List.mem_of_getElem? (i := 144) (by decide +kernel))) rfl, rfl, fun _ => rfl⟩
theorem fl_X3_15 : FLk RX3 15 3 1 false := ⟨RX3, TX3, 6, ck_X3, by decide, mem_lwg (tb_1 _ (List.mem_of_getElem? (i := 148) (by decide +kernel))) rfl, rfl, fun _ => rfl⟩
theorem fl_X3_19 : FLk RX3 19 3 2 true := ⟨RX3, TX3, 6, ck_X3, by decide, mem_lwg (tb_1 _ (List.mem_of_getElem? (i := 150) (by decide +kernel))) rfl, rfl, fun _ => rfl⟩
theorem fl_X3_23 : FLk RX3 23 3 3 true := ⟨RX3, TX3, 6, ck_X3, by decide, mem_lwg (tb_1 _ (List.mem_of_getElem? (i := 151) (by decide +kernel))) rfl, rfl, fun _ => rfl⟩
theorem fl_X3_27 : FLk RX3 27 3 4 true := ⟨RX3, TX3, 6, ck_X3, by decide, mem_lwg (tb_1 _ (List.mem_of_getElem? (i := 153) (by decide +kernel))) rfl, rfl, fun _ => rfl⟩
theorem fl_X3_31 : FLk RX3 31 3 5 true := ⟨RX3, TX3, 6, ck_X3, by decide, mem_lwg (tb_1 _ (List.mem_of_getElem? (i := 155) (by decide +kernel))) rfl, rfl, fun _ => rfl⟩
theorem fl_X3_34 : FLk RX3 34 4 0 false := ⟨RX4, TX4, 6, ck_X4, by decide, mem_lwg (tb_1 _ (List.mem_of_getElem? (i := 36) (by decide +kernel))) rfl, rfl, fun h => Bool.noConfusion h⟩
theorem fl_X3_39 : FLk RX3 39 4 1 false := ⟨RX4, TX4, 6, ck_X4, by decide, mem_lwg (tb_1 _ (List.mem_of_getElem? (i := 40) (by decide +kernel))) rfl, rfl, fun h => Bool.noConfusion h⟩
theorem fl_X3_54 : FLr RX3 54 4 2 := ⟨RX4, TX4, 6, ck_X4, by decide, mem_lwg (tb_1 _ (List.mem_of_getElem? (i := 44) (by decide +kernel))) rfl⟩
theorem fl_X3_63 : FLr RX3 63 4 4 := ⟨RX4, TX4, 6, ck_X4, by decide, mem_lwg (tb_1 _ (List.mem_of_getElem? (i := 49) (by decide +kernel))) rfl⟩
theorem fl_X3_67 : FLr RX3 67 4 3 := ⟨RX4, TX4, 6, ck_X4, by decide, mem_lwg (tb_1 _ (List.mem_of_getElem? (i := 46) (by decide +kernel))) rfl⟩
theorem fl_X4_9 : FLk RX4 9 4 0 false := ⟨RX4, TX4, 6, ck_X4, by decide, mem_lwg (tb_1 _ (List.mem_of_getElem? (i := 35) (by decide +kernel))) rfl, rfl, fun _ => rfl⟩
theorem fl_X4_15 : FLk RX4 15 4 1 false := ⟨RX4, TX4, 6, ck_X4, by decide, mem_lwg (tb_1 _ (List.mem_of_getElem? (i := 39) (by decide +kernel))) rfl, rfl, fun _ => rfl⟩
theorem fl_X4_18 : FLk RX4 18 4 2 true := ⟨RX4, TX4, 6, ck_X4, by decide, mem_lwg (tb_1 _ (List.mem_of_getElem? (i := 42) (by decide +kernel))) rfl, rfl, fun _ => rfl⟩
theorem fl_X4_22 : FLk RX4 22 4 3 true := ⟨RX4, TX4, 6, ck_X4, by decide, mem_lwg (tb_1 _ (List.mem_of_getElem? (i := 45) (by decide +kernel))) rfl, rfl, fun _ => rfl⟩
theorem fl_X4_25 : FLk RX4 25 4 4 true := ⟨RX4, TX4, 6, ck_X4, by decide, mem_lwg (tb_1 _ (List.mem_of_getElem? (i := 48) (by decide +kernel))) rfl, rfl, fun _ => rfl⟩
theorem fl_X4_28 : FLk RX4 28 4 5 true := ⟨RX4, TX4, 6, ck_X4, by decide, mem_lwg (tb_1 _ (List.mem_of_getElem? (i := 51) (by decide +kernel))) rfl, rfl, fun _ => rfl⟩
theorem fl_X5_9 : FLk RX5 9 5 0 false := ⟨RX5, TX5, 8, ck_X5, by decide, mem_lwg (tb_1 _ (List.mem_of_getElem? (i := 179) (by decide +kernel))) rfl, rfl, fun _ => rfl⟩
theorem fl_X5_15 : FLk RX5 15 5 1 false := ⟨RX5, TX5, 8, ck_X5, by decide, mem_lwg (tb_1 _ (List.mem_of_getElem? (i := 181) (by decide +kernel))) rfl, rfl, fun _ => rfl⟩
theorem fl_X5_19 : FLk RX5 19 5 2 false := ⟨RX5, TX5, 8, ck_X5, by decide, mem_lwg (tb_1 _ (List.mem_of_getElem? (i := 183) (by decide +kernel))) rfl, rfl, fun _ => rfl⟩
theorem fl_X5_22 : FLk RX5 22 5 3 false := ⟨RX5, TX5, 8, ck_X5, by decide, mem_lwg (tb_1 _ (List.mem_of_getElem? (i := 184) (by decide +kernel))) rfl, rfl, fun _ => rfl⟩
theorem fl_X5_25 : FLk RX5 25 5 4 false := ⟨RX5, TX5, 8, ck_X5, by decide, mem_lwg (tb_1 _ (List.mem_of_getElem? (i := 185) (by decide +kernel))) rfl, rfl, fun _ => rfl⟩
theorem fl_X5_30 : FLk RX5 30 5 5 true := ⟨RX5, TX5, 8, ck_X5, by decide, mem_lwg (tb_1 _ (List.mem_of_getElem? (i := 186) (by decide +kernel))) rfl, rfl, fun _ => rfl⟩
theorem fl_X5_33 : FLk RX5 33 5 6 true := ⟨RX5, TX5, 8, ck_X5, by decide, mem_lwg (tb_1 _ (List.mem_of_getElem? (i := 188) (by decide +kernel))) rfl, rfl, fun _ => rfl⟩
theorem fl_X5_36 : FLk RX5 36 5 7 true := ⟨RX5, TX5, 8, ck_X5, by decide, mem_lwg (tb_1 _ (List.mem_of_getElem? (i := 189) (by decide +kernel))) rfl, rfl, fun _ => rfl⟩
theorem fl_X5_46 : FLk RX5 46 1 0 false := ⟨RX1, TX1, 6, ck_X1, by decide, mem_lwg (tb_1 _ (List.mem_of_getElem? (i := 81) (by decide +kernel))) rfl, rfl, fun h => Bool.noConfusion h⟩
theorem fl_X6_9 : FLk RX6 9 6 0 false := ⟨RX6, TX6, 8, ck_X6, by decide, mem_lwg (tb_1 _ (List.mem_of_getElem? (i := 213) (by decide +kernel))) rfl, rfl, fun _ => rfl⟩
theorem fl_X6_15 : FLk RX6 15 6 1 false := ⟨RX6, TX6, 8, ck_X6, by decide, mem_lwg (tb_1 _ (List.mem_of_getElem? (i := 214) (by decide +kernel))) rfl, rfl, fun _ => rfl⟩
theorem fl_X6_18 : FLk RX6 18 6 2 true := ⟨RX6, TX6, 8, ck_X6, by decide, mem_lwg (tb_1 _ (List.mem_of_getElem? (i := 215) (by decide +kernel))) rfl, rfl, fun _ => rfl⟩
theorem fl_X6_22 : FLk RX6 22 6 3 true := ⟨RX6, TX6, 8, ck_X6, by decide, mem_lwg (tb_1 _ (List.mem_of_getElem? (i := 216) (by decide +kernel))) rfl, rfl, fun _ => rfl⟩
theorem fl_X6_25 : FLk RX6 25 6 4 true := ⟨RX6, TX6, 8, ck_X6, by decide, mem_lwg (tb_1 _ (List.mem_of_getElem? (i := 217) (by decide +kernel))) rfl, rfl, fun _ => rfl⟩
theorem fl_X6_28 : FLk RX6 28 6 5 false := ⟨RX6, TX6, 8, ck_X6, by decide, mem_lwg (tb_1 _ (List.mem_of_getElem? (i := 218) (by decide +kernel))) rfl, rfl, fun _ => rfl⟩
theorem fl_X6_31 : FLk RX6 31 6 6 false := ⟨RX6, TX6, 8, ck_X6, by decide, mem_lwg (tb_1 _ (List.mem_of_getElem? (i := 219) (by decide +kernel))) rfl, rfl, fun _ => rfl⟩
theorem fl_X6_34 : FLk RX6 34 6 7 false := ⟨RX6, TX6, 8, ck_X6, by decide, mem_lwg (tb_1 _ (List.mem_of_getElem? (i := 220) (by decide +kernel))) rfl, rfl, fun _ => rfl⟩
theorem fl_X7_9 : FLk RX7 9 7 0 false := ⟨RX7, TX7, 7, ck_X7, by decide, mem_lwg (tb_1 _ (List.mem_of_getElem? (i := 111) (by decide +kernel))) rfl, rfl, fun _ => rfl⟩
theorem fl_X7_15 : FLk RX7 15 7 1 false := ⟨RX7, TX7, 7, ck_X7, by decide, mem_lwg (tb_1 _ (List.mem_of_getElem? (i := 113) (by decide +kernel))) rfl, rfl, fun _ => rfl⟩
theorem fl_X7_18 : FLk RX7 18 7 2 false := ⟨RX7, TX7, 7, ck_X7, by decide, mem_lwg (tb_1 _ (List.mem_of_getElem? (i := 115) (by decide +kernel))) rfl, rfl, fun _ => rfl⟩
theorem fl_X7_21 : FLk RX7 21 7 3 false := ⟨RX7, TX7, 7, ck_X7, by decide, mem_lwg (tb_1 _ (List.mem_of_getElem? (i := 117) (by decide +kernel))) rfl, rfl, fun _ => rfl⟩
theorem fl_X7_24 : FLk RX7 24 7 4 true := ⟨RX7, TX7, 7, ck_X7, by decide, mem_lwg (tb_1 _ (List.mem_of_getElem? (i := 118) (by decide +kernel))) rfl, rfl, fun _ => rfl⟩
theorem fl_X7_28 : FLk RX7 28 7 5 true := ⟨RX7, TX7, 7, ck_X7, by decide, mem_lwg (tb_1 _ (List.mem_of_getElem? (i := 119) (by decide +kernel))) rfl, rfl, fun _ => rfl⟩
theorem fl_X7_32 : FLk RX7 32 7 6 true := ⟨RX7, TX7, 7, ck_X7, by decide, mem_lwg (tb_1 _ (List.mem_of_getElem? (i := 121) (by decide +kernel))) rfl, rfl, fun _ => rfl⟩
theorem fl_X8_9 : FLk RX8 9 8 0 false := ⟨RX8, TX8, 9, ck_X8, by decide, mem_lwg (tb_2 _ (List.mem_of_getElem? (i := 4) (by decide +kernel))) rfl, rfl, fun _ => rfl⟩
theorem fl_X8_15 : FLk RX8 15 8 1 false := ⟨RX8, TX8, 9, ck_X8, by decide, mem_lwg (tb_2 _ (List.mem_of_getElem? (i := 6) (by decide +kernel))) rfl, rfl, fun _ => rfl⟩
theorem fl_X8_18 : FLk RX8 18 8 2 false := ⟨RX8, TX8, 9, ck_X8, by decide, mem_lwg (tb_2 _ (List.mem_of_getElem? (i := 9) (by decide +kernel))) rfl, rfl, fun _ => rfl⟩
theorem fl_X8_22 : FLk RX8 22 8 3 false := ⟨RX8, TX8, 9, ck_X8, by decide, mem_lwg (tb_2 _ (List.mem_of_getElem? (i := 12) (by decide +kernel))) rfl, rfl, fun _ => rfl⟩
theorem fl_X8_25 : FLk RX8 25 8 4 true := ⟨RX8, TX8, 9, ck_X8, by decide, mem_lwg (tb_2 _ (List.mem_of_getElem? (i := 13) (by decide +kernel))) rfl, rfl, fun _ => rfl⟩
theorem fl_X8_29 : FLk RX8 29 8 5 true := ⟨RX8, TX8, 9, ck_X8, by decide, mem_lwg (tb_2 _ (List.mem_of_getElem? (i := 14) (by decide +kernel))) rfl, rfl, fun _ => rfl⟩
theorem fl_X8_32 : FLk RX8 32 8 6 false := ⟨RX8, TX8, 9, ck_X8, by decide, mem_lwg (tb_2 _ (List.mem_of_getElem? (i := 16) (by decide +kernel))) rfl, rfl, fun _ => rfl⟩
theorem fl_X8_35 : FLk RX8 35 8 7 true := ⟨RX8, TX8, 9, ck_X8, by decide, mem_lwg (tb_2 _ (List.mem_of_getElem? (i := 18) (by decide +kernel))) rfl, rfl, fun _ => rfl⟩
theorem fl_X8_38 : FLk RX8 38 8 8 true := ⟨RX8, TX8, 9, ck_X8, by decide, mem_lwg (tb_2 _ (List.mem_of_getElem? (i := 19) (by decide +kernel))) rfl, rfl, fun _ => rfl⟩
theorem fl_X8_42 : FLk RX8 42 4 0 false := ⟨RX4, TX4, 6, ck_X4, by decide, mem_lwg (tb_1 _ (List.mem_of_getElem? (i := 37) (by decide +kernel))) rfl, rfl, fun h => Bool.noConfusion h⟩
theorem fl_X8_45 : FLk RX8 45 3 0 false := ⟨RX3, TX3, 6, ck_X3, by decide, mem_lwg (tb_1 _ (List.mem_of_getElem? (i := 145) (by decide +kernel))) rfl, rfl, fun h => Bool.noConfusion h⟩
theorem fl_X8_66 : FLr RX8 66 4 5 := ⟨RX4, TX4, 6, ck_X4, by decide, mem_lwg (tb_1 _ (List.mem_of_getElem? (i := 52) (by decide +kernel))) rfl⟩
theorem fl_X10_1 : FLk RX10 1 10 0 false := ⟨RX10, TX10, 30, ck_X10, by decide, mem_lwg (tb_5 _ (List.mem_of_getElem? (i := 27) (by decide +kernel))) rfl, rfl, fun _ => rfl⟩
theorem fl_X10_7 : FLk RX10 7 10 1 true := ⟨RX10, TX10, 30, ck_X10, by decide, mem_lwg (tb_5 _ (List.mem_of_getElem? (i := 28) (by decide +kernel))) rfl, rfl, fun _ => rfl⟩
theorem fl_X10_15 : FLk RX10 15 10 4 true := ⟨RX10, TX10, 30, ck_X10, by decide, mem_lwg (tb_5 _ (List.mem_of_getElem? (i := 31) (by decide +kernel))) rfl, rfl, fun _ => rfl⟩
theorem fl_X10_25 : FLk RX10 25 10 3 false := ⟨RX10, TX10, 30, ck_X10, by decide, mem_lwg (tb_5 _ (List.mem_of_getElem? (i := 30) (by decide +kernel))) rfl, rfl, fun _ => rfl⟩
theorem fl_X10_32 : FLk RX10 32 10 2 false := ⟨RX10, TX10, 30, ck_X10, by decide, mem_lwg (tb_5 _ (List.mem_of_getElem? (i := 29) (by decide +kernel))) rfl, rfl, fun _ => rfl⟩
theorem fl_X10_42 : FLk RX10 42 10 5 true := ⟨RX10, TX10, 30, ck_X10, by decide, mem_lwg (tb_5 _ (List.mem_of_getElem? (i := 32) (by decide +kernel))) rfl, rfl, fun _ => rfl⟩
theorem fl_X10_45 : FLk RX10 45 10 8 false := ⟨RX10, TX10, 30, ck_X10, by decide, mem_lwg (tb_5 _ (List.mem_of_getElem? (i := 35) (by decide +kernel))) rfl, rfl, fun _ => rfl⟩
theorem fl_X10_48 : FLk RX10 48 10 11 true := ⟨RX10, TX10, 30, ck_X10, by decide, mem_lwg (tb_5 _ (List.mem_of_getElem? (i := 38) (by decide +kernel))) rfl, rfl, fun _ => rfl⟩
theorem fl_X10_51 : FLk RX10 51 10 12 true := ⟨RX10, TX10, 30, ck_X10, by decide, mem_lwg (tb_5 _ (List.mem_of_getElem? (i := 39) (by decide +kernel))) rfl, rfl, fun _ => rfl⟩
theorem fl_X10_54 : FLk RX10 54 10 13 true := ⟨RX10, TX10, 30, ck_X10, by decide, mem_lwg (tb_5 _ (List.mem_of_getElem? (i := 40) (by decide +kernel))) rfl, rfl, fun _ => rfl⟩
theorem fl_X10_57 : FLk RX10 57 10 14 true := ⟨RX10, TX10, 30, ck_X10, by decide, mem_lwg (tb_5 _ (List.mem_of_getElem? (i := 41) (by decide +kernel))) rfl, rfl, fun _ => rfl⟩
theorem fl_X10_60 : FLk RX10 60 10 15 true := ⟨RX10, TX10, 30, ck_X10, by decide, mem_lwg (tb_5 _ (List.mem_of_getElem? (i := 42) (by decide +kernel))) rfl, rfl, fun _ => rfl⟩
theorem fl_X10_64 : FLk RX10 64 10 17 true := ⟨RX10, TX10, 30, ck_X10, by decide, mem_lwg (tb_5 _ (List.mem_of_getElem? (i := 44) (by decide +kernel))) rfl, rfl, fun _ => rfl⟩
theorem fl_X10_67 : FLk RX10 67 10 18 true := ⟨RX10, TX10, 30, ck_X10, by decide, mem_lwg (tb_5 _ (List.mem_of_getElem? (i := 45) (by decide +kernel))) rfl, rfl, fun _ => rfl⟩
theorem fl_X10_70 : FLk RX10 70 10 19 true := ⟨RX10, TX10, 30, ck_X10, by decide, mem_lwg (tb_5 _ (List.mem_of_getElem? (i := 46) (by decide +kernel))) rfl, rfl, fun _ => rfl⟩
theorem fl_X10_73 : FLk RX10 73 10 20 true := ⟨RX10, TX10, 30, ck_X10, by decide, mem_lwg (tb_5 _ (List.mem_of_getElem? (i := 47) (by decide +kernel))) rfl, rfl, fun _ => rfl⟩
theorem fl_X10_76 : FLk RX10 76 10 21 true := ⟨RX10, TX10, 30, ck_X10, by decide, mem_lwg (tb_5 _ (List.mem_of_getElem? (i := 48) (by decide +kernel))) rfl, rfl, fun _ => rfl⟩
theorem fl_X10_79 : FLk RX10 79 10 22 true := ⟨RX10, TX10, 30, ck_X10, by decide, mem_lwg (tb_5 _ (List.mem_of_getElem? (i := 49) (by decide +kernel))) rfl, rfl, fun _ => rfl⟩
theorem fl_X10_83 : FLk RX10 83 10 24 true := ⟨RX10, TX10, 30, ck_X10, by decide, mem_lwg (tb_5 _ (List.mem_of_getElem? (i := 51) (by decide +kernel))) rfl, rfl, fun _ => rfl⟩
theorem fl_X10_86 : FLk RX10 86 10 25 true := ⟨RX10, TX10, 30, ck_X10, by decide, mem_lwg (tb_5 _ (List.mem_of_getElem? (i := 52) (by decide +kernel))) rfl, rfl, fun _ => rfl⟩
theorem fl_X10_89 : FLk RX10 89 10 26 true := ⟨RX10, TX10, 30, ck_X10, by decide, mem_lwg (tb_5 _ (List.mem_of_getElem? (i := 53) (by decide +kernel))) rfl, rfl, fun _ => rfl⟩
theorem fl_X10_92 : FLk RX10 92 10 27 true := ⟨RX10, TX10, 30, ck_X10, by decide, mem_lwg (tb_5 _ (List.mem_of_getElem? (i := 54) (by decide +kernel))) rfl, rfl, fun _ => rfl⟩
theorem fl_X10_95 : FLk RX10 95 10 29 true := ⟨RX10, TX10, 30, ck_X10, by decide, mem_lwg (tb_5 _ (List.mem_of_getElem? (i := 56) (by decide +kernel))) rfl, rfl, fun _ => rfl⟩
theorem fl_X10_166 : FLk RX10 166 10 6 false := ⟨RX10, TX10, 30, ck_X10, by decide, mem_lwg (tb_5 _ (List.mem_of_getElem? (i := 33) (by decide +kernel))) rfl, rfl, fun _ => rfl⟩
theorem fl_X10_173 : FLk RX10 173 10 9 false := ⟨RX10, TX10, 30, ck_X10, by decide, mem_lwg (tb_5 _ (List.mem_of_getElem? (i := 36) (by decide +kernel))) rfl, rfl, fun _ => rfl⟩
theorem fl_X10_176 : FLk RX10 176 10 10 false := ⟨RX10, TX10, 30, ck_X10, by decide, mem_lwg (tb_5 _ (List.mem_of_getElem? (i := 37) (by decide +kernel))) rfl, rfl, fun _ => rfl⟩
theorem fl_X10_182 : FLk RX10 182 10 7 false := ⟨RX10, TX10, 30, ck_X10, by decide, mem_lwg (tb_5 _ (List.mem_of_getElem? (i := 34) (by decide +kernel))) rfl, rfl, fun _ => rfl⟩
theorem fl_X10_224 : FLk RX10 224 10 16 false := ⟨RX10, TX10, 30, ck_X10, by decide, mem_lwg (tb_5 _ (List.mem_of_getElem? (i := 43) (by decide +kernel))) rfl, rfl, fun _ => rfl⟩
theorem fl_X10_260 : FLk RX10 260 10 23 false := ⟨RX10, TX10, 30, ck_X10, by decide, mem_lwg (tb_5 _ (List.mem_of_getElem? (i := 50) (by decide +kernel))) rfl, rfl, fun _ => rfl⟩
theorem fl_X10_359 : FLk RX10 359 10 28 false := ⟨RX10, TX10, 30, ck_X10, by decide, mem_lwg (tb_5 _ (List.mem_of_getElem? (i := 55) (by decide +kernel))) rfl, rfl, fun _ => rfl⟩
def M_X0_init : MD := (yX0_init, cX0_init, 1, none)
theorem mk_X0_init : MKI M_X0_init 0 := ⟨⟨mem_lwg (tb_1 _ (List.mem_of_getElem? (i := 11) (by decide +kernel))) rfl, mem_lwg (tb_2 _ (List.mem_of_getElem? (i := 69) (by decide +kernel))) rfl, by decide +kernel, by decide +kernel, by decide +kernel, by decide⟩, mem_lwg (tb_2 _ (List.mem_of_getElem? (i := 68) (by decide +kernel))) rfl, rfl, rfl⟩
def M_X0_search : MD := (yX0_search, cX0_search, 6, none)
theorem mk_X0_search : MKV M_X0_search 4 := ⟨⟨mem_lwg (tb_1 _ (List.mem_of_getElem? (i := 11) (by decide +kernel))) rfl, mem_lwg (tb_3 _ (List.mem_of_getElem? (i := 171) (by decide +kernel))) rfl, by decide +kernel, by decide +kernel, by decide +kernel, by decide⟩, mem_lwg (tb_3 _ (List.mem_of_getElem? (i := 169) (by decide +kernel))) rfl, mem_lwg (tb_3 _ (List.mem_of_getElem? (i := 170) (by decide +kernel))) rfl⟩
def M_X0_sortOut : MD := (yX0_sortOut, cX0_sortOut, 8, none)
theorem mk_X0_sortOut : MKV M_X0_sortOut 3 := ⟨⟨mem_lwg (tb_1 _ (List.mem_of_getElem? (i := 11) (by decide +kernel))) rfl, mem_lwg (tb_3 _ (List.mem_of_getElem? (i := 175) (by decide +kernel))) rfl, by decide +kernel, by decide +kernel, by decide +kernel, by decide⟩, mem_lwg (tb_3 _ (List.mem_of_getElem? (i := 174) (by decide +kernel))) rfl, mem_lwg (tp_2 _ (List.mem_of_getElem? (i := 8) (by decide +kernel))) rfl⟩
def M_X0_pick : MD := (yX0_pick, cX0_pick, 8, (some .boolean))
theorem mk_X0_pick : MKS M_X0_pick 6 := ⟨⟨mem_lwg (tb_1 _ (List.mem_of_getElem? (i := 11) (by decide +kernel))) rfl, mem_lwg (tb_3 _ (List.mem_of_getElem? (i := 179) (by decide +kernel))) rfl, by decide +kernel, by decide +kernel, by decide +kernel, by decide⟩, mem_lwg (tb_3 _ (List.mem_of_getElem? (i := 178) (by decide +kernel))) rfl⟩
def M_X0_fits : MD := (yX0_fits, cX0_fits, 9, (some .boolean))
theorem mk_X0_fits : MKV M_X0_fits 5 := ⟨⟨mem_lwg (tb_1 _ (List.mem_of_getElem? (i := 11) (by decide +kernel))) rfl, mem_lwg (tb_3 _ (List.mem_of_getElem? (i := 183) (by decide +kernel))) rfl, by decide +kernel, by decide +kernel, by decide +kernel, by decide⟩, mem_lwg (tb_3 _ (List.mem_of_getElem? (i := 182) (by decide +kernel))) rfl, mem_lwg (tp_2 _ (List.mem_of_getElem? (i := 9) (by decide +kernel))) rfl⟩
def M_X1_init : MD := (yX1_init, cX1_init, 1, none)
theorem mk_X1_init : MKI M_X1_init 0 := ⟨⟨mem_lwg (tb_1 _ (List.mem_of_getElem? (i := 4) (by decide +kernel))) rfl, mem_lwg (tb_1 _ (List.mem_of_getElem? (i := 73) (by decide +kernel))) rfl, by decide +kernel, by decide +kernel, by decide +kernel, by decide⟩, mem_lwg (tb_1 _ (List.mem_of_getElem? (i := 72) (by decide +kernel))) rfl, rfl, rfl⟩
def M_X1_begin : MD := (yX1_begin, cX1_begin, 1, none)
theorem mk_X1_begin : MKV M_X1_begin 0 := ⟨⟨mem_lwg (tb_1 _ (List.mem_of_getElem? (i := 4) (by decide +kernel))) rfl, mem_lwg (tb_1 _ (List.mem_of_getElem? (i := 78) (by decide +kernel))) rfl, by decide +kernel, by decide +kernel, by decide +kernel, by decide⟩, mem_lwg (tb_1 _ (List.mem_of_getElem? (i := 76) (by decide +kernel))) rfl, mem_lwg (tb_1 _ (List.mem_of_getElem? (i := 77) (by decide +kernel))) rfl⟩
def M_X1_copyFrom : MD := (yX1_copyFrom, cX1_copyFrom, 2, none)
theorem mk_X1_copyFrom : MKV M_X1_copyFrom 1 := ⟨⟨mem_lwg (tb_1 _ (List.mem_of_getElem? (i := 4) (by decide +kernel))) rfl, mem_lwg (tb_4 _ (List.mem_of_getElem? (i := 211) (by decide +kernel))) rfl, by decide +kernel, by decide +kernel, by decide +kernel, by decide⟩, mem_lwg (tb_4 _ (List.mem_of_getElem? (i := 209) (by decide +kernel))) rfl, mem_lwg (tb_4 _ (List.mem_of_getElem? (i := 210) (by decide +kernel))) rfl⟩
def M_X1_countScans : MD := (yX1_countScans, cX1_countScans, 1, (some .int))
theorem mk_X1_countScans : MKV M_X1_countScans 0 := ⟨⟨mem_lwg (tb_1 _ (List.mem_of_getElem? (i := 4) (by decide +kernel))) rfl, mem_lwg (tb_2 _ (List.mem_of_getElem? (i := 221) (by decide +kernel))) rfl, by decide +kernel, by decide +kernel, by decide +kernel, by decide⟩, mem_lwg (tb_2 _ (List.mem_of_getElem? (i := 219) (by decide +kernel))) rfl, mem_lwg (tb_2 _ (List.mem_of_getElem? (i := 220) (by decide +kernel))) rfl⟩
def M_X1_scansBut : MD := (yX1_scansBut, cX1_scansBut, 4, (some .int))
theorem mk_X1_scansBut : MKV M_X1_scansBut 1 := ⟨⟨mem_lwg (tb_1 _ (List.mem_of_getElem? (i := 4) (by decide +kernel))) rfl, mem_lwg (tb_2 _ (List.mem_of_getElem? (i := 217) (by decide +kernel))) rfl, by decide +kernel, by decide +kernel, by decide +kernel, by decide⟩, mem_lwg (tb_2 _ (List.mem_of_getElem? (i := 215) (by decide +kernel))) rfl, mem_lwg (tb_2 _ (List.mem_of_getElem? (i := 216) (by decide +kernel))) rfl⟩
def M_X1_exchange : MD := (yX1_exchange, cX1_exchange, 6, none)
theorem mk_X1_exchange : MKV M_X1_exchange 2 := ⟨⟨mem_lwg (tb_1 _ (List.mem_of_getElem? (i := 4) (by decide +kernel))) rfl, mem_lwg (tb_3 _ (List.mem_of_getElem? (i := 5) (by decide +kernel))) rfl, by decide +kernel, by decide +kernel, by decide +kernel, by decide⟩, mem_lwg (tb_3 _ (List.mem_of_getElem? (i := 3) (by decide +kernel))) rfl, mem_lwg (tb_3 _ (List.mem_of_getElem? (i := 4) (by decide +kernel))) rfl⟩
def M_X1_takeRows : MD := (yX1_takeRows, cX1_takeRows, 4, none)
theorem mk_X1_takeRows : MKV M_X1_takeRows 2 := ⟨⟨mem_lwg (tb_1 _ (List.mem_of_getElem? (i := 4) (by decide +kernel))) rfl, mem_lwg (tb_3 _ (List.mem_of_getElem? (i := 90) (by decide +kernel))) rfl, by decide +kernel, by decide +kernel, by decide +kernel, by decide⟩, mem_lwg (tb_3 _ (List.mem_of_getElem? (i := 88) (by decide +kernel))) rfl, mem_lwg (tb_3 _ (List.mem_of_getElem? (i := 89) (by decide +kernel))) rfl⟩
def M_X1_ownPhase : MD := (yX1_ownPhase, cX1_ownPhase, 6, (some .int))
theorem mk_X1_ownPhase : MKV M_X1_ownPhase 2 := ⟨⟨mem_lwg (tb_1 _ (List.mem_of_getElem? (i := 4) (by decide +kernel))) rfl, mem_lwg (tb_3 _ (List.mem_of_getElem? (i := 217) (by decide +kernel))) rfl, by decide +kernel, by decide +kernel, by decide +kernel, by decide⟩, mem_lwg (tb_3 _ (List.mem_of_getElem? (i := 215) (by decide +kernel))) rfl, mem_lwg (tb_3 _ (List.mem_of_getElem? (i := 216) (by decide +kernel))) rfl⟩
def M_X2_init : MD := (yX2_init, cX2_init, 1, none)
theorem mk_X2_init : MKI M_X2_init 0 := ⟨⟨mem_lwg (tb_1 _ (List.mem_of_getElem? (i := 10) (by decide +kernel))) rfl, mem_lwg (tb_2 _ (List.mem_of_getElem? (i := 44) (by decide +kernel))) rfl, by decide +kernel, by decide +kernel, by decide +kernel, by decide⟩, mem_lwg (tb_2 _ (List.mem_of_getElem? (i := 43) (by decide +kernel))) rfl, rfl, rfl⟩
def M_X2_search : MD := (yX2_search, cX2_search, 4, none)
theorem mk_X2_search : MKV M_X2_search 3 := ⟨⟨mem_lwg (tb_1 _ (List.mem_of_getElem? (i := 10) (by decide +kernel))) rfl, mem_lwg (tb_3 _ (List.mem_of_getElem? (i := 150) (by decide +kernel))) rfl, by decide +kernel, by decide +kernel, by decide +kernel, by decide⟩, mem_lwg (tb_3 _ (List.mem_of_getElem? (i := 148) (by decide +kernel))) rfl, mem_lwg (tb_3 _ (List.mem_of_getElem? (i := 149) (by decide +kernel))) rfl⟩
def M_X2_pick : MD := (yX2_pick, cX2_pick, 9, none)
theorem mk_X2_pick : MKS M_X2_pick 7 := ⟨⟨mem_lwg (tb_1 _ (List.mem_of_getElem? (i := 10) (by decide +kernel))) rfl, mem_lwg (tb_3 _ (List.mem_of_getElem? (i := 154) (by decide +kernel))) rfl, by decide +kernel, by decide +kernel, by decide +kernel, by decide⟩, mem_lwg (tb_3 _ (List.mem_of_getElem? (i := 153) (by decide +kernel))) rfl⟩
def M_X3_init : MD := (yX3_init, cX3_init, 1, none)
theorem mk_X3_init : MKI M_X3_init 0 := ⟨⟨mem_lwg (tb_1 _ (List.mem_of_getElem? (i := 6) (by decide +kernel))) rfl, mem_lwg (tb_1 _ (List.mem_of_getElem? (i := 142) (by decide +kernel))) rfl, by decide +kernel, by decide +kernel, by decide +kernel, by decide⟩, mem_lwg (tb_1 _ (List.mem_of_getElem? (i := 141) (by decide +kernel))) rfl, rfl, rfl⟩
def M_X3_list : MD := (yX3_list, cX3_list, 4, none)
theorem mk_X3_list : MKV M_X3_list 1 := ⟨⟨mem_lwg (tb_1 _ (List.mem_of_getElem? (i := 6) (by decide +kernel))) rfl, mem_lwg (tb_2 _ (List.mem_of_getElem? (i := 93) (by decide +kernel))) rfl, by decide +kernel, by decide +kernel, by decide +kernel, by decide⟩, mem_lwg (tb_2 _ (List.mem_of_getElem? (i := 91) (by decide +kernel))) rfl, mem_lwg (tb_2 _ (List.mem_of_getElem? (i := 92) (by decide +kernel))) rfl⟩
def M_X3_spell : MD := (yX3_spell, cX3_spell, 7, none)
theorem mk_X3_spell : MKV M_X3_spell 2 := ⟨⟨mem_lwg (tb_1 _ (List.mem_of_getElem? (i := 6) (by decide +kernel))) rfl, mem_lwg (tb_2 _ (List.mem_of_getElem? (i := 97) (by decide +kernel))) rfl, by decide +kernel, by decide +kernel, by decide +kernel, by decide⟩, mem_lwg (tb_2 _ (List.mem_of_getElem? (i := 96) (by decide +kernel))) rfl, mem_lwg (tp_1 _ (List.mem_of_getElem? (i := 0) (by decide +kernel))) rfl⟩
def M_X3_keepsKinds : MD := (yX3_keepsKinds, cX3_keepsKinds, 6, (some .boolean))
theorem mk_X3_keepsKinds : MKV M_X3_keepsKinds 1 := ⟨⟨mem_lwg (tb_1 _ (List.mem_of_getElem? (i := 6) (by decide +kernel))) rfl, mem_lwg (tb_2 _ (List.mem_of_getElem? (i := 101) (by decide +kernel))) rfl, by decide +kernel, by decide +kernel, by decide +kernel, by decide⟩, mem_lwg (tb_2 _ (List.mem_of_getElem? (i := 100) (by decide +kernel))) rfl, mem_lwg (tp_1 _ (List.mem_of_getElem? (i := 1) (by decide +kernel))) rfl⟩
def M_X3_weigh : MD := (yX3_weigh, cX3_weigh, 6, none)
theorem mk_X3_weigh : MKV M_X3_weigh 1 := ⟨⟨mem_lwg (tb_1 _ (List.mem_of_getElem? (i := 6) (by decide +kernel))) rfl, mem_lwg (tb_3 _ (List.mem_of_getElem? (i := 120) (by decide +kernel))) rfl, by decide +kernel, by decide +kernel, by decide +kernel, by decide⟩, mem_lwg (tb_3 _ (List.mem_of_getElem? (i := 118) (by decide +kernel))) rfl, mem_lwg (tb_3 _ (List.mem_of_getElem? (i := 119) (by decide +kernel))) rfl⟩
def M_X3_isGone : MD := (yX3_isGone, cX3_isGone, 2, (some .boolean))
theorem mk_X3_isGone : MKV M_X3_isGone 1 := ⟨⟨mem_lwg (tb_1 _ (List.mem_of_getElem? (i := 6) (by decide +kernel))) rfl, mem_lwg (tb_3 _ (List.mem_of_getElem? (i := 138) (by decide +kernel))) rfl, by decide +kernel, by decide +kernel, by decide +kernel, by decide⟩, mem_lwg (tb_3 _ (List.mem_of_getElem? (i := 136) (by decide +kernel))) rfl, mem_lwg (tb_3 _ (List.mem_of_getElem? (i := 137) (by decide +kernel))) rfl⟩
def M_X3_orderOf : MD := (yX3_orderOf, cX3_orderOf, 3, (some .int))
theorem mk_X3_orderOf : MKV M_X3_orderOf 2 := ⟨⟨mem_lwg (tb_1 _ (List.mem_of_getElem? (i := 6) (by decide +kernel))) rfl, mem_lwg (tb_2 _ (List.mem_of_getElem? (i := 105) (by decide +kernel))) rfl, by decide +kernel, by decide +kernel, by decide +kernel, by decide⟩, mem_lwg (tb_2 _ (List.mem_of_getElem? (i := 103) (by decide +kernel))) rfl, mem_lwg (tb_2 _ (List.mem_of_getElem? (i := 104) (by decide +kernel))) rfl⟩
def M_X3_changeOf : MD := (yX3_changeOf, cX3_changeOf, 4, (some .int))
theorem mk_X3_changeOf : MKV M_X3_changeOf 2 := ⟨⟨mem_lwg (tb_1 _ (List.mem_of_getElem? (i := 6) (by decide +kernel))) rfl, mem_lwg (tb_3 _ (List.mem_of_getElem? (i := 124) (by decide +kernel))) rfl, by decide +kernel, by decide +kernel, by decide +kernel, by decide⟩, mem_lwg (tb_3 _ (List.mem_of_getElem? (i := 122) (by decide +kernel))) rfl, mem_lwg (tb_3 _ (List.mem_of_getElem? (i := 123) (by decide +kernel))) rfl⟩
def M_X3_countChanges : MD := (yX3_countChanges, cX3_countChanges, 5, (some .int))
theorem mk_X3_countChanges : MKV M_X3_countChanges 2 := ⟨⟨mem_lwg (tb_1 _ (List.mem_of_getElem? (i := 6) (by decide +kernel))) rfl, mem_lwg (tb_4 _ (List.mem_of_getElem? (i := 51) (by decide +kernel))) rfl, by decide +kernel, by decide +kernel, by decide +kernel, by decide⟩, mem_lwg (tb_4 _ (List.mem_of_getElem? (i := 49) (by decide +kernel))) rfl, mem_lwg (tb_4 _ (List.mem_of_getElem? (i := 50) (by decide +kernel))) rfl⟩
def M_X3_greatestOrder : MD := (yX3_greatestOrder, cX3_greatestOrder, 5, (some .int))
theorem mk_X3_greatestOrder : MKV M_X3_greatestOrder 2 := ⟨⟨mem_lwg (tb_1 _ (List.mem_of_getElem? (i := 6) (by decide +kernel))) rfl, mem_lwg (tb_4 _ (List.mem_of_getElem? (i := 55) (by decide +kernel))) rfl, by decide +kernel, by decide +kernel, by decide +kernel, by decide⟩, mem_lwg (tb_4 _ (List.mem_of_getElem? (i := 53) (by decide +kernel))) rfl, mem_lwg (tb_4 _ (List.mem_of_getElem? (i := 54) (by decide +kernel))) rfl⟩
def M_X4_init : MD := (yX4_init, cX4_init, 1, none)
theorem mk_X4_init : MKI M_X4_init 0 := ⟨⟨mem_lwg (tb_1 _ (List.mem_of_getElem? (i := 2) (by decide +kernel))) rfl, mem_lwg (tb_1 _ (List.mem_of_getElem? (i := 30) (by decide +kernel))) rfl, by decide +kernel, by decide +kernel, by decide +kernel, by decide⟩, mem_lwg (tb_1 _ (List.mem_of_getElem? (i := 29) (by decide +kernel))) rfl, rfl, rfl⟩
def M_X4_begin : MD := (yX4_begin, cX4_begin, 3, none)
theorem mk_X4_begin : MKV M_X4_begin 2 := ⟨⟨mem_lwg (tb_1 _ (List.mem_of_getElem? (i := 2) (by decide +kernel))) rfl, mem_lwg (tb_2 _ (List.mem_of_getElem? (i := 165) (by decide +kernel))) rfl, by decide +kernel, by decide +kernel, by decide +kernel, by decide⟩, mem_lwg (tb_2 _ (List.mem_of_getElem? (i := 163) (by decide +kernel))) rfl, mem_lwg (tb_2 _ (List.mem_of_getElem? (i := 164) (by decide +kernel))) rfl⟩
def M_X4_unmark : MD := (yX4_unmark, cX4_unmark, 1, none)
theorem mk_X4_unmark : MKV M_X4_unmark 0 := ⟨⟨mem_lwg (tb_1 _ (List.mem_of_getElem? (i := 2) (by decide +kernel))) rfl, mem_lwg (tb_2 _ (List.mem_of_getElem? (i := 169) (by decide +kernel))) rfl, by decide +kernel, by decide +kernel, by decide +kernel, by decide⟩, mem_lwg (tb_2 _ (List.mem_of_getElem? (i := 167) (by decide +kernel))) rfl, mem_lwg (tb_2 _ (List.mem_of_getElem? (i := 168) (by decide +kernel))) rfl⟩
def M_X4_copyFrom : MD := (yX4_copyFrom, cX4_copyFrom, 2, none)
theorem mk_X4_copyFrom : MKV M_X4_copyFrom 1 := ⟨⟨mem_lwg (tb_1 _ (List.mem_of_getElem? (i := 2) (by decide +kernel))) rfl, mem_lwg (tb_4 _ (List.mem_of_getElem? (i := 206) (by decide +kernel))) rfl, by decide +kernel, by decide +kernel, by decide +kernel, by decide⟩, mem_lwg (tb_4 _ (List.mem_of_getElem? (i := 204) (by decide +kernel))) rfl, mem_lwg (tb_4 _ (List.mem_of_getElem? (i := 205) (by decide +kernel))) rfl⟩
def M_X4_firstWished : MD := (yX4_firstWished, cX4_firstWished, 3, (some .int))
theorem mk_X4_firstWished : MKV M_X4_firstWished 1 := ⟨⟨mem_lwg (tb_1 _ (List.mem_of_getElem? (i := 2) (by decide +kernel))) rfl, mem_lwg (tb_2 _ (List.mem_of_getElem? (i := 181) (by decide +kernel))) rfl, by decide +kernel, by decide +kernel, by decide +kernel, by decide⟩, mem_lwg (tb_2 _ (List.mem_of_getElem? (i := 179) (by decide +kernel))) rfl, mem_lwg (tb_2 _ (List.mem_of_getElem? (i := 180) (by decide +kernel))) rfl⟩
def M_X4_countMarks : MD := (yX4_countMarks, cX4_countMarks, 5, (some .int))
theorem mk_X4_countMarks : MKV M_X4_countMarks 2 := ⟨⟨mem_lwg (tb_1 _ (List.mem_of_getElem? (i := 2) (by decide +kernel))) rfl, mem_lwg (tb_4 _ (List.mem_of_getElem? (i := 219) (by decide +kernel))) rfl, by decide +kernel, by decide +kernel, by decide +kernel, by decide⟩, mem_lwg (tb_4 _ (List.mem_of_getElem? (i := 217) (by decide +kernel))) rfl, mem_lwg (tb_4 _ (List.mem_of_getElem? (i := 218) (by decide +kernel))) rfl⟩
def M_X5_init : MD := (yX5_init, cX5_init, 1, none)
theorem mk_X5_init : MKI M_X5_init 0 := ⟨⟨mem_lwg (tb_1 _ (List.mem_of_getElem? (i := 7) (by decide +kernel))) rfl, mem_lwg (tb_1 _ (List.mem_of_getElem? (i := 175) (by decide +kernel))) rfl, by decide +kernel, by decide +kernel, by decide +kernel, by decide⟩, mem_lwg (tb_1 _ (List.mem_of_getElem? (i := 174) (by decide +kernel))) rfl, rfl, rfl⟩
def M_X5_build : MD := (yX5_build, cX5_build, 5, none)
theorem mk_X5_build : MKV M_X5_build 2 := ⟨⟨mem_lwg (tb_1 _ (List.mem_of_getElem? (i := 7) (by decide +kernel))) rfl, mem_lwg (tb_3 _ (List.mem_of_getElem? (i := 212) (by decide +kernel))) rfl, by decide +kernel, by decide +kernel, by decide +kernel, by decide⟩, mem_lwg (tb_3 _ (List.mem_of_getElem? (i := 210) (by decide +kernel))) rfl, mem_lwg (tb_3 _ (List.mem_of_getElem? (i := 211) (by decide +kernel))) rfl⟩
def M_X5_trackChief : MD := (yX5_trackChief, cX5_trackChief, 4, none)
theorem mk_X5_trackChief : MKV M_X5_trackChief 2 := ⟨⟨mem_lwg (tb_1 _ (List.mem_of_getElem? (i := 7) (by decide +kernel))) rfl, mem_lwg (tb_3 _ (List.mem_of_getElem? (i := 221) (by decide +kernel))) rfl, by decide +kernel, by decide +kernel, by decide +kernel, by decide⟩, mem_lwg (tb_3 _ (List.mem_of_getElem? (i := 219) (by decide +kernel))) rfl, mem_lwg (tb_3 _ (List.mem_of_getElem? (i := 220) (by decide +kernel))) rfl⟩
def M_X5_begin : MD := (yX5_begin, cX5_begin, 2, none)
theorem mk_X5_begin : MKV M_X5_begin 0 := ⟨⟨mem_lwg (tb_1 _ (List.mem_of_getElem? (i := 7) (by decide +kernel))) rfl, mem_lwg (tb_3 _ (List.mem_of_getElem? (i := 231) (by decide +kernel))) rfl, by decide +kernel, by decide +kernel, by decide +kernel, by decide⟩, mem_lwg (tb_3 _ (List.mem_of_getElem? (i := 229) (by decide +kernel))) rfl, mem_lwg (tb_3 _ (List.mem_of_getElem? (i := 230) (by decide +kernel))) rfl⟩
def M_X5_addPulse : MD := (yX5_addPulse, cX5_addPulse, 8, none)
theorem mk_X5_addPulse : MKV M_X5_addPulse 4 := ⟨⟨mem_lwg (tb_1 _ (List.mem_of_getElem? (i := 7) (by decide +kernel))) rfl, mem_lwg (tb_3 _ (List.mem_of_getElem? (i := 227) (by decide +kernel))) rfl, by decide +kernel, by decide +kernel, by decide +kernel, by decide⟩, mem_lwg (tb_3 _ (List.mem_of_getElem? (i := 226) (by decide +kernel))) rfl, mem_lwg (tp_2 _ (List.mem_of_getElem? (i := 13) (by decide +kernel))) rfl⟩
def M_X5_residues : MD := (yX5_residues, cX5_residues, 4, (some (.array .int)))
theorem mk_X5_residues : MKV M_X5_residues 2 := ⟨⟨mem_lwg (tb_1 _ (List.mem_of_getElem? (i := 7) (by decide +kernel))) rfl, mem_lwg (tb_3 _ (List.mem_of_getElem? (i := 239) (by decide +kernel))) rfl, by decide +kernel, by decide +kernel, by decide +kernel, by decide⟩, mem_lwg (tb_3 _ (List.mem_of_getElem? (i := 237) (by decide +kernel))) rfl, mem_lwg (tb_3 _ (List.mem_of_getElem? (i := 238) (by decide +kernel))) rfl⟩
def M_X5_tally : MD := (yX5_tally, cX5_tally, 6, (some (.array .int)))
theorem mk_X5_tally : MKV M_X5_tally 3 := ⟨⟨mem_lwg (tb_1 _ (List.mem_of_getElem? (i := 7) (by decide +kernel))) rfl, mem_lwg (tb_4 _ (List.mem_of_getElem? (i := 7) (by decide +kernel))) rfl, by decide +kernel, by decide +kernel, by decide +kernel, by decide⟩, mem_lwg (tb_4 _ (List.mem_of_getElem? (i := 5) (by decide +kernel))) rfl, mem_lwg (tb_4 _ (List.mem_of_getElem? (i := 6) (by decide +kernel))) rfl⟩
def M_X6_init : MD := (yX6_init, cX6_init, 1, none)
theorem mk_X6_init : MKI M_X6_init 0 := ⟨⟨mem_lwg (tb_1 _ (List.mem_of_getElem? (i := 8) (by decide +kernel))) rfl, mem_lwg (tb_1 _ (List.mem_of_getElem? (i := 211) (by decide +kernel))) rfl, by decide +kernel, by decide +kernel, by decide +kernel, by decide⟩, mem_lwg (tb_1 _ (List.mem_of_getElem? (i := 210) (by decide +kernel))) rfl, rfl, rfl⟩
def M_X6_begin : MD := (yX6_begin, cX6_begin, 2, none)
theorem mk_X6_begin : MKV M_X6_begin 1 := ⟨⟨mem_lwg (tb_1 _ (List.mem_of_getElem? (i := 8) (by decide +kernel))) rfl, mem_lwg (tb_4 _ (List.mem_of_getElem? (i := 25) (by decide +kernel))) rfl, by decide +kernel, by decide +kernel, by decide +kernel, by decide⟩, mem_lwg (tb_4 _ (List.mem_of_getElem? (i := 23) (by decide +kernel))) rfl, mem_lwg (tb_4 _ (List.mem_of_getElem? (i := 24) (by decide +kernel))) rfl⟩
def M_X6_factor : MD := (yX6_factor, cX6_factor, 5, none)
theorem mk_X6_factor : MKV M_X6_factor 1 := ⟨⟨mem_lwg (tb_1 _ (List.mem_of_getElem? (i := 8) (by decide +kernel))) rfl, mem_lwg (tb_4 _ (List.mem_of_getElem? (i := 29) (by decide +kernel))) rfl, by decide +kernel, by decide +kernel, by decide +kernel, by decide⟩, mem_lwg (tb_4 _ (List.mem_of_getElem? (i := 28) (by decide +kernel))) rfl, mem_lwg (tp_2 _ (List.mem_of_getElem? (i := 15) (by decide +kernel))) rfl⟩
def M_X6_add : MD := (yX6_add, cX6_add, 7, none)
theorem mk_X6_add : MKV M_X6_add 2 := ⟨⟨mem_lwg (tb_1 _ (List.mem_of_getElem? (i := 8) (by decide +kernel))) rfl, mem_lwg (tb_4 _ (List.mem_of_getElem? (i := 34) (by decide +kernel))) rfl, by decide +kernel, by decide +kernel, by decide +kernel, by decide⟩, mem_lwg (tb_4 _ (List.mem_of_getElem? (i := 32) (by decide +kernel))) rfl, mem_lwg (tb_4 _ (List.mem_of_getElem? (i := 33) (by decide +kernel))) rfl⟩
def M_X6_stateOf : MD := (yX6_stateOf, cX6_stateOf, 4, (some .int))
theorem mk_X6_stateOf : MKV M_X6_stateOf 2 := ⟨⟨mem_lwg (tb_1 _ (List.mem_of_getElem? (i := 8) (by decide +kernel))) rfl, mem_lwg (tb_4 _ (List.mem_of_getElem? (i := 21) (by decide +kernel))) rfl, by decide +kernel, by decide +kernel, by decide +kernel, by decide⟩, mem_lwg (tb_4 _ (List.mem_of_getElem? (i := 19) (by decide +kernel))) rfl, mem_lwg (tb_4 _ (List.mem_of_getElem? (i := 20) (by decide +kernel))) rfl⟩
def M_X6_state : MD := (yX6_state, cX6_state, 1, (some .int))
theorem mk_X6_state : MKV M_X6_state 0 := ⟨⟨mem_lwg (tb_1 _ (List.mem_of_getElem? (i := 8) (by decide +kernel))) rfl, mem_lwg (tb_4 _ (List.mem_of_getElem? (i := 38) (by decide +kernel))) rfl, by decide +kernel, by decide +kernel, by decide +kernel, by decide⟩, mem_lwg (tb_4 _ (List.mem_of_getElem? (i := 36) (by decide +kernel))) rfl, mem_lwg (tb_4 _ (List.mem_of_getElem? (i := 37) (by decide +kernel))) rfl⟩
def M_X7_init : MD := (yX7_init, cX7_init, 1, none)
theorem mk_X7_init : MKI M_X7_init 0 := ⟨⟨mem_lwg (tb_1 _ (List.mem_of_getElem? (i := 5) (by decide +kernel))) rfl, mem_lwg (tb_1 _ (List.mem_of_getElem? (i := 109) (by decide +kernel))) rfl, by decide +kernel, by decide +kernel, by decide +kernel, by decide⟩, mem_lwg (tb_1 _ (List.mem_of_getElem? (i := 108) (by decide +kernel))) rfl, rfl, rfl⟩
def M_X7_put : MD := (yX7_put, cX7_put, 3, none)
theorem mk_X7_put : MKV M_X7_put 1 := ⟨⟨mem_lwg (tb_1 _ (List.mem_of_getElem? (i := 5) (by decide +kernel))) rfl, mem_lwg (tb_3 _ (List.mem_of_getElem? (i := 38) (by decide +kernel))) rfl, by decide +kernel, by decide +kernel, by decide +kernel, by decide⟩, mem_lwg (tb_3 _ (List.mem_of_getElem? (i := 36) (by decide +kernel))) rfl, mem_lwg (tb_3 _ (List.mem_of_getElem? (i := 37) (by decide +kernel))) rfl⟩
def M_X7_read : MD := (yX7_read, cX7_read, 5, (some .int))
theorem mk_X7_read : MKV M_X7_read 2 := ⟨⟨mem_lwg (tb_1 _ (List.mem_of_getElem? (i := 5) (by decide +kernel))) rfl, mem_lwg (tb_3 _ (List.mem_of_getElem? (i := 50) (by decide +kernel))) rfl, by decide +kernel, by decide +kernel, by decide +kernel, by decide⟩, mem_lwg (tb_3 _ (List.mem_of_getElem? (i := 48) (by decide +kernel))) rfl, mem_lwg (tb_3 _ (List.mem_of_getElem? (i := 49) (by decide +kernel))) rfl⟩
def M_X7_readRow : MD := (yX7_readRow, cX7_readRow, 5, (some .boolean))
theorem mk_X7_readRow : MKV M_X7_readRow 2 := ⟨⟨mem_lwg (tb_1 _ (List.mem_of_getElem? (i := 5) (by decide +kernel))) rfl, mem_lwg (tb_3 _ (List.mem_of_getElem? (i := 63) (by decide +kernel))) rfl, by decide +kernel, by decide +kernel, by decide +kernel, by decide⟩, mem_lwg (tb_3 _ (List.mem_of_getElem? (i := 62) (by decide +kernel))) rfl, mem_lwg (tp_1 _ (List.mem_of_getElem? (i := 12) (by decide +kernel))) rfl⟩
def M_X7_readName : MD := (yX7_readName, cX7_readName, 4, (some .int))
theorem mk_X7_readName : MKV M_X7_readName 1 := ⟨⟨mem_lwg (tb_1 _ (List.mem_of_getElem? (i := 5) (by decide +kernel))) rfl, mem_lwg (tb_3 _ (List.mem_of_getElem? (i := 67) (by decide +kernel))) rfl, by decide +kernel, by decide +kernel, by decide +kernel, by decide⟩, mem_lwg (tb_3 _ (List.mem_of_getElem? (i := 66) (by decide +kernel))) rfl, mem_lwg (tp_1 _ (List.mem_of_getElem? (i := 13) (by decide +kernel))) rfl⟩
def M_X7_readNumbers : MD := (yX7_readNumbers, cX7_readNumbers, 6, (some .boolean))
theorem mk_X7_readNumbers : MKV M_X7_readNumbers 2 := ⟨⟨mem_lwg (tb_1 _ (List.mem_of_getElem? (i := 5) (by decide +kernel))) rfl, mem_lwg (tb_3 _ (List.mem_of_getElem? (i := 75) (by decide +kernel))) rfl, by decide +kernel, by decide +kernel, by decide +kernel, by decide⟩, mem_lwg (tb_3 _ (List.mem_of_getElem? (i := 74) (by decide +kernel))) rfl, mem_lwg (tp_1 _ (List.mem_of_getElem? (i := 15) (by decide +kernel))) rfl⟩
def M_X7_readNumber : MD := (yX7_readNumber, cX7_readNumber, 3, (some .int))
theorem mk_X7_readNumber : MKV M_X7_readNumber 0 := ⟨⟨mem_lwg (tb_1 _ (List.mem_of_getElem? (i := 5) (by decide +kernel))) rfl, mem_lwg (tb_3 _ (List.mem_of_getElem? (i := 83) (by decide +kernel))) rfl, by decide +kernel, by decide +kernel, by decide +kernel, by decide⟩, mem_lwg (tb_3 _ (List.mem_of_getElem? (i := 82) (by decide +kernel))) rfl, mem_lwg (tp_2 _ (List.mem_of_getElem? (i := 1) (by decide +kernel))) rfl⟩
def M_X7_skipBlanks : MD := (yX7_skipBlanks, cX7_skipBlanks, 2, none)
theorem mk_X7_skipBlanks : MKV M_X7_skipBlanks 0 := ⟨⟨mem_lwg (tb_1 _ (List.mem_of_getElem? (i := 5) (by decide +kernel))) rfl, mem_lwg (tb_3 _ (List.mem_of_getElem? (i := 55) (by decide +kernel))) rfl, by decide +kernel, by decide +kernel, by decide +kernel, by decide⟩, mem_lwg (tb_3 _ (List.mem_of_getElem? (i := 54) (by decide +kernel))) rfl, mem_lwg (tp_1 _ (List.mem_of_getElem? (i := 10) (by decide +kernel))) rfl⟩
def M_X7_digitHere : MD := (yX7_digitHere, cX7_digitHere, 2, (some .boolean))
theorem mk_X7_digitHere : MKV M_X7_digitHere 0 := ⟨⟨mem_lwg (tb_1 _ (List.mem_of_getElem? (i := 5) (by decide +kernel))) rfl, mem_lwg (tb_3 _ (List.mem_of_getElem? (i := 79) (by decide +kernel))) rfl, by decide +kernel, by decide +kernel, by decide +kernel, by decide⟩, mem_lwg (tb_3 _ (List.mem_of_getElem? (i := 78) (by decide +kernel))) rfl, mem_lwg (tp_2 _ (List.mem_of_getElem? (i := 0) (by decide +kernel))) rfl⟩
def M_X7_byteHere : MD := (yX7_byteHere, cX7_byteHere, 1, (some .int))
theorem mk_X7_byteHere : MKV M_X7_byteHere 0 := ⟨⟨mem_lwg (tb_1 _ (List.mem_of_getElem? (i := 5) (by decide +kernel))) rfl, mem_lwg (tb_3 _ (List.mem_of_getElem? (i := 59) (by decide +kernel))) rfl, by decide +kernel, by decide +kernel, by decide +kernel, by decide⟩, mem_lwg (tb_3 _ (List.mem_of_getElem? (i := 58) (by decide +kernel))) rfl, mem_lwg (tp_1 _ (List.mem_of_getElem? (i := 11) (by decide +kernel))) rfl⟩
def M_X7_fail : MD := (yX7_fail, cX7_fail, 3, (some .boolean))
theorem mk_X7_fail : MKV M_X7_fail 2 := ⟨⟨mem_lwg (tb_1 _ (List.mem_of_getElem? (i := 5) (by decide +kernel))) rfl, mem_lwg (tb_3 _ (List.mem_of_getElem? (i := 71) (by decide +kernel))) rfl, by decide +kernel, by decide +kernel, by decide +kernel, by decide⟩, mem_lwg (tb_3 _ (List.mem_of_getElem? (i := 70) (by decide +kernel))) rfl, mem_lwg (tp_1 _ (List.mem_of_getElem? (i := 14) (by decide +kernel))) rfl⟩
def M_X8_init : MD := (yX8_init, cX8_init, 1, none)
theorem mk_X8_init : MKI M_X8_init 0 := ⟨⟨mem_lwg (tb_1 _ (List.mem_of_getElem? (i := 9) (by decide +kernel))) rfl, mem_lwg (tb_2 _ (List.mem_of_getElem? (i := 2) (by decide +kernel))) rfl, by decide +kernel, by decide +kernel, by decide +kernel, by decide⟩, mem_lwg (tb_2 _ (List.mem_of_getElem? (i := 1) (by decide +kernel))) rfl, rfl, rfl⟩
def M_X8_gather : MD := (yX8_gather, cX8_gather, 5, none)
theorem mk_X8_gather : MKV M_X8_gather 3 := ⟨⟨mem_lwg (tb_1 _ (List.mem_of_getElem? (i := 9) (by decide +kernel))) rfl, mem_lwg (tb_3 _ (List.mem_of_getElem? (i := 128) (by decide +kernel))) rfl, by decide +kernel, by decide +kernel, by decide +kernel, by decide⟩, mem_lwg (tb_3 _ (List.mem_of_getElem? (i := 126) (by decide +kernel))) rfl, mem_lwg (tb_3 _ (List.mem_of_getElem? (i := 127) (by decide +kernel))) rfl⟩
def M_X8_sort : MD := (yX8_sort, cX8_sort, 8, none)
theorem mk_X8_sort : MKV M_X8_sort 3 := ⟨⟨mem_lwg (tb_1 _ (List.mem_of_getElem? (i := 9) (by decide +kernel))) rfl, mem_lwg (tb_3 _ (List.mem_of_getElem? (i := 134) (by decide +kernel))) rfl, by decide +kernel, by decide +kernel, by decide +kernel, by decide⟩, mem_lwg (tb_3 _ (List.mem_of_getElem? (i := 133) (by decide +kernel))) rfl, mem_lwg (tp_2 _ (List.mem_of_getElem? (i := 5) (by decide +kernel))) rfl⟩
def M_X8_gap : MD := (yX8_gap, cX8_gap, 4, (some .int))
theorem mk_X8_gap : MKV M_X8_gap 3 := ⟨⟨mem_lwg (tb_1 _ (List.mem_of_getElem? (i := 9) (by decide +kernel))) rfl, mem_lwg (tb_3 _ (List.mem_of_getElem? (i := 142) (by decide +kernel))) rfl, by decide +kernel, by decide +kernel, by decide +kernel, by decide⟩, mem_lwg (tb_3 _ (List.mem_of_getElem? (i := 140) (by decide +kernel))) rfl, mem_lwg (tb_3 _ (List.mem_of_getElem? (i := 141) (by decide +kernel))) rfl⟩
def M_X8_divisorOf : MD := (yX8_divisorOf, cX8_divisorOf, 6, (some .int))
theorem mk_X8_divisorOf : MKS M_X8_divisorOf 2 := ⟨⟨mem_lwg (tb_1 _ (List.mem_of_getElem? (i := 9) (by decide +kernel))) rfl, mem_lwg (tb_3 _ (List.mem_of_getElem? (i := 146) (by decide +kernel))) rfl, by decide +kernel, by decide +kernel, by decide +kernel, by decide⟩, mem_lwg (tb_3 _ (List.mem_of_getElem? (i := 145) (by decide +kernel))) rfl⟩
def M_X8_countLeft : MD := (yX8_countLeft, cX8_countLeft, 7, (some .int))
theorem mk_X8_countLeft : MKV M_X8_countLeft 2 := ⟨⟨mem_lwg (tb_1 _ (List.mem_of_getElem? (i := 9) (by decide +kernel))) rfl, mem_lwg (tb_4 _ (List.mem_of_getElem? (i := 172) (by decide +kernel))) rfl, by decide +kernel, by decide +kernel, by decide +kernel, by decide⟩, mem_lwg (tb_4 _ (List.mem_of_getElem? (i := 170) (by decide +kernel))) rfl, mem_lwg (tb_4 _ (List.mem_of_getElem? (i := 171) (by decide +kernel))) rfl⟩
def M_X8_keepLeft : MD := (yX8_keepLeft, cX8_keepLeft, 8, (some .int))
theorem mk_X8_keepLeft : MKV M_X8_keepLeft 4 := ⟨⟨mem_lwg (tb_1 _ (List.mem_of_getElem? (i := 9) (by decide +kernel))) rfl, mem_lwg (tb_3 _ (List.mem_of_getElem? (i := 159) (by decide +kernel))) rfl, by decide +kernel, by decide +kernel, by decide +kernel, by decide⟩, mem_lwg (tb_3 _ (List.mem_of_getElem? (i := 157) (by decide +kernel))) rfl, mem_lwg (tb_3 _ (List.mem_of_getElem? (i := 158) (by decide +kernel))) rfl⟩
def M_X9_init : MD := (yX9_init, cX9_init, 1, none)
theorem mk_X9_init : MKI M_X9_init 0 := ⟨⟨mem_lwg (tb_1 _ (List.mem_of_getElem? (i := 1) (by decide +kernel))) rfl, mem_lwg (tb_1 _ (List.mem_of_getElem? (i := 22) (by decide +kernel))) rfl, by decide +kernel, by decide +kernel, by decide +kernel, by decide⟩, mem_lwg (tb_1 _ (List.mem_of_getElem? (i := 21) (by decide +kernel))) rfl, rfl, rfl⟩
def M_X9_pulses : MD := (yX9_pulses, cX9_pulses, 3, (some .int))
theorem mk_X9_pulses : MKV M_X9_pulses 2 := ⟨⟨mem_lwg (tb_1 _ (List.mem_of_getElem? (i := 1) (by decide +kernel))) rfl, mem_lwg (tb_2 _ (List.mem_of_getElem? (i := 161) (by decide +kernel))) rfl, by decide +kernel, by decide +kernel, by decide +kernel, by decide⟩, mem_lwg (tb_2 _ (List.mem_of_getElem? (i := 159) (by decide +kernel))) rfl, mem_lwg (tb_2 _ (List.mem_of_getElem? (i := 160) (by decide +kernel))) rfl⟩
def M_X9_kind : MD := (yX9_kind, cX9_kind, 3, (some .boolean))
theorem mk_X9_kind : MKV M_X9_kind 2 := ⟨⟨mem_lwg (tb_1 _ (List.mem_of_getElem? (i := 1) (by decide +kernel))) rfl, mem_lwg (tb_2 _ (List.mem_of_getElem? (i := 197) (by decide +kernel))) rfl, by decide +kernel, by decide +kernel, by decide +kernel, by decide⟩, mem_lwg (tb_2 _ (List.mem_of_getElem? (i := 195) (by decide +kernel))) rfl, mem_lwg (tb_2 _ (List.mem_of_getElem? (i := 196) (by decide +kernel))) rfl⟩
def M_X9_turn : MD := (yX9_turn, cX9_turn, 2, (some .boolean))
theorem mk_X9_turn : MKV M_X9_turn 1 := ⟨⟨mem_lwg (tb_1 _ (List.mem_of_getElem? (i := 1) (by decide +kernel))) rfl, mem_lwg (tb_2 _ (List.mem_of_getElem? (i := 206) (by decide +kernel))) rfl, by decide +kernel, by decide +kernel, by decide +kernel, by decide⟩, mem_lwg (tb_2 _ (List.mem_of_getElem? (i := 204) (by decide +kernel))) rfl, mem_lwg (tb_2 _ (List.mem_of_getElem? (i := 205) (by decide +kernel))) rfl⟩
def M_X9_counter : MD := (yX9_counter, cX9_counter, 3, (some .int))
theorem mk_X9_counter : MKV M_X9_counter 2 := ⟨⟨mem_lwg (tb_1 _ (List.mem_of_getElem? (i := 1) (by decide +kernel))) rfl, mem_lwg (tb_2 _ (List.mem_of_getElem? (i := 210) (by decide +kernel))) rfl, by decide +kernel, by decide +kernel, by decide +kernel, by decide⟩, mem_lwg (tb_2 _ (List.mem_of_getElem? (i := 208) (by decide +kernel))) rfl, mem_lwg (tb_2 _ (List.mem_of_getElem? (i := 209) (by decide +kernel))) rfl⟩
def M_X9_step : MD := (yX9_step, cX9_step, 4, (some .boolean))
theorem mk_X9_step : MKV M_X9_step 3 := ⟨⟨mem_lwg (tb_1 _ (List.mem_of_getElem? (i := 1) (by decide +kernel))) rfl, mem_lwg (tb_2 _ (List.mem_of_getElem? (i := 225) (by decide +kernel))) rfl, by decide +kernel, by decide +kernel, by decide +kernel, by decide⟩, mem_lwg (tb_2 _ (List.mem_of_getElem? (i := 223) (by decide +kernel))) rfl, mem_lwg (tb_2 _ (List.mem_of_getElem? (i := 224) (by decide +kernel))) rfl⟩
def M_X9_gradient : MD := (yX9_gradient, cX9_gradient, 3, (some .boolean))
theorem mk_X9_gradient : MKV M_X9_gradient 2 := ⟨⟨mem_lwg (tb_1 _ (List.mem_of_getElem? (i := 1) (by decide +kernel))) rfl, mem_lwg (tb_2 _ (List.mem_of_getElem? (i := 233) (by decide +kernel))) rfl, by decide +kernel, by decide +kernel, by decide +kernel, by decide⟩, mem_lwg (tb_2 _ (List.mem_of_getElem? (i := 231) (by decide +kernel))) rfl, mem_lwg (tb_2 _ (List.mem_of_getElem? (i := 232) (by decide +kernel))) rfl⟩
def M_X9_weight : MD := (yX9_weight, cX9_weight, 4, (some .boolean))
theorem mk_X9_weight : MKV M_X9_weight 3 := ⟨⟨mem_lwg (tb_1 _ (List.mem_of_getElem? (i := 1) (by decide +kernel))) rfl, mem_lwg (tb_2 _ (List.mem_of_getElem? (i := 237) (by decide +kernel))) rfl, by decide +kernel, by decide +kernel, by decide +kernel, by decide⟩, mem_lwg (tb_2 _ (List.mem_of_getElem? (i := 235) (by decide +kernel))) rfl, mem_lwg (tb_2 _ (List.mem_of_getElem? (i := 236) (by decide +kernel))) rfl⟩
def M_X9_swap : MD := (yX9_swap, cX9_swap, 3, (some .boolean))
theorem mk_X9_swap : MKV M_X9_swap 2 := ⟨⟨mem_lwg (tb_1 _ (List.mem_of_getElem? (i := 1) (by decide +kernel))) rfl, mem_lwg (tb_3 _ (List.mem_of_getElem? (i := 1) (by decide +kernel))) rfl, by decide +kernel, by decide +kernel, by decide +kernel, by decide⟩, mem_lwg (tb_2 _ (List.mem_of_getElem? (i := 239) (by decide +kernel))) rfl, mem_lwg (tb_3 _ (List.mem_of_getElem? (i := 0) (by decide +kernel))) rfl⟩
def M_X9_follow : MD := (yX9_follow, cX9_follow, 2, (some .boolean))
theorem mk_X9_follow : MKV M_X9_follow 1 := ⟨⟨mem_lwg (tb_1 _ (List.mem_of_getElem? (i := 1) (by decide +kernel))) rfl, mem_lwg (tb_3 _ (List.mem_of_getElem? (i := 9) (by decide +kernel))) rfl, by decide +kernel, by decide +kernel, by decide +kernel, by decide⟩, mem_lwg (tb_3 _ (List.mem_of_getElem? (i := 7) (by decide +kernel))) rfl, mem_lwg (tb_3 _ (List.mem_of_getElem? (i := 8) (by decide +kernel))) rfl⟩
def M_X9_wish : MD := (yX9_wish, cX9_wish, 3, (some .boolean))
theorem mk_X9_wish : MKV M_X9_wish 2 := ⟨⟨mem_lwg (tb_1 _ (List.mem_of_getElem? (i := 1) (by decide +kernel))) rfl, mem_lwg (tb_3 _ (List.mem_of_getElem? (i := 13) (by decide +kernel))) rfl, by decide +kernel, by decide +kernel, by decide +kernel, by decide⟩, mem_lwg (tb_3 _ (List.mem_of_getElem? (i := 11) (by decide +kernel))) rfl, mem_lwg (tb_3 _ (List.mem_of_getElem? (i := 12) (by decide +kernel))) rfl⟩
def M_X9_free : MD := (yX9_free, cX9_free, 3, (some .boolean))
theorem mk_X9_free : MKV M_X9_free 2 := ⟨⟨mem_lwg (tb_1 _ (List.mem_of_getElem? (i := 1) (by decide +kernel))) rfl, mem_lwg (tb_3 _ (List.mem_of_getElem? (i := 25) (by decide +kernel))) rfl, by decide +kernel, by decide +kernel, by decide +kernel, by decide⟩, mem_lwg (tb_3 _ (List.mem_of_getElem? (i := 23) (by decide +kernel))) rfl, mem_lwg (tb_3 _ (List.mem_of_getElem? (i := 24) (by decide +kernel))) rfl⟩
def M_X9_freeAll : MD := (yX9_freeAll, cX9_freeAll, 5, (some .int))
theorem mk_X9_freeAll : MKV M_X9_freeAll 2 := ⟨⟨mem_lwg (tb_1 _ (List.mem_of_getElem? (i := 1) (by decide +kernel))) rfl, mem_lwg (tb_3 _ (List.mem_of_getElem? (i := 29) (by decide +kernel))) rfl, by decide +kernel, by decide +kernel, by decide +kernel, by decide⟩, mem_lwg (tb_3 _ (List.mem_of_getElem? (i := 27) (by decide +kernel))) rfl, mem_lwg (tb_3 _ (List.mem_of_getElem? (i := 28) (by decide +kernel))) rfl⟩
def M_X9_mark : MD := (yX9_mark, cX9_mark, 5, (some .boolean))
theorem mk_X9_mark : MKV M_X9_mark 3 := ⟨⟨mem_lwg (tb_1 _ (List.mem_of_getElem? (i := 1) (by decide +kernel))) rfl, mem_lwg (tb_3 _ (List.mem_of_getElem? (i := 17) (by decide +kernel))) rfl, by decide +kernel, by decide +kernel, by decide +kernel, by decide⟩, mem_lwg (tb_3 _ (List.mem_of_getElem? (i := 16) (by decide +kernel))) rfl, mem_lwg (tp_1 _ (List.mem_of_getElem? (i := 8) (by decide +kernel))) rfl⟩
def M_X9_feed : MD := (yX9_feed, cX9_feed, 6, (some .int))
theorem mk_X9_feed : MKV M_X9_feed 5 := ⟨⟨mem_lwg (tb_1 _ (List.mem_of_getElem? (i := 1) (by decide +kernel))) rfl, mem_lwg (tb_3 _ (List.mem_of_getElem? (i := 34) (by decide +kernel))) rfl, by decide +kernel, by decide +kernel, by decide +kernel, by decide⟩, mem_lwg (tb_3 _ (List.mem_of_getElem? (i := 32) (by decide +kernel))) rfl, mem_lwg (tb_3 _ (List.mem_of_getElem? (i := 33) (by decide +kernel))) rfl⟩
def M_X9_end : MD := (yX9_end, cX9_end, 2, (some .boolean))
theorem mk_X9_end : MKV M_X9_end 1 := ⟨⟨mem_lwg (tb_1 _ (List.mem_of_getElem? (i := 1) (by decide +kernel))) rfl, mem_lwg (tb_3 _ (List.mem_of_getElem? (i := 42) (by decide +kernel))) rfl, by decide +kernel, by decide +kernel, by decide +kernel, by decide⟩, mem_lwg (tb_3 _ (List.mem_of_getElem? (i := 40) (by decide +kernel))) rfl, mem_lwg (tb_3 _ (List.mem_of_getElem? (i := 41) (by decide +kernel))) rfl⟩
def M_X9_rows : MD := (yX9_rows, cX9_rows, 2, (some .int))
theorem mk_X9_rows : MKV M_X9_rows 0 := ⟨⟨mem_lwg (tb_1 _ (List.mem_of_getElem? (i := 1) (by decide +kernel))) rfl, mem_lwg (tb_3 _ (List.mem_of_getElem? (i := 46) (by decide +kernel))) rfl, by decide +kernel, by decide +kernel, by decide +kernel, by decide⟩, mem_lwg (tb_3 _ (List.mem_of_getElem? (i := 44) (by decide +kernel))) rfl, mem_lwg (tb_3 _ (List.mem_of_getElem? (i := 45) (by decide +kernel))) rfl⟩
def M_X9_fault : MD := (yX9_fault, cX9_fault, 2, (some .int))
theorem mk_X9_fault : MKV M_X9_fault 1 := ⟨⟨mem_lwg (tb_1 _ (List.mem_of_getElem? (i := 1) (by decide +kernel))) rfl, mem_lwg (tb_3 _ (List.mem_of_getElem? (i := 100) (by decide +kernel))) rfl, by decide +kernel, by decide +kernel, by decide +kernel, by decide⟩, mem_lwg (tb_3 _ (List.mem_of_getElem? (i := 98) (by decide +kernel))) rfl, mem_lwg (tb_3 _ (List.mem_of_getElem? (i := 99) (by decide +kernel))) rfl⟩
def M_X9_lay : MD := (yX9_lay, cX9_lay, 3, (some .int))
theorem mk_X9_lay : MKV M_X9_lay 1 := ⟨⟨mem_lwg (tb_1 _ (List.mem_of_getElem? (i := 1) (by decide +kernel))) rfl, mem_lwg (tb_3 _ (List.mem_of_getElem? (i := 104) (by decide +kernel))) rfl, by decide +kernel, by decide +kernel, by decide +kernel, by decide⟩, mem_lwg (tb_3 _ (List.mem_of_getElem? (i := 102) (by decide +kernel))) rfl, mem_lwg (tb_3 _ (List.mem_of_getElem? (i := 103) (by decide +kernel))) rfl⟩
def M_X9_layFewest : MD := (yX9_layFewest, cX9_layFewest, 5, (some .boolean))
theorem mk_X9_layFewest : MKV M_X9_layFewest 0 := ⟨⟨mem_lwg (tb_1 _ (List.mem_of_getElem? (i := 1) (by decide +kernel))) rfl, mem_lwg (tb_3 _ (List.mem_of_getElem? (i := 163) (by decide +kernel))) rfl, by decide +kernel, by decide +kernel, by decide +kernel, by decide⟩, mem_lwg (tb_3 _ (List.mem_of_getElem? (i := 162) (by decide +kernel))) rfl, mem_lwg (tp_2 _ (List.mem_of_getElem? (i := 6) (by decide +kernel))) rfl⟩
def M_X9_layCogs : MD := (yX9_layCogs, cX9_layCogs, 3, (some .boolean))
theorem mk_X9_layCogs : MKV M_X9_layCogs 0 := ⟨⟨mem_lwg (tb_1 _ (List.mem_of_getElem? (i := 1) (by decide +kernel))) rfl, mem_lwg (tb_3 _ (List.mem_of_getElem? (i := 188) (by decide +kernel))) rfl, by decide +kernel, by decide +kernel, by decide +kernel, by decide⟩, mem_lwg (tb_3 _ (List.mem_of_getElem? (i := 187) (by decide +kernel))) rfl, mem_lwg (tp_2 _ (List.mem_of_getElem? (i := 10) (by decide +kernel))) rfl⟩
def M_X9_order : MD := (yX9_order, cX9_order, 3, (some .int))
theorem mk_X9_order : MKV M_X9_order 2 := ⟨⟨mem_lwg (tb_1 _ (List.mem_of_getElem? (i := 1) (by decide +kernel))) rfl, mem_lwg (tb_3 _ (List.mem_of_getElem? (i := 192) (by decide +kernel))) rfl, by decide +kernel, by decide +kernel, by decide +kernel, by decide⟩, mem_lwg (tb_3 _ (List.mem_of_getElem? (i := 190) (by decide +kernel))) rfl, mem_lwg (tb_3 _ (List.mem_of_getElem? (i := 191) (by decide +kernel))) rfl⟩
def M_X9_find : MD := (yX9_find, cX9_find, 8, (some .int))
theorem mk_X9_find : MKV M_X9_find 4 := ⟨⟨mem_lwg (tb_1 _ (List.mem_of_getElem? (i := 1) (by decide +kernel))) rfl, mem_lwg (tb_3 _ (List.mem_of_getElem? (i := 196) (by decide +kernel))) rfl, by decide +kernel, by decide +kernel, by decide +kernel, by decide⟩, mem_lwg (tb_3 _ (List.mem_of_getElem? (i := 194) (by decide +kernel))) rfl, mem_lwg (tb_3 _ (List.mem_of_getElem? (i := 195) (by decide +kernel))) rfl⟩
def M_X9_phase : MD := (yX9_phase, cX9_phase, 3, (some .int))
theorem mk_X9_phase : MKV M_X9_phase 2 := ⟨⟨mem_lwg (tb_1 _ (List.mem_of_getElem? (i := 1) (by decide +kernel))) rfl, mem_lwg (tb_3 _ (List.mem_of_getElem? (i := 200) (by decide +kernel))) rfl, by decide +kernel, by decide +kernel, by decide +kernel, by decide⟩, mem_lwg (tb_3 _ (List.mem_of_getElem? (i := 198) (by decide +kernel))) rfl, mem_lwg (tb_3 _ (List.mem_of_getElem? (i := 199) (by decide +kernel))) rfl⟩
def M_X9_residue : MD := (yX9_residue, cX9_residue, 3, (some .int))
theorem mk_X9_residue : MKV M_X9_residue 2 := ⟨⟨mem_lwg (tb_1 _ (List.mem_of_getElem? (i := 1) (by decide +kernel))) rfl, mem_lwg (tb_3 _ (List.mem_of_getElem? (i := 235) (by decide +kernel))) rfl, by decide +kernel, by decide +kernel, by decide +kernel, by decide⟩, mem_lwg (tb_3 _ (List.mem_of_getElem? (i := 233) (by decide +kernel))) rfl, mem_lwg (tb_3 _ (List.mem_of_getElem? (i := 234) (by decide +kernel))) rfl⟩
def M_X9_many : MD := (yX9_many, cX9_many, 3, (some .int))
theorem mk_X9_many : MKV M_X9_many 2 := ⟨⟨mem_lwg (tb_1 _ (List.mem_of_getElem? (i := 1) (by decide +kernel))) rfl, mem_lwg (tb_4 _ (List.mem_of_getElem? (i := 3) (by decide +kernel))) rfl, by decide +kernel, by decide +kernel, by decide +kernel, by decide⟩, mem_lwg (tb_4 _ (List.mem_of_getElem? (i := 1) (by decide +kernel))) rfl, mem_lwg (tb_4 _ (List.mem_of_getElem? (i := 2) (by decide +kernel))) rfl⟩
def M_X9_path : MD := (yX9_path, cX9_path, 3, (some .int))
theorem mk_X9_path : MKV M_X9_path 2 := ⟨⟨mem_lwg (tb_1 _ (List.mem_of_getElem? (i := 1) (by decide +kernel))) rfl, mem_lwg (tb_4 _ (List.mem_of_getElem? (i := 12) (by decide +kernel))) rfl, by decide +kernel, by decide +kernel, by decide +kernel, by decide⟩, mem_lwg (tb_4 _ (List.mem_of_getElem? (i := 10) (by decide +kernel))) rfl, mem_lwg (tb_4 _ (List.mem_of_getElem? (i := 11) (by decide +kernel))) rfl⟩
def M_X9_leak : MD := (yX9_leak, cX9_leak, 2, (some .int))
theorem mk_X9_leak : MKV M_X9_leak 1 := ⟨⟨mem_lwg (tb_1 _ (List.mem_of_getElem? (i := 1) (by decide +kernel))) rfl, mem_lwg (tb_4 _ (List.mem_of_getElem? (i := 60) (by decide +kernel))) rfl, by decide +kernel, by decide +kernel, by decide +kernel, by decide⟩, mem_lwg (tb_4 _ (List.mem_of_getElem? (i := 58) (by decide +kernel))) rfl, mem_lwg (tb_4 _ (List.mem_of_getElem? (i := 59) (by decide +kernel))) rfl⟩
def M_X9_worst : MD := (yX9_worst, cX9_worst, 4, (some .int))
theorem mk_X9_worst : MKV M_X9_worst 2 := ⟨⟨mem_lwg (tb_1 _ (List.mem_of_getElem? (i := 1) (by decide +kernel))) rfl, mem_lwg (tb_4 _ (List.mem_of_getElem? (i := 72) (by decide +kernel))) rfl, by decide +kernel, by decide +kernel, by decide +kernel, by decide⟩, mem_lwg (tb_4 _ (List.mem_of_getElem? (i := 70) (by decide +kernel))) rfl, mem_lwg (tb_4 _ (List.mem_of_getElem? (i := 71) (by decide +kernel))) rfl⟩
def M_X9_leakByWeight : MD := (yX9_leakByWeight, cX9_leakByWeight, 10, (some .int))
theorem mk_X9_leakByWeight : MKV M_X9_leakByWeight 2 := ⟨⟨mem_lwg (tb_1 _ (List.mem_of_getElem? (i := 1) (by decide +kernel))) rfl, mem_lwg (tb_4 _ (List.mem_of_getElem? (i := 80) (by decide +kernel))) rfl, by decide +kernel, by decide +kernel, by decide +kernel, by decide⟩, mem_lwg (tb_4 _ (List.mem_of_getElem? (i := 79) (by decide +kernel))) rfl, mem_lwg (tp_3 _ (List.mem_of_getElem? (i := 5) (by decide +kernel))) rfl⟩
def M_X9_leakOfWeight : MD := (yX9_leakOfWeight, cX9_leakOfWeight, 6, (some .int))
theorem mk_X9_leakOfWeight : MKV M_X9_leakOfWeight 3 := ⟨⟨mem_lwg (tb_1 _ (List.mem_of_getElem? (i := 1) (by decide +kernel))) rfl, mem_lwg (tb_4 _ (List.mem_of_getElem? (i := 85) (by decide +kernel))) rfl, by decide +kernel, by decide +kernel, by decide +kernel, by decide⟩, mem_lwg (tb_4 _ (List.mem_of_getElem? (i := 84) (by decide +kernel))) rfl, mem_lwg (tp_3 _ (List.mem_of_getElem? (i := 6) (by decide +kernel))) rfl⟩
def M_X9_gatherLeaks : MD := (yX9_gatherLeaks, cX9_gatherLeaks, 3, (some .int))
theorem mk_X9_gatherLeaks : MKV M_X9_gatherLeaks 0 := ⟨⟨mem_lwg (tb_1 _ (List.mem_of_getElem? (i := 1) (by decide +kernel))) rfl, mem_lwg (tb_4 _ (List.mem_of_getElem? (i := 76) (by decide +kernel))) rfl, by decide +kernel, by decide +kernel, by decide +kernel, by decide⟩, mem_lwg (tb_4 _ (List.mem_of_getElem? (i := 75) (by decide +kernel))) rfl, mem_lwg (tp_3 _ (List.mem_of_getElem? (i := 4) (by decide +kernel))) rfl⟩
def M_X9_stopped : MD := (yX9_stopped, cX9_stopped, 4, (some .int))
theorem mk_X9_stopped : MKV M_X9_stopped 1 := ⟨⟨mem_lwg (tb_1 _ (List.mem_of_getElem? (i := 1) (by decide +kernel))) rfl, mem_lwg (tb_4 _ (List.mem_of_getElem? (i := 89) (by decide +kernel))) rfl, by decide +kernel, by decide +kernel, by decide +kernel, by decide⟩, mem_lwg (tb_4 _ (List.mem_of_getElem? (i := 87) (by decide +kernel))) rfl, mem_lwg (tb_4 _ (List.mem_of_getElem? (i := 88) (by decide +kernel))) rfl⟩
def M_X9_isStoppedBy : MD := (yX9_isStoppedBy, cX9_isStoppedBy, 6, (some .boolean))
theorem mk_X9_isStoppedBy : MKV M_X9_isStoppedBy 2 := ⟨⟨mem_lwg (tb_1 _ (List.mem_of_getElem? (i := 1) (by decide +kernel))) rfl, mem_lwg (tb_4 _ (List.mem_of_getElem? (i := 93) (by decide +kernel))) rfl, by decide +kernel, by decide +kernel, by decide +kernel, by decide⟩, mem_lwg (tb_4 _ (List.mem_of_getElem? (i := 92) (by decide +kernel))) rfl, mem_lwg (tp_3 _ (List.mem_of_getElem? (i := 7) (by decide +kernel))) rfl⟩
def M_X9_pace : MD := (yX9_pace, cX9_pace, 5, (some .int))
theorem mk_X9_pace : MKV M_X9_pace 2 := ⟨⟨mem_lwg (tb_1 _ (List.mem_of_getElem? (i := 1) (by decide +kernel))) rfl, mem_lwg (tb_4 _ (List.mem_of_getElem? (i := 97) (by decide +kernel))) rfl, by decide +kernel, by decide +kernel, by decide +kernel, by decide⟩, mem_lwg (tb_4 _ (List.mem_of_getElem? (i := 96) (by decide +kernel))) rfl, mem_lwg (tp_3 _ (List.mem_of_getElem? (i := 8) (by decide +kernel))) rfl⟩
def M_X9_spare : MD := (yX9_spare, cX9_spare, 6, (some .int))
theorem mk_X9_spare : MKV M_X9_spare 1 := ⟨⟨mem_lwg (tb_1 _ (List.mem_of_getElem? (i := 1) (by decide +kernel))) rfl, mem_lwg (tb_4 _ (List.mem_of_getElem? (i := 108) (by decide +kernel))) rfl, by decide +kernel, by decide +kernel, by decide +kernel, by decide⟩, mem_lwg (tb_4 _ (List.mem_of_getElem? (i := 106) (by decide +kernel))) rfl, mem_lwg (tb_4 _ (List.mem_of_getElem? (i := 107) (by decide +kernel))) rfl⟩
def M_X9_wouldBeGood : MD := (yX9_wouldBeGood, cX9_wouldBeGood, 2, (some .boolean))
theorem mk_X9_wouldBeGood : MKV M_X9_wouldBeGood 0 := ⟨⟨mem_lwg (tb_1 _ (List.mem_of_getElem? (i := 1) (by decide +kernel))) rfl, mem_lwg (tb_4 _ (List.mem_of_getElem? (i := 112) (by decide +kernel))) rfl, by decide +kernel, by decide +kernel, by decide +kernel, by decide⟩, mem_lwg (tb_4 _ (List.mem_of_getElem? (i := 111) (by decide +kernel))) rfl, mem_lwg (tp_3 _ (List.mem_of_getElem? (i := 9) (by decide +kernel))) rfl⟩
def M_X9_soonest : MD := (yX9_soonest, cX9_soonest, 2, (some .int))
theorem mk_X9_soonest : MKV M_X9_soonest 0 := ⟨⟨mem_lwg (tb_1 _ (List.mem_of_getElem? (i := 1) (by decide +kernel))) rfl, mem_lwg (tb_4 _ (List.mem_of_getElem? (i := 124) (by decide +kernel))) rfl, by decide +kernel, by decide +kernel, by decide +kernel, by decide⟩, mem_lwg (tb_4 _ (List.mem_of_getElem? (i := 122) (by decide +kernel))) rfl, mem_lwg (tb_4 _ (List.mem_of_getElem? (i := 123) (by decide +kernel))) rfl⟩
def M_X9_strikeScans : MD := (yX9_strikeScans, cX9_strikeScans, 5, none)
theorem mk_X9_strikeScans : MKV M_X9_strikeScans 1 := ⟨⟨mem_lwg (tb_1 _ (List.mem_of_getElem? (i := 1) (by decide +kernel))) rfl, mem_lwg (tb_4 _ (List.mem_of_getElem? (i := 134) (by decide +kernel))) rfl, by decide +kernel, by decide +kernel, by decide +kernel, by decide⟩, mem_lwg (tb_4 _ (List.mem_of_getElem? (i := 133) (by decide +kernel))) rfl, mem_lwg (tp_3 _ (List.mem_of_getElem? (i := 12) (by decide +kernel))) rfl⟩
def M_X9_lost : MD := (yX9_lost, cX9_lost, 2, (some .int))
theorem mk_X9_lost : MKV M_X9_lost 1 := ⟨⟨mem_lwg (tb_1 _ (List.mem_of_getElem? (i := 1) (by decide +kernel))) rfl, mem_lwg (tb_4 _ (List.mem_of_getElem? (i := 138) (by decide +kernel))) rfl, by decide +kernel, by decide +kernel, by decide +kernel, by decide⟩, mem_lwg (tb_4 _ (List.mem_of_getElem? (i := 136) (by decide +kernel))) rfl, mem_lwg (tb_4 _ (List.mem_of_getElem? (i := 137) (by decide +kernel))) rfl⟩
def M_X9_early : MD := (yX9_early, cX9_early, 3, (some .int))
theorem mk_X9_early : MKV M_X9_early 2 := ⟨⟨mem_lwg (tb_1 _ (List.mem_of_getElem? (i := 1) (by decide +kernel))) rfl, mem_lwg (tb_4 _ (List.mem_of_getElem? (i := 142) (by decide +kernel))) rfl, by decide +kernel, by decide +kernel, by decide +kernel, by decide⟩, mem_lwg (tb_4 _ (List.mem_of_getElem? (i := 140) (by decide +kernel))) rfl, mem_lwg (tb_4 _ (List.mem_of_getElem? (i := 141) (by decide +kernel))) rfl⟩
def M_X9_earlyState : MD := (yX9_earlyState, cX9_earlyState, 3, (some .int))
theorem mk_X9_earlyState : MKV M_X9_earlyState 2 := ⟨⟨mem_lwg (tb_1 _ (List.mem_of_getElem? (i := 1) (by decide +kernel))) rfl, mem_lwg (tb_4 _ (List.mem_of_getElem? (i := 120) (by decide +kernel))) rfl, by decide +kernel, by decide +kernel, by decide +kernel, by decide⟩, mem_lwg (tb_4 _ (List.mem_of_getElem? (i := 119) (by decide +kernel))) rfl, mem_lwg (tp_3 _ (List.mem_of_getElem? (i := 11) (by decide +kernel))) rfl⟩
def M_X9_until : MD := (yX9_until, cX9_until, 5, (some .int))
theorem mk_X9_until : MKV M_X9_until 2 := ⟨⟨mem_lwg (tb_1 _ (List.mem_of_getElem? (i := 1) (by decide +kernel))) rfl, mem_lwg (tb_4 _ (List.mem_of_getElem? (i := 146) (by decide +kernel))) rfl, by decide +kernel, by decide +kernel, by decide +kernel, by decide⟩, mem_lwg (tb_4 _ (List.mem_of_getElem? (i := 144) (by decide +kernel))) rfl, mem_lwg (tb_4 _ (List.mem_of_getElem? (i := 145) (by decide +kernel))) rfl⟩
def M_X9_fewest : MD := (yX9_fewest, cX9_fewest, 2, (some .int))
theorem mk_X9_fewest : MKV M_X9_fewest 1 := ⟨⟨mem_lwg (tb_1 _ (List.mem_of_getElem? (i := 1) (by decide +kernel))) rfl, mem_lwg (tb_4 _ (List.mem_of_getElem? (i := 150) (by decide +kernel))) rfl, by decide +kernel, by decide +kernel, by decide +kernel, by decide⟩, mem_lwg (tb_4 _ (List.mem_of_getElem? (i := 148) (by decide +kernel))) rfl, mem_lwg (tb_4 _ (List.mem_of_getElem? (i := 149) (by decide +kernel))) rfl⟩
def M_X9_cogs : MD := (yX9_cogs, cX9_cogs, 2, (some .int))
theorem mk_X9_cogs : MKV M_X9_cogs 1 := ⟨⟨mem_lwg (tb_1 _ (List.mem_of_getElem? (i := 1) (by decide +kernel))) rfl, mem_lwg (tb_4 _ (List.mem_of_getElem? (i := 154) (by decide +kernel))) rfl, by decide +kernel, by decide +kernel, by decide +kernel, by decide⟩, mem_lwg (tb_4 _ (List.mem_of_getElem? (i := 152) (by decide +kernel))) rfl, mem_lwg (tb_4 _ (List.mem_of_getElem? (i := 153) (by decide +kernel))) rfl⟩
def M_X9_power : MD := (yX9_power, cX9_power, 8, (some .long))
theorem mk_X9_power : MKV M_X9_power 1 := ⟨⟨mem_lwg (tb_1 _ (List.mem_of_getElem? (i := 1) (by decide +kernel))) rfl, mem_lwg (tb_4 _ (List.mem_of_getElem? (i := 158) (by decide +kernel))) rfl, by decide +kernel, by decide +kernel, by decide +kernel, by decide⟩, mem_lwg (tb_4 _ (List.mem_of_getElem? (i := 156) (by decide +kernel))) rfl, mem_lwg (tb_4 _ (List.mem_of_getElem? (i := 157) (by decide +kernel))) rfl⟩
def M_X9_twiceCosine : MD := (yX9_twiceCosine, cX9_twiceCosine, 3, (some .int))
theorem mk_X9_twiceCosine : MKS M_X9_twiceCosine 2 := ⟨⟨mem_lwg (tb_1 _ (List.mem_of_getElem? (i := 1) (by decide +kernel))) rfl, mem_lwg (tb_4 _ (List.mem_of_getElem? (i := 163) (by decide +kernel))) rfl, by decide +kernel, by decide +kernel, by decide +kernel, by decide⟩, mem_lwg (tb_4 _ (List.mem_of_getElem? (i := 162) (by decide +kernel))) rfl⟩
def M_X9_would : MD := (yX9_would, cX9_would, 9, (some .int))
theorem mk_X9_would : MKV M_X9_would 5 := ⟨⟨mem_lwg (tb_1 _ (List.mem_of_getElem? (i := 1) (by decide +kernel))) rfl, mem_lwg (tb_4 _ (List.mem_of_getElem? (i := 168) (by decide +kernel))) rfl, by decide +kernel, by decide +kernel, by decide +kernel, by decide⟩, mem_lwg (tb_4 _ (List.mem_of_getElem? (i := 166) (by decide +kernel))) rfl, mem_lwg (tb_4 _ (List.mem_of_getElem? (i := 167) (by decide +kernel))) rfl⟩
def M_X9_share : MD := (yX9_share, cX9_share, 3, (some .int))
theorem mk_X9_share : MKV M_X9_share 1 := ⟨⟨mem_lwg (tb_1 _ (List.mem_of_getElem? (i := 1) (by decide +kernel))) rfl, mem_lwg (tb_4 _ (List.mem_of_getElem? (i := 176) (by decide +kernel))) rfl, by decide +kernel, by decide +kernel, by decide +kernel, by decide⟩, mem_lwg (tb_4 _ (List.mem_of_getElem? (i := 174) (by decide +kernel))) rfl, mem_lwg (tb_4 _ (List.mem_of_getElem? (i := 175) (by decide +kernel))) rfl⟩
def M_X9_part : MD := (yX9_part, cX9_part, 3, (some .long))
theorem mk_X9_part : MKV M_X9_part 1 := ⟨⟨mem_lwg (tb_1 _ (List.mem_of_getElem? (i := 1) (by decide +kernel))) rfl, mem_lwg (tb_4 _ (List.mem_of_getElem? (i := 192) (by decide +kernel))) rfl, by decide +kernel, by decide +kernel, by decide +kernel, by decide⟩, mem_lwg (tb_4 _ (List.mem_of_getElem? (i := 190) (by decide +kernel))) rfl, mem_lwg (tb_4 _ (List.mem_of_getElem? (i := 191) (by decide +kernel))) rfl⟩
def M_X9_dividend : MD := (yX9_dividend, cX9_dividend, 2, (some .int))
theorem mk_X9_dividend : MKV M_X9_dividend 1 := ⟨⟨mem_lwg (tb_1 _ (List.mem_of_getElem? (i := 1) (by decide +kernel))) rfl, mem_lwg (tb_4 _ (List.mem_of_getElem? (i := 184) (by decide +kernel))) rfl, by decide +kernel, by decide +kernel, by decide +kernel, by decide⟩, mem_lwg (tb_4 _ (List.mem_of_getElem? (i := 183) (by decide +kernel))) rfl, mem_lwg (tp_3 _ (List.mem_of_getElem? (i := 14) (by decide +kernel))) rfl⟩
def M_X9_divisor : MD := (yX9_divisor, cX9_divisor, 2, (some .int))
theorem mk_X9_divisor : MKV M_X9_divisor 1 := ⟨⟨mem_lwg (tb_1 _ (List.mem_of_getElem? (i := 1) (by decide +kernel))) rfl, mem_lwg (tb_4 _ (List.mem_of_getElem? (i := 180) (by decide +kernel))) rfl, by decide +kernel, by decide +kernel, by decide +kernel, by decide⟩, mem_lwg (tb_4 _ (List.mem_of_getElem? (i := 179) (by decide +kernel))) rfl, mem_lwg (tp_3 _ (List.mem_of_getElem? (i := 13) (by decide +kernel))) rfl⟩
def M_X9_bitsOfFloat : MD := (yX9_bitsOfFloat, cX9_bitsOfFloat, 4, (some .int))
theorem mk_X9_bitsOfFloat : MKS M_X9_bitsOfFloat 1 := ⟨⟨mem_lwg (tb_1 _ (List.mem_of_getElem? (i := 1) (by decide +kernel))) rfl, mem_lwg (tb_4 _ (List.mem_of_getElem? (i := 187) (by decide +kernel))) rfl, by decide +kernel, by decide +kernel, by decide +kernel, by decide⟩, mem_lwg (tb_4 _ (List.mem_of_getElem? (i := 186) (by decide +kernel))) rfl⟩
def M_X9_bitsOfDouble : MD := (yX9_bitsOfDouble, cX9_bitsOfDouble, 7, (some .long))
theorem mk_X9_bitsOfDouble : MKS M_X9_bitsOfDouble 1 := ⟨⟨mem_lwg (tb_1 _ (List.mem_of_getElem? (i := 1) (by decide +kernel))) rfl, mem_lwg (tb_4 _ (List.mem_of_getElem? (i := 195) (by decide +kernel))) rfl, by decide +kernel, by decide +kernel, by decide +kernel, by decide⟩, mem_lwg (tb_4 _ (List.mem_of_getElem? (i := 194) (by decide +kernel))) rfl⟩
def M_X9_image : MD := (yX9_image, cX9_image, 2, (some .boolean))
theorem mk_X9_image : MKV M_X9_image 1 := ⟨⟨mem_lwg (tb_1 _ (List.mem_of_getElem? (i := 1) (by decide +kernel))) rfl, mem_lwg (tb_4 _ (List.mem_of_getElem? (i := 202) (by decide +kernel))) rfl, by decide +kernel, by decide +kernel, by decide +kernel, by decide⟩, mem_lwg (tb_4 _ (List.mem_of_getElem? (i := 200) (by decide +kernel))) rfl, mem_lwg (tb_4 _ (List.mem_of_getElem? (i := 201) (by decide +kernel))) rfl⟩
def M_X9_look : MD := (yX9_look, cX9_look, 2, (some .int))
theorem mk_X9_look : MKV M_X9_look 1 := ⟨⟨mem_lwg (tb_1 _ (List.mem_of_getElem? (i := 1) (by decide +kernel))) rfl, mem_lwg (tb_4 _ (List.mem_of_getElem? (i := 215) (by decide +kernel))) rfl, by decide +kernel, by decide +kernel, by decide +kernel, by decide⟩, mem_lwg (tb_4 _ (List.mem_of_getElem? (i := 213) (by decide +kernel))) rfl, mem_lwg (tb_4 _ (List.mem_of_getElem? (i := 214) (by decide +kernel))) rfl⟩
def M_X9_lookAtParts : MD := (yX9_lookAtParts, cX9_lookAtParts, 3, (some .int))
theorem mk_X9_lookAtParts : MKV M_X9_lookAtParts 1 := ⟨⟨mem_lwg (tb_1 _ (List.mem_of_getElem? (i := 1) (by decide +kernel))) rfl, mem_lwg (tb_4 _ (List.mem_of_getElem? (i := 227) (by decide +kernel))) rfl, by decide +kernel, by decide +kernel, by decide +kernel, by decide⟩, mem_lwg (tb_4 _ (List.mem_of_getElem? (i := 226) (by decide +kernel))) rfl, mem_lwg (tp_4 _ (List.mem_of_getElem? (i := 0) (by decide +kernel))) rfl⟩
def M_X9_isPulse : MD := (yX9_isPulse, cX9_isPulse, 2, (some .boolean))
theorem mk_X9_isPulse : MKV M_X9_isPulse 1 := ⟨⟨mem_lwg (tb_1 _ (List.mem_of_getElem? (i := 1) (by decide +kernel))) rfl, mem_lwg (tb_2 _ (List.mem_of_getElem? (i := 201) (by decide +kernel))) rfl, by decide +kernel, by decide +kernel, by decide +kernel, by decide⟩, mem_lwg (tb_2 _ (List.mem_of_getElem? (i := 200) (by decide +kernel))) rfl, mem_lwg (tp_1 _ (List.mem_of_getElem? (i := 6) (by decide +kernel))) rfl⟩
def M_X9_isRow : MD := (yX9_isRow, cX9_isRow, 2, (some .boolean))
theorem mk_X9_isRow : MKV M_X9_isRow 1 := ⟨⟨mem_lwg (tb_1 _ (List.mem_of_getElem? (i := 1) (by decide +kernel))) rfl, mem_lwg (tb_2 _ (List.mem_of_getElem? (i := 229) (by decide +kernel))) rfl, by decide +kernel, by decide +kernel, by decide +kernel, by decide⟩, mem_lwg (tb_2 _ (List.mem_of_getElem? (i := 228) (by decide +kernel))) rfl, mem_lwg (tp_1 _ (List.mem_of_getElem? (i := 7) (by decide +kernel))) rfl⟩
def M_X9_isCounter : MD := (yX9_isCounter, cX9_isCounter, 1, (some .boolean))
theorem mk_X9_isCounter : MKS M_X9_isCounter 1 := ⟨⟨mem_lwg (tb_1 _ (List.mem_of_getElem? (i := 1) (by decide +kernel))) rfl, mem_lwg (tb_2 _ (List.mem_of_getElem? (i := 213) (by decide +kernel))) rfl, by decide +kernel, by decide +kernel, by decide +kernel, by decide⟩, mem_lwg (tb_2 _ (List.mem_of_getElem? (i := 212) (by decide +kernel))) rfl⟩
def M_X9_isPath : MD := (yX9_isPath, cX9_isPath, 2, (some .boolean))
theorem mk_X9_isPath : MKV M_X9_isPath 1 := ⟨⟨mem_lwg (tb_1 _ (List.mem_of_getElem? (i := 1) (by decide +kernel))) rfl, mem_lwg (tb_3 _ (List.mem_of_getElem? (i := 21) (by decide +kernel))) rfl, by decide +kernel, by decide +kernel, by decide +kernel, by decide⟩, mem_lwg (tb_3 _ (List.mem_of_getElem? (i := 20) (by decide +kernel))) rfl, mem_lwg (tp_1 _ (List.mem_of_getElem? (i := 9) (by decide +kernel))) rfl⟩
def M_X9_isScan : MD := (yX9_isScan, cX9_isScan, 2, (some .boolean))
theorem mk_X9_isScan : MKV M_X9_isScan 1 := ⟨⟨mem_lwg (tb_1 _ (List.mem_of_getElem? (i := 1) (by decide +kernel))) rfl, mem_lwg (tb_3 _ (List.mem_of_getElem? (i := 204) (by decide +kernel))) rfl, by decide +kernel, by decide +kernel, by decide +kernel, by decide⟩, mem_lwg (tb_3 _ (List.mem_of_getElem? (i := 203) (by decide +kernel))) rfl, mem_lwg (tp_2 _ (List.mem_of_getElem? (i := 11) (by decide +kernel))) rfl⟩
def M_X9_isGone : MD := (yX9_isGone, cX9_isGone, 2, (some .boolean))
theorem mk_X9_isGone : MKV M_X9_isGone 1 := ⟨⟨mem_lwg (tb_1 _ (List.mem_of_getElem? (i := 1) (by decide +kernel))) rfl, mem_lwg (tb_4 _ (List.mem_of_getElem? (i := 46) (by decide +kernel))) rfl, by decide +kernel, by decide +kernel, by decide +kernel, by decide⟩, mem_lwg (tb_4 _ (List.mem_of_getElem? (i := 45) (by decide +kernel))) rfl, mem_lwg (tp_3 _ (List.mem_of_getElem? (i := 1) (by decide +kernel))) rfl⟩
def M_X9_matters : MD := (yX9_matters, cX9_matters, 2, (some .boolean))
theorem mk_X9_matters : MKV M_X9_matters 1 := ⟨⟨mem_lwg (tb_1 _ (List.mem_of_getElem? (i := 1) (by decide +kernel))) rfl, mem_lwg (tb_4 _ (List.mem_of_getElem? (i := 116) (by decide +kernel))) rfl, by decide +kernel, by decide +kernel, by decide +kernel, by decide⟩, mem_lwg (tb_4 _ (List.mem_of_getElem? (i := 115) (by decide +kernel))) rfl, mem_lwg (tp_3 _ (List.mem_of_getElem? (i := 10) (by decide +kernel))) rfl⟩
def M_X9_isIn : MD := (yX9_isIn, cX9_isIn, 4, (some .boolean))
theorem mk_X9_isIn : MKV M_X9_isIn 2 := ⟨⟨mem_lwg (tb_1 _ (List.mem_of_getElem? (i := 1) (by decide +kernel))) rfl, mem_lwg (tb_4 _ (List.mem_of_getElem? (i := 42) (by decide +kernel))) rfl, by decide +kernel, by decide +kernel, by decide +kernel, by decide⟩, mem_lwg (tb_4 _ (List.mem_of_getElem? (i := 41) (by decide +kernel))) rfl, mem_lwg (tp_3 _ (List.mem_of_getElem? (i := 0) (by decide +kernel))) rfl⟩
def M_X9_count : MD := (yX9_count, cX9_count, 4, (some .int))
theorem mk_X9_count : MKV M_X9_count 1 := ⟨⟨mem_lwg (tb_1 _ (List.mem_of_getElem? (i := 1) (by decide +kernel))) rfl, mem_lwg (tb_4 _ (List.mem_of_getElem? (i := 64) (by decide +kernel))) rfl, by decide +kernel, by decide +kernel, by decide +kernel, by decide⟩, mem_lwg (tb_4 _ (List.mem_of_getElem? (i := 63) (by decide +kernel))) rfl, mem_lwg (tp_3 _ (List.mem_of_getElem? (i := 2) (by decide +kernel))) rfl⟩
def M_X9_countWeights : MD := (yX9_countWeights, cX9_countWeights, 4, (some .int))
theorem mk_X9_countWeights : MKV M_X9_countWeights 1 := ⟨⟨mem_lwg (tb_1 _ (List.mem_of_getElem? (i := 1) (by decide +kernel))) rfl, mem_lwg (tb_4 _ (List.mem_of_getElem? (i := 223) (by decide +kernel))) rfl, by decide +kernel, by decide +kernel, by decide +kernel, by decide⟩, mem_lwg (tb_4 _ (List.mem_of_getElem? (i := 222) (by decide +kernel))) rfl, mem_lwg (tp_3 _ (List.mem_of_getElem? (i := 15) (by decide +kernel))) rfl⟩
def M_X9_member : MD := (yX9_member, cX9_member, 5, (some .int))
theorem mk_X9_member : MKV M_X9_member 2 := ⟨⟨mem_lwg (tb_1 _ (List.mem_of_getElem? (i := 1) (by decide +kernel))) rfl, mem_lwg (tb_4 _ (List.mem_of_getElem? (i := 68) (by decide +kernel))) rfl, by decide +kernel, by decide +kernel, by decide +kernel, by decide⟩, mem_lwg (tb_4 _ (List.mem_of_getElem? (i := 67) (by decide +kernel))) rfl, mem_lwg (tp_3 _ (List.mem_of_getElem? (i := 3) (by decide +kernel))) rfl⟩
def M_X9_stateOf : MD := (yX9_stateOf, cX9_stateOf, 2, (some .int))
theorem mk_X9_stateOf : MKV M_X9_stateOf 1 := ⟨⟨mem_lwg (tb_1 _ (List.mem_of_getElem? (i := 1) (by decide +kernel))) rfl, mem_lwg (tb_4 _ (List.mem_of_getElem? (i := 16) (by decide +kernel))) rfl, by decide +kernel, by decide +kernel, by decide +kernel, by decide⟩, mem_lwg (tb_4 _ (List.mem_of_getElem? (i := 15) (by decide +kernel))) rfl, mem_lwg (tp_2 _ (List.mem_of_getElem? (i := 14) (by decide +kernel))) rfl⟩
def M_X9_buildScans : MD := (yX9_buildScans, cX9_buildScans, 1, none)
theorem mk_X9_buildScans : MKV M_X9_buildScans 0 := ⟨⟨mem_lwg (tb_1 _ (List.mem_of_getElem? (i := 1) (by decide +kernel))) rfl, mem_lwg (tb_3 _ (List.mem_of_getElem? (i := 208) (by decide +kernel))) rfl, by decide +kernel, by decide +kernel, by decide +kernel, by decide⟩, mem_lwg (tb_3 _ (List.mem_of_getElem? (i := 207) (by decide +kernel))) rfl, mem_lwg (tp_2 _ (List.mem_of_getElem? (i := 12) (by decide +kernel))) rfl⟩
def M_X9_weighPaths : MD := (yX9_weighPaths, cX9_weighPaths, 1, none)
theorem mk_X9_weighPaths : MKV M_X9_weighPaths 0 := ⟨⟨mem_lwg (tb_1 _ (List.mem_of_getElem? (i := 1) (by decide +kernel))) rfl, mem_lwg (tb_3 _ (List.mem_of_getElem? (i := 116) (by decide +kernel))) rfl, by decide +kernel, by decide +kernel, by decide +kernel, by decide⟩, mem_lwg (tb_3 _ (List.mem_of_getElem? (i := 115) (by decide +kernel))) rfl, mem_lwg (tp_2 _ (List.mem_of_getElem? (i := 4) (by decide +kernel))) rfl⟩
def M_X9_gatherWants : MD := (yX9_gatherWants, cX9_gatherWants, 1, none)
theorem mk_X9_gatherWants : MKV M_X9_gatherWants 0 := ⟨⟨mem_lwg (tb_1 _ (List.mem_of_getElem? (i := 1) (by decide +kernel))) rfl, mem_lwg (tb_3 _ (List.mem_of_getElem? (i := 112) (by decide +kernel))) rfl, by decide +kernel, by decide +kernel, by decide +kernel, by decide⟩, mem_lwg (tb_3 _ (List.mem_of_getElem? (i := 111) (by decide +kernel))) rfl, mem_lwg (tp_2 _ (List.mem_of_getElem? (i := 3) (by decide +kernel))) rfl⟩
def M_X9_findFewest : MD := (yX9_findFewest, cX9_findFewest, 1, none)
theorem mk_X9_findFewest : MKV M_X9_findFewest 0 := ⟨⟨mem_lwg (tb_1 _ (List.mem_of_getElem? (i := 1) (by decide +kernel))) rfl, mem_lwg (tb_3 _ (List.mem_of_getElem? (i := 108) (by decide +kernel))) rfl, by decide +kernel, by decide +kernel, by decide +kernel, by decide⟩, mem_lwg (tb_3 _ (List.mem_of_getElem? (i := 107) (by decide +kernel))) rfl, mem_lwg (tp_2 _ (List.mem_of_getElem? (i := 2) (by decide +kernel))) rfl⟩
def M_X9_findCogs : MD := (yX9_findCogs, cX9_findCogs, 1, none)
theorem mk_X9_findCogs : MKV M_X9_findCogs 0 := ⟨⟨mem_lwg (tb_1 _ (List.mem_of_getElem? (i := 1) (by decide +kernel))) rfl, mem_lwg (tb_3 _ (List.mem_of_getElem? (i := 167) (by decide +kernel))) rfl, by decide +kernel, by decide +kernel, by decide +kernel, by decide⟩, mem_lwg (tb_3 _ (List.mem_of_getElem? (i := 166) (by decide +kernel))) rfl, mem_lwg (tp_2 _ (List.mem_of_getElem? (i := 7) (by decide +kernel))) rfl⟩
def M_X9_pathsTold : MD := (yX9_pathsTold, cX9_pathsTold, 1, none)
theorem mk_X9_pathsTold : MKV M_X9_pathsTold 0 := ⟨⟨mem_lwg (tb_1 _ (List.mem_of_getElem? (i := 1) (by decide +kernel))) rfl, mem_lwg (tb_2 _ (List.mem_of_getElem? (i := 177) (by decide +kernel))) rfl, by decide +kernel, by decide +kernel, by decide +kernel, by decide⟩, mem_lwg (tb_2 _ (List.mem_of_getElem? (i := 176) (by decide +kernel))) rfl, mem_lwg (tp_1 _ (List.mem_of_getElem? (i := 2) (by decide +kernel))) rfl⟩
def M_X9_goneTold : MD := (yX9_goneTold, cX9_goneTold, 1, none)
theorem mk_X9_goneTold : MKV M_X9_goneTold 0 := ⟨⟨mem_lwg (tb_1 _ (List.mem_of_getElem? (i := 1) (by decide +kernel))) rfl, mem_lwg (tb_2 _ (List.mem_of_getElem? (i := 189) (by decide +kernel))) rfl, by decide +kernel, by decide +kernel, by decide +kernel, by decide⟩, mem_lwg (tb_2 _ (List.mem_of_getElem? (i := 188) (by decide +kernel))) rfl, mem_lwg (tp_1 _ (List.mem_of_getElem? (i := 4) (by decide +kernel))) rfl⟩
def M_X9_cycleTold : MD := (yX9_cycleTold, cX9_cycleTold, 1, none)
theorem mk_X9_cycleTold : MKV M_X9_cycleTold 0 := ⟨⟨mem_lwg (tb_1 _ (List.mem_of_getElem? (i := 1) (by decide +kernel))) rfl, mem_lwg (tb_2 _ (List.mem_of_getElem? (i := 185) (by decide +kernel))) rfl, by decide +kernel, by decide +kernel, by decide +kernel, by decide⟩, mem_lwg (tb_2 _ (List.mem_of_getElem? (i := 184) (by decide +kernel))) rfl, mem_lwg (tp_1 _ (List.mem_of_getElem? (i := 3) (by decide +kernel))) rfl⟩
def M_X9_searchesTold : MD := (yX9_searchesTold, cX9_searchesTold, 1, none)
theorem mk_X9_searchesTold : MKV M_X9_searchesTold 0 := ⟨⟨mem_lwg (tb_1 _ (List.mem_of_getElem? (i := 1) (by decide +kernel))) rfl, mem_lwg (tb_2 _ (List.mem_of_getElem? (i := 193) (by decide +kernel))) rfl, by decide +kernel, by decide +kernel, by decide +kernel, by decide⟩, mem_lwg (tb_2 _ (List.mem_of_getElem? (i := 192) (by decide +kernel))) rfl, mem_lwg (tp_1 _ (List.mem_of_getElem? (i := 5) (by decide +kernel))) rfl⟩
def M_X10_isIn : MD := (yX10_isIn, cX10_isIn, 4, (some .boolean))
theorem mk_X10_isIn : MKV M_X10_isIn 3 := ⟨⟨mem_lwg (tb_1 _ (List.mem_of_getElem? (i := 13) (by decide +kernel))) rfl, mem_lwg (tb_5 _ (List.mem_of_getElem? (i := 127) (by decide +kernel))) rfl, by decide +kernel, by decide +kernel, by decide +kernel, by decide⟩, mem_lwg (tb_5 _ (List.mem_of_getElem? (i := 126) (by decide +kernel))) rfl, mem_lwg (tp_4 _ (List.mem_of_getElem? (i := 9) (by decide +kernel))) rfl⟩
def M_X10_n : MD := (yX10_n, cX10_n, 1, (some .int))
theorem mk_X10_n : MKV M_X10_n 0 := ⟨⟨mem_lwg (tb_1 _ (List.mem_of_getElem? (i := 13) (by decide +kernel))) rfl, mem_lwg (tb_5 _ (List.mem_of_getElem? (i := 5) (by decide +kernel))) rfl, by decide +kernel, by decide +kernel, by decide +kernel, by decide⟩, mem_lwg (tb_5 _ (List.mem_of_getElem? (i := 4) (by decide +kernel))) rfl, mem_lwg (tp_4 _ (List.mem_of_getElem? (i := 3) (by decide +kernel))) rfl⟩
def M_X10_m : MD := (yX10_m, cX10_m, 1, (some .int))
theorem mk_X10_m : MKV M_X10_m 0 := ⟨⟨mem_lwg (tb_1 _ (List.mem_of_getElem? (i := 13) (by decide +kernel))) rfl, mem_lwg (tb_5 _ (List.mem_of_getElem? (i := 1) (by decide +kernel))) rfl, by decide +kernel, by decide +kernel, by decide +kernel, by decide⟩, mem_lwg (tb_5 _ (List.mem_of_getElem? (i := 0) (by decide +kernel))) rfl, mem_lwg (tp_4 _ (List.mem_of_getElem? (i := 2) (by decide +kernel))) rfl⟩
def M_X10_turnOf : MD := (yX10_turnOf, cX10_turnOf, 1, (some .int))
theorem mk_X10_turnOf : MKV M_X10_turnOf 0 := ⟨⟨mem_lwg (tb_1 _ (List.mem_of_getElem? (i := 13) (by decide +kernel))) rfl, mem_lwg (tb_5 _ (List.mem_of_getElem? (i := 21) (by decide +kernel))) rfl, by decide +kernel, by decide +kernel, by decide +kernel, by decide⟩, mem_lwg (tb_5 _ (List.mem_of_getElem? (i := 20) (by decide +kernel))) rfl, mem_lwg (tp_4 _ (List.mem_of_getElem? (i := 7) (by decide +kernel))) rfl⟩
def M_X10_follows : MD := (yX10_follows, cX10_follows, 1, (some .boolean))
theorem mk_X10_follows : MKV M_X10_follows 0 := ⟨⟨mem_lwg (tb_1 _ (List.mem_of_getElem? (i := 13) (by decide +kernel))) rfl, mem_lwg (tb_5 _ (List.mem_of_getElem? (i := 195) (by decide +kernel))) rfl, by decide +kernel, by decide +kernel, by decide +kernel, by decide⟩, mem_lwg (tb_5 _ (List.mem_of_getElem? (i := 194) (by decide +kernel))) rfl, mem_lwg (tp_5 _ (List.mem_of_getElem? (i := 2) (by decide +kernel))) rfl⟩
def M_X10_weightOf : MD := (yX10_weightOf, cX10_weightOf, 3, (some .int))
theorem mk_X10_weightOf : MKV M_X10_weightOf 2 := ⟨⟨mem_lwg (tb_1 _ (List.mem_of_getElem? (i := 13) (by decide +kernel))) rfl, mem_lwg (tb_6 _ (List.mem_of_getElem? (i := 67) (by decide +kernel))) rfl, by decide +kernel, by decide +kernel, by decide +kernel, by decide⟩, mem_lwg (tb_6 _ (List.mem_of_getElem? (i := 66) (by decide +kernel))) rfl, mem_lwg (tp_6 _ (List.mem_of_getElem? (i := 6) (by decide +kernel))) rfl⟩
def M_X10_lengthOf : MD := (yX10_lengthOf, cX10_lengthOf, 2, (some .int))
theorem mk_X10_lengthOf : MKV M_X10_lengthOf 1 := ⟨⟨mem_lwg (tb_1 _ (List.mem_of_getElem? (i := 13) (by decide +kernel))) rfl, mem_lwg (tb_5 _ (List.mem_of_getElem? (i := 163) (by decide +kernel))) rfl, by decide +kernel, by decide +kernel, by decide +kernel, by decide⟩, mem_lwg (tb_5 _ (List.mem_of_getElem? (i := 162) (by decide +kernel))) rfl, mem_lwg (tp_4 _ (List.mem_of_getElem? (i := 15) (by decide +kernel))) rfl⟩
def M_X10_stepOf : MD := (yX10_stepOf, cX10_stepOf, 3, (some .int))
theorem mk_X10_stepOf : MKV M_X10_stepOf 2 := ⟨⟨mem_lwg (tb_1 _ (List.mem_of_getElem? (i := 13) (by decide +kernel))) rfl, mem_lwg (tb_6 _ (List.mem_of_getElem? (i := 163) (by decide +kernel))) rfl, by decide +kernel, by decide +kernel, by decide +kernel, by decide⟩, mem_lwg (tb_6 _ (List.mem_of_getElem? (i := 162) (by decide +kernel))) rfl, mem_lwg (tp_7 _ (List.mem_of_getElem? (i := 8) (by decide +kernel))) rfl⟩
def M_X10_rowLong : MD := (yX10_rowLong, cX10_rowLong, 2, (some .int))
theorem mk_X10_rowLong : MKV M_X10_rowLong 1 := ⟨⟨mem_lwg (tb_1 _ (List.mem_of_getElem? (i := 13) (by decide +kernel))) rfl, mem_lwg (tb_6 _ (List.mem_of_getElem? (i := 155) (by decide +kernel))) rfl, by decide +kernel, by decide +kernel, by decide +kernel, by decide⟩, mem_lwg (tb_6 _ (List.mem_of_getElem? (i := 154) (by decide +kernel))) rfl, mem_lwg (tp_7 _ (List.mem_of_getElem? (i := 6) (by decide +kernel))) rfl⟩
def M_X10_rowOf : MD := (yX10_rowOf, cX10_rowOf, 3, (some .int))
theorem mk_X10_rowOf : MKV M_X10_rowOf 2 := ⟨⟨mem_lwg (tb_1 _ (List.mem_of_getElem? (i := 13) (by decide +kernel))) rfl, mem_lwg (tb_6 _ (List.mem_of_getElem? (i := 159) (by decide +kernel))) rfl, by decide +kernel, by decide +kernel, by decide +kernel, by decide⟩, mem_lwg (tb_6 _ (List.mem_of_getElem? (i := 158) (by decide +kernel))) rfl, mem_lwg (tp_7 _ (List.mem_of_getElem? (i := 7) (by decide +kernel))) rfl⟩
def M_X10_isPulse : MD := (yX10_isPulse, cX10_isPulse, 2, (some .boolean))
theorem mk_X10_isPulse : MKV M_X10_isPulse 1 := ⟨⟨mem_lwg (tb_1 _ (List.mem_of_getElem? (i := 13) (by decide +kernel))) rfl, mem_lwg (tb_5 _ (List.mem_of_getElem? (i := 143) (by decide +kernel))) rfl, by decide +kernel, by decide +kernel, by decide +kernel, by decide⟩, mem_lwg (tb_5 _ (List.mem_of_getElem? (i := 142) (by decide +kernel))) rfl, mem_lwg (tp_4 _ (List.mem_of_getElem? (i := 12) (by decide +kernel))) rfl⟩
def M_X10_isCounter : MD := (yX10_isCounter, cX10_isCounter, 2, (some .boolean))
theorem mk_X10_isCounter : MKV M_X10_isCounter 1 := ⟨⟨mem_lwg (tb_1 _ (List.mem_of_getElem? (i := 13) (by decide +kernel))) rfl, mem_lwg (tb_5 _ (List.mem_of_getElem? (i := 155) (by decide +kernel))) rfl, by decide +kernel, by decide +kernel, by decide +kernel, by decide⟩, mem_lwg (tb_5 _ (List.mem_of_getElem? (i := 154) (by decide +kernel))) rfl, mem_lwg (tp_4 _ (List.mem_of_getElem? (i := 13) (by decide +kernel))) rfl⟩
def M_X10_mayFollow : MD := (yX10_mayFollow, cX10_mayFollow, 5, (some .boolean))
theorem mk_X10_mayFollow : MKV M_X10_mayFollow 3 := ⟨⟨mem_lwg (tb_1 _ (List.mem_of_getElem? (i := 13) (by decide +kernel))) rfl, mem_lwg (tb_5 _ (List.mem_of_getElem? (i := 13) (by decide +kernel))) rfl, by decide +kernel, by decide +kernel, by decide +kernel, by decide⟩, mem_lwg (tb_5 _ (List.mem_of_getElem? (i := 12) (by decide +kernel))) rfl, mem_lwg (tp_4 _ (List.mem_of_getElem? (i := 5) (by decide +kernel))) rfl⟩
def M_X10_orderOf : MD := (yX10_orderOf, cX10_orderOf, 3, (some .int))
theorem mk_X10_orderOf : MKV M_X10_orderOf 2 := ⟨⟨mem_lwg (tb_1 _ (List.mem_of_getElem? (i := 13) (by decide +kernel))) rfl, mem_lwg (tb_5 _ (List.mem_of_getElem? (i := 9) (by decide +kernel))) rfl, by decide +kernel, by decide +kernel, by decide +kernel, by decide⟩, mem_lwg (tb_5 _ (List.mem_of_getElem? (i := 8) (by decide +kernel))) rfl, mem_lwg (tp_4 _ (List.mem_of_getElem? (i := 4) (by decide +kernel))) rfl⟩
def M_X10_changeOf : MD := (yX10_changeOf, cX10_changeOf, 3, (some .int))
theorem mk_X10_changeOf : MKV M_X10_changeOf 2 := ⟨⟨mem_lwg (tb_1 _ (List.mem_of_getElem? (i := 13) (by decide +kernel))) rfl, mem_lwg (tb_6 _ (List.mem_of_getElem? (i := 59) (by decide +kernel))) rfl, by decide +kernel, by decide +kernel, by decide +kernel, by decide⟩, mem_lwg (tb_6 _ (List.mem_of_getElem? (i := 58) (by decide +kernel))) rfl, mem_lwg (tp_6 _ (List.mem_of_getElem? (i := 4) (by decide +kernel))) rfl⟩
def M_X10_laysPaths : MD := (yX10_laysPaths, cX10_laysPaths, 8, none)
theorem mk_X10_laysPaths : MKV M_X10_laysPaths 0 := ⟨⟨mem_lwg (tb_1 _ (List.mem_of_getElem? (i := 13) (by decide +kernel))) rfl, mem_lwg (tb_4 _ (List.mem_of_getElem? (i := 237) (by decide +kernel))) rfl, by decide +kernel, by decide +kernel, by decide +kernel, by decide⟩, mem_lwg (tb_4 _ (List.mem_of_getElem? (i := 236) (by decide +kernel))) rfl, mem_lwg (tp_4 _ (List.mem_of_getElem? (i := 1) (by decide +kernel))) rfl⟩
def M_X10_init : MD := (yX10_init, cX10_init, 1, none)
theorem mk_X10_init : MKI M_X10_init 0 := ⟨⟨mem_lwg (tb_1 _ (List.mem_of_getElem? (i := 13) (by decide +kernel))) rfl, mem_lwg (tb_4 _ (List.mem_of_getElem? (i := 232) (by decide +kernel))) rfl, by decide +kernel, by decide +kernel, by decide +kernel, by decide⟩, mem_lwg (tb_4 _ (List.mem_of_getElem? (i := 231) (by decide +kernel))) rfl, rfl, rfl⟩
def M_X10_isPath : MD := (yX10_isPath, cX10_isPath, 2, (some .boolean))
theorem mk_X10_isPath : MKV M_X10_isPath 1 := ⟨⟨mem_lwg (tb_1 _ (List.mem_of_getElem? (i := 13) (by decide +kernel))) rfl, mem_lwg (tb_5 _ (List.mem_of_getElem? (i := 207) (by decide +kernel))) rfl, by decide +kernel, by decide +kernel, by decide +kernel, by decide⟩, mem_lwg (tb_5 _ (List.mem_of_getElem? (i := 206) (by decide +kernel))) rfl, mem_lwg (tp_5 _ (List.mem_of_getElem? (i := 4) (by decide +kernel))) rfl⟩
def M_X10_isWished : MD := (yX10_isWished, cX10_isWished, 2, (some .boolean))
theorem mk_X10_isWished : MKV M_X10_isWished 1 := ⟨⟨mem_lwg (tb_1 _ (List.mem_of_getElem? (i := 13) (by decide +kernel))) rfl, mem_lwg (tb_6 _ (List.mem_of_getElem? (i := 39) (by decide +kernel))) rfl, by decide +kernel, by decide +kernel, by decide +kernel, by decide⟩, mem_lwg (tb_6 _ (List.mem_of_getElem? (i := 38) (by decide +kernel))) rfl, mem_lwg (tp_5 _ (List.mem_of_getElem? (i := 15) (by decide +kernel))) rfl⟩
def M_X10_isFree : MD := (yX10_isFree, cX10_isFree, 2, (some .boolean))
theorem mk_X10_isFree : MKV M_X10_isFree 1 := ⟨⟨mem_lwg (tb_1 _ (List.mem_of_getElem? (i := 13) (by decide +kernel))) rfl, mem_lwg (tb_6 _ (List.mem_of_getElem? (i := 211) (by decide +kernel))) rfl, by decide +kernel, by decide +kernel, by decide +kernel, by decide⟩, mem_lwg (tb_6 _ (List.mem_of_getElem? (i := 210) (by decide +kernel))) rfl, mem_lwg (tp_8 _ (List.mem_of_getElem? (i := 1) (by decide +kernel))) rfl⟩
def M_X10_chief : MD := (yX10_chief, cX10_chief, 2, (some .int))
theorem mk_X10_chief : MKV M_X10_chief 0 := ⟨⟨mem_lwg (tb_1 _ (List.mem_of_getElem? (i := 13) (by decide +kernel))) rfl, mem_lwg (tb_6 _ (List.mem_of_getElem? (i := 35) (by decide +kernel))) rfl, by decide +kernel, by decide +kernel, by decide +kernel, by decide⟩, mem_lwg (tb_6 _ (List.mem_of_getElem? (i := 34) (by decide +kernel))) rfl, mem_lwg (tp_5 _ (List.mem_of_getElem? (i := 14) (by decide +kernel))) rfl⟩
def M_X10_isSpoiled : MD := (yX10_isSpoiled, cX10_isSpoiled, 4, (some .boolean))
theorem mk_X10_isSpoiled : MKV M_X10_isSpoiled 1 := ⟨⟨mem_lwg (tb_1 _ (List.mem_of_getElem? (i := 13) (by decide +kernel))) rfl, mem_lwg (tb_6 _ (List.mem_of_getElem? (i := 51) (by decide +kernel))) rfl, by decide +kernel, by decide +kernel, by decide +kernel, by decide⟩, mem_lwg (tb_6 _ (List.mem_of_getElem? (i := 50) (by decide +kernel))) rfl, mem_lwg (tp_6 _ (List.mem_of_getElem? (i := 2) (by decide +kernel))) rfl⟩
def M_X10_size : MD := (yX10_size, cX10_size, 2, (some .int))
theorem mk_X10_size : MKV M_X10_size 1 := ⟨⟨mem_lwg (tb_1 _ (List.mem_of_getElem? (i := 13) (by decide +kernel))) rfl, mem_lwg (tb_6 _ (List.mem_of_getElem? (i := 63) (by decide +kernel))) rfl, by decide +kernel, by decide +kernel, by decide +kernel, by decide⟩, mem_lwg (tb_6 _ (List.mem_of_getElem? (i := 62) (by decide +kernel))) rfl, mem_lwg (tp_6 _ (List.mem_of_getElem? (i := 5) (by decide +kernel))) rfl⟩
def M_X10_weighs : MD := (yX10_weighs, cX10_weighs, 4, (some .int))
theorem mk_X10_weighs : MKV M_X10_weighs 1 := ⟨⟨mem_lwg (tb_1 _ (List.mem_of_getElem? (i := 13) (by decide +kernel))) rfl, mem_lwg (tb_6 _ (List.mem_of_getElem? (i := 55) (by decide +kernel))) rfl, by decide +kernel, by decide +kernel, by decide +kernel, by decide⟩, mem_lwg (tb_6 _ (List.mem_of_getElem? (i := 54) (by decide +kernel))) rfl, mem_lwg (tp_6 _ (List.mem_of_getElem? (i := 3) (by decide +kernel))) rfl⟩
def M_X10_isGone : MD := (yX10_isGone, cX10_isGone, 2, (some .boolean))
theorem mk_X10_isGone : MKV M_X10_isGone 1 := ⟨⟨mem_lwg (tb_1 _ (List.mem_of_getElem? (i := 13) (by decide +kernel))) rfl, mem_lwg (tb_6 _ (List.mem_of_getElem? (i := 47) (by decide +kernel))) rfl, by decide +kernel, by decide +kernel, by decide +kernel, by decide⟩, mem_lwg (tb_6 _ (List.mem_of_getElem? (i := 46) (by decide +kernel))) rfl, mem_lwg (tp_6 _ (List.mem_of_getElem? (i := 1) (by decide +kernel))) rfl⟩
def M_X10_wishesNothing : MD := (yX10_wishesNothing, cX10_wishesNothing, 2, none)
theorem mk_X10_wishesNothing : MKV M_X10_wishesNothing 0 := ⟨⟨mem_lwg (tb_1 _ (List.mem_of_getElem? (i := 13) (by decide +kernel))) rfl, mem_lwg (tb_5 _ (List.mem_of_getElem? (i := 135) (by decide +kernel))) rfl, by decide +kernel, by decide +kernel, by decide +kernel, by decide⟩, mem_lwg (tb_5 _ (List.mem_of_getElem? (i := 134) (by decide +kernel))) rfl, mem_lwg (tp_4 _ (List.mem_of_getElem? (i := 11) (by decide +kernel))) rfl⟩
def M_X10_clearsCycle : MD := (yX10_clearsCycle, cX10_clearsCycle, 2, none)
theorem mk_X10_clearsCycle : MKV M_X10_clearsCycle 0 := ⟨⟨mem_lwg (tb_1 _ (List.mem_of_getElem? (i := 13) (by decide +kernel))) rfl, mem_lwg (tb_5 _ (List.mem_of_getElem? (i := 131) (by decide +kernel))) rfl, by decide +kernel, by decide +kernel, by decide +kernel, by decide⟩, mem_lwg (tb_5 _ (List.mem_of_getElem? (i := 130) (by decide +kernel))) rfl, mem_lwg (tp_4 _ (List.mem_of_getElem? (i := 10) (by decide +kernel))) rfl⟩
def M_X10_pulses : MD := (yX10_pulses, cX10_pulses, 4, (some .int))
theorem mk_X10_pulses : MKV M_X10_pulses 2 := ⟨⟨mem_lwg (tb_1 _ (List.mem_of_getElem? (i := 13) (by decide +kernel))) rfl, mem_lwg (tb_5 _ (List.mem_of_getElem? (i := 123) (by decide +kernel))) rfl, by decide +kernel, by decide +kernel, by decide +kernel, by decide⟩, mem_lwg (tb_5 _ (List.mem_of_getElem? (i := 121) (by decide +kernel))) rfl, mem_lwg (tb_5 _ (List.mem_of_getElem? (i := 122) (by decide +kernel))) rfl⟩
def M_X10_kind : MD := (yX10_kind, cX10_kind, 3, (some .boolean))
theorem mk_X10_kind : MKV M_X10_kind 2 := ⟨⟨mem_lwg (tb_1 _ (List.mem_of_getElem? (i := 13) (by decide +kernel))) rfl, mem_lwg (tb_5 _ (List.mem_of_getElem? (i := 139) (by decide +kernel))) rfl, by decide +kernel, by decide +kernel, by decide +kernel, by decide⟩, mem_lwg (tb_5 _ (List.mem_of_getElem? (i := 137) (by decide +kernel))) rfl, mem_lwg (tb_5 _ (List.mem_of_getElem? (i := 138) (by decide +kernel))) rfl⟩
def M_X10_turn : MD := (yX10_turn, cX10_turn, 2, (some .boolean))
theorem mk_X10_turn : MKV M_X10_turn 1 := ⟨⟨mem_lwg (tb_1 _ (List.mem_of_getElem? (i := 13) (by decide +kernel))) rfl, mem_lwg (tb_5 _ (List.mem_of_getElem? (i := 147) (by decide +kernel))) rfl, by decide +kernel, by decide +kernel, by decide +kernel, by decide⟩, mem_lwg (tb_5 _ (List.mem_of_getElem? (i := 145) (by decide +kernel))) rfl, mem_lwg (tb_5 _ (List.mem_of_getElem? (i := 146) (by decide +kernel))) rfl⟩
def M_X10_scans : MD := (yX10_scans, cX10_scans, 3, (some .int))
theorem mk_X10_scans : MKV M_X10_scans 0 := ⟨⟨mem_lwg (tb_1 _ (List.mem_of_getElem? (i := 13) (by decide +kernel))) rfl, mem_lwg (tb_5 _ (List.mem_of_getElem? (i := 159) (by decide +kernel))) rfl, by decide +kernel, by decide +kernel, by decide +kernel, by decide⟩, mem_lwg (tb_5 _ (List.mem_of_getElem? (i := 158) (by decide +kernel))) rfl, mem_lwg (tp_4 _ (List.mem_of_getElem? (i := 14) (by decide +kernel))) rfl⟩
def M_X10_counter : MD := (yX10_counter, cX10_counter, 3, (some .int))
theorem mk_X10_counter : MKV M_X10_counter 2 := ⟨⟨mem_lwg (tb_1 _ (List.mem_of_getElem? (i := 13) (by decide +kernel))) rfl, mem_lwg (tb_5 _ (List.mem_of_getElem? (i := 151) (by decide +kernel))) rfl, by decide +kernel, by decide +kernel, by decide +kernel, by decide⟩, mem_lwg (tb_5 _ (List.mem_of_getElem? (i := 149) (by decide +kernel))) rfl, mem_lwg (tb_5 _ (List.mem_of_getElem? (i := 150) (by decide +kernel))) rfl⟩
def M_X10_isSource : MD := (yX10_isSource, cX10_isSource, 2, (some .boolean))
theorem mk_X10_isSource : MKV M_X10_isSource 1 := ⟨⟨mem_lwg (tb_1 _ (List.mem_of_getElem? (i := 13) (by decide +kernel))) rfl, mem_lwg (tb_5 _ (List.mem_of_getElem? (i := 171) (by decide +kernel))) rfl, by decide +kernel, by decide +kernel, by decide +kernel, by decide⟩, mem_lwg (tb_5 _ (List.mem_of_getElem? (i := 170) (by decide +kernel))) rfl, mem_lwg (tp_5 _ (List.mem_of_getElem? (i := 0) (by decide +kernel))) rfl⟩
def M_X10_step : MD := (yX10_step, cX10_step, 4, (some .boolean))
theorem mk_X10_step : MKV M_X10_step 3 := ⟨⟨mem_lwg (tb_1 _ (List.mem_of_getElem? (i := 13) (by decide +kernel))) rfl, mem_lwg (tb_5 _ (List.mem_of_getElem? (i := 167) (by decide +kernel))) rfl, by decide +kernel, by decide +kernel, by decide +kernel, by decide⟩, mem_lwg (tb_5 _ (List.mem_of_getElem? (i := 165) (by decide +kernel))) rfl, mem_lwg (tb_5 _ (List.mem_of_getElem? (i := 166) (by decide +kernel))) rfl⟩
def M_X10_gradient : MD := (yX10_gradient, cX10_gradient, 3, (some .boolean))
theorem mk_X10_gradient : MKV M_X10_gradient 2 := ⟨⟨mem_lwg (tb_1 _ (List.mem_of_getElem? (i := 13) (by decide +kernel))) rfl, mem_lwg (tb_5 _ (List.mem_of_getElem? (i := 175) (by decide +kernel))) rfl, by decide +kernel, by decide +kernel, by decide +kernel, by decide⟩, mem_lwg (tb_5 _ (List.mem_of_getElem? (i := 173) (by decide +kernel))) rfl, mem_lwg (tb_5 _ (List.mem_of_getElem? (i := 174) (by decide +kernel))) rfl⟩
def M_X10_weight : MD := (yX10_weight, cX10_weight, 4, (some .boolean))
theorem mk_X10_weight : MKV M_X10_weight 3 := ⟨⟨mem_lwg (tb_1 _ (List.mem_of_getElem? (i := 13) (by decide +kernel))) rfl, mem_lwg (tb_5 _ (List.mem_of_getElem? (i := 179) (by decide +kernel))) rfl, by decide +kernel, by decide +kernel, by decide +kernel, by decide⟩, mem_lwg (tb_5 _ (List.mem_of_getElem? (i := 177) (by decide +kernel))) rfl, mem_lwg (tb_5 _ (List.mem_of_getElem? (i := 178) (by decide +kernel))) rfl⟩
def M_X10_swaps : MD := (yX10_swaps, cX10_swaps, 4, none)
theorem mk_X10_swaps : MKV M_X10_swaps 2 := ⟨⟨mem_lwg (tb_1 _ (List.mem_of_getElem? (i := 13) (by decide +kernel))) rfl, mem_lwg (tb_5 _ (List.mem_of_getElem? (i := 187) (by decide +kernel))) rfl, by decide +kernel, by decide +kernel, by decide +kernel, by decide⟩, mem_lwg (tb_5 _ (List.mem_of_getElem? (i := 186) (by decide +kernel))) rfl, mem_lwg (tp_5 _ (List.mem_of_getElem? (i := 1) (by decide +kernel))) rfl⟩
def M_X10_swap : MD := (yX10_swap, cX10_swap, 4, (some .boolean))
theorem mk_X10_swap : MKV M_X10_swap 2 := ⟨⟨mem_lwg (tb_1 _ (List.mem_of_getElem? (i := 13) (by decide +kernel))) rfl, mem_lwg (tb_5 _ (List.mem_of_getElem? (i := 183) (by decide +kernel))) rfl, by decide +kernel, by decide +kernel, by decide +kernel, by decide⟩, mem_lwg (tb_5 _ (List.mem_of_getElem? (i := 181) (by decide +kernel))) rfl, mem_lwg (tb_5 _ (List.mem_of_getElem? (i := 182) (by decide +kernel))) rfl⟩
def M_X10_follow : MD := (yX10_follow, cX10_follow, 2, (some .boolean))
theorem mk_X10_follow : MKV M_X10_follow 1 := ⟨⟨mem_lwg (tb_1 _ (List.mem_of_getElem? (i := 13) (by decide +kernel))) rfl, mem_lwg (tb_5 _ (List.mem_of_getElem? (i := 191) (by decide +kernel))) rfl, by decide +kernel, by decide +kernel, by decide +kernel, by decide⟩, mem_lwg (tb_5 _ (List.mem_of_getElem? (i := 189) (by decide +kernel))) rfl, mem_lwg (tb_5 _ (List.mem_of_getElem? (i := 190) (by decide +kernel))) rfl⟩
def M_X10_becomes : MD := (yX10_becomes, cX10_becomes, 4, (some .boolean))
theorem mk_X10_becomes : MKV M_X10_becomes 3 := ⟨⟨mem_lwg (tb_1 _ (List.mem_of_getElem? (i := 13) (by decide +kernel))) rfl, mem_lwg (tb_5 _ (List.mem_of_getElem? (i := 203) (by decide +kernel))) rfl, by decide +kernel, by decide +kernel, by decide +kernel, by decide⟩, mem_lwg (tb_5 _ (List.mem_of_getElem? (i := 202) (by decide +kernel))) rfl, mem_lwg (tp_5 _ (List.mem_of_getElem? (i := 3) (by decide +kernel))) rfl⟩
def M_X10_wish : MD := (yX10_wish, cX10_wish, 3, (some .boolean))
theorem mk_X10_wish : MKV M_X10_wish 2 := ⟨⟨mem_lwg (tb_1 _ (List.mem_of_getElem? (i := 13) (by decide +kernel))) rfl, mem_lwg (tb_5 _ (List.mem_of_getElem? (i := 199) (by decide +kernel))) rfl, by decide +kernel, by decide +kernel, by decide +kernel, by decide⟩, mem_lwg (tb_5 _ (List.mem_of_getElem? (i := 197) (by decide +kernel))) rfl, mem_lwg (tb_5 _ (List.mem_of_getElem? (i := 198) (by decide +kernel))) rfl⟩
def M_X10_free : MD := (yX10_free, cX10_free, 3, (some .boolean))
theorem mk_X10_free : MKV M_X10_free 2 := ⟨⟨mem_lwg (tb_1 _ (List.mem_of_getElem? (i := 13) (by decide +kernel))) rfl, mem_lwg (tb_5 _ (List.mem_of_getElem? (i := 211) (by decide +kernel))) rfl, by decide +kernel, by decide +kernel, by decide +kernel, by decide⟩, mem_lwg (tb_5 _ (List.mem_of_getElem? (i := 209) (by decide +kernel))) rfl, mem_lwg (tb_5 _ (List.mem_of_getElem? (i := 210) (by decide +kernel))) rfl⟩
def M_X10_freeAll : MD := (yX10_freeAll, cX10_freeAll, 5, (some .int))
theorem mk_X10_freeAll : MKV M_X10_freeAll 2 := ⟨⟨mem_lwg (tb_1 _ (List.mem_of_getElem? (i := 13) (by decide +kernel))) rfl, mem_lwg (tb_5 _ (List.mem_of_getElem? (i := 215) (by decide +kernel))) rfl, by decide +kernel, by decide +kernel, by decide +kernel, by decide⟩, mem_lwg (tb_5 _ (List.mem_of_getElem? (i := 213) (by decide +kernel))) rfl, mem_lwg (tb_5 _ (List.mem_of_getElem? (i := 214) (by decide +kernel))) rfl⟩
def M_X10_types : MD := (yX10_types, cX10_types, 3, none)
theorem mk_X10_types : MKV M_X10_types 1 := ⟨⟨mem_lwg (tb_1 _ (List.mem_of_getElem? (i := 13) (by decide +kernel))) rfl, mem_lwg (tb_5 _ (List.mem_of_getElem? (i := 223) (by decide +kernel))) rfl, by decide +kernel, by decide +kernel, by decide +kernel, by decide⟩, mem_lwg (tb_5 _ (List.mem_of_getElem? (i := 222) (by decide +kernel))) rfl, mem_lwg (tp_5 _ (List.mem_of_getElem? (i := 5) (by decide +kernel))) rfl⟩
def M_X10_feed : MD := (yX10_feed, cX10_feed, 6, (some .int))
theorem mk_X10_feed : MKV M_X10_feed 5 := ⟨⟨mem_lwg (tb_1 _ (List.mem_of_getElem? (i := 13) (by decide +kernel))) rfl, mem_lwg (tb_5 _ (List.mem_of_getElem? (i := 219) (by decide +kernel))) rfl, by decide +kernel, by decide +kernel, by decide +kernel, by decide⟩, mem_lwg (tb_5 _ (List.mem_of_getElem? (i := 217) (by decide +kernel))) rfl, mem_lwg (tb_5 _ (List.mem_of_getElem? (i := 218) (by decide +kernel))) rfl⟩
def M_X10_end : MD := (yX10_end, cX10_end, 2, (some .boolean))
theorem mk_X10_end : MKV M_X10_end 1 := ⟨⟨mem_lwg (tb_1 _ (List.mem_of_getElem? (i := 13) (by decide +kernel))) rfl, mem_lwg (tb_5 _ (List.mem_of_getElem? (i := 227) (by decide +kernel))) rfl, by decide +kernel, by decide +kernel, by decide +kernel, by decide⟩, mem_lwg (tb_5 _ (List.mem_of_getElem? (i := 225) (by decide +kernel))) rfl, mem_lwg (tb_5 _ (List.mem_of_getElem? (i := 226) (by decide +kernel))) rfl⟩
def M_X10_here : MD := (yX10_here, cX10_here, 1, (some .int))
theorem mk_X10_here : MKV M_X10_here 0 := ⟨⟨mem_lwg (tb_1 _ (List.mem_of_getElem? (i := 13) (by decide +kernel))) rfl, mem_lwg (tb_5 _ (List.mem_of_getElem? (i := 239) (by decide +kernel))) rfl, by decide +kernel, by decide +kernel, by decide +kernel, by decide⟩, mem_lwg (tb_5 _ (List.mem_of_getElem? (i := 238) (by decide +kernel))) rfl, mem_lwg (tp_5 _ (List.mem_of_getElem? (i := 7) (by decide +kernel))) rfl⟩
def M_X10_behindBlanks : MD := (yX10_behindBlanks, cX10_behindBlanks, 1, (some .int))
theorem mk_X10_behindBlanks : MKV M_X10_behindBlanks 0 := ⟨⟨mem_lwg (tb_1 _ (List.mem_of_getElem? (i := 13) (by decide +kernel))) rfl, mem_lwg (tb_5 _ (List.mem_of_getElem? (i := 235) (by decide +kernel))) rfl, by decide +kernel, by decide +kernel, by decide +kernel, by decide⟩, mem_lwg (tb_5 _ (List.mem_of_getElem? (i := 234) (by decide +kernel))) rfl, mem_lwg (tp_5 _ (List.mem_of_getElem? (i := 6) (by decide +kernel))) rfl⟩
def M_X10_isDigit : MD := (yX10_isDigit, cX10_isDigit, 2, (some .boolean))
theorem mk_X10_isDigit : MKV M_X10_isDigit 1 := ⟨⟨mem_lwg (tb_1 _ (List.mem_of_getElem? (i := 13) (by decide +kernel))) rfl, mem_lwg (tb_6 _ (List.mem_of_getElem? (i := 15) (by decide +kernel))) rfl, by decide +kernel, by decide +kernel, by decide +kernel, by decide⟩, mem_lwg (tb_6 _ (List.mem_of_getElem? (i := 14) (by decide +kernel))) rfl, mem_lwg (tp_5 _ (List.mem_of_getElem? (i := 11) (by decide +kernel))) rfl⟩
def M_X10_errs : MD := (yX10_errs, cX10_errs, 3, (some .boolean))
theorem mk_X10_errs : MKV M_X10_errs 2 := ⟨⟨mem_lwg (tb_1 _ (List.mem_of_getElem? (i := 13) (by decide +kernel))) rfl, mem_lwg (tb_6 _ (List.mem_of_getElem? (i := 11) (by decide +kernel))) rfl, by decide +kernel, by decide +kernel, by decide +kernel, by decide⟩, mem_lwg (tb_6 _ (List.mem_of_getElem? (i := 10) (by decide +kernel))) rfl, mem_lwg (tp_5 _ (List.mem_of_getElem? (i := 10) (by decide +kernel))) rfl⟩
def M_X10_readName : MD := (yX10_readName, cX10_readName, 3, (some .int))
theorem mk_X10_readName : MKV M_X10_readName 0 := ⟨⟨mem_lwg (tb_1 _ (List.mem_of_getElem? (i := 13) (by decide +kernel))) rfl, mem_lwg (tb_6 _ (List.mem_of_getElem? (i := 7) (by decide +kernel))) rfl, by decide +kernel, by decide +kernel, by decide +kernel, by decide⟩, mem_lwg (tb_6 _ (List.mem_of_getElem? (i := 6) (by decide +kernel))) rfl, mem_lwg (tp_5 _ (List.mem_of_getElem? (i := 9) (by decide +kernel))) rfl⟩
def M_X10_readLine : MD := (yX10_readLine, cX10_readLine, 5, (some .boolean))
theorem mk_X10_readLine : MKV M_X10_readLine 0 := ⟨⟨mem_lwg (tb_1 _ (List.mem_of_getElem? (i := 13) (by decide +kernel))) rfl, mem_lwg (tb_6 _ (List.mem_of_getElem? (i := 3) (by decide +kernel))) rfl, by decide +kernel, by decide +kernel, by decide +kernel, by decide⟩, mem_lwg (tb_6 _ (List.mem_of_getElem? (i := 2) (by decide +kernel))) rfl, mem_lwg (tp_5 _ (List.mem_of_getElem? (i := 8) (by decide +kernel))) rfl⟩
def M_X10_rows : MD := (yX10_rows, cX10_rows, 4, (some .int))
theorem mk_X10_rows : MKV M_X10_rows 0 := ⟨⟨mem_lwg (tb_1 _ (List.mem_of_getElem? (i := 13) (by decide +kernel))) rfl, mem_lwg (tb_5 _ (List.mem_of_getElem? (i := 231) (by decide +kernel))) rfl, by decide +kernel, by decide +kernel, by decide +kernel, by decide⟩, mem_lwg (tb_5 _ (List.mem_of_getElem? (i := 229) (by decide +kernel))) rfl, mem_lwg (tb_5 _ (List.mem_of_getElem? (i := 230) (by decide +kernel))) rfl⟩
def M_X10_fault : MD := (yX10_fault, cX10_fault, 2, (some .int))
theorem mk_X10_fault : MKV M_X10_fault 1 := ⟨⟨mem_lwg (tb_1 _ (List.mem_of_getElem? (i := 13) (by decide +kernel))) rfl, mem_lwg (tb_6 _ (List.mem_of_getElem? (i := 19) (by decide +kernel))) rfl, by decide +kernel, by decide +kernel, by decide +kernel, by decide⟩, mem_lwg (tb_6 _ (List.mem_of_getElem? (i := 17) (by decide +kernel))) rfl, mem_lwg (tb_6 _ (List.mem_of_getElem? (i := 18) (by decide +kernel))) rfl⟩
def M_X10_rest : MD := (yX10_rest, cX10_rest, 3, (some .int))
theorem mk_X10_rest : MKV M_X10_rest 1 := ⟨⟨mem_lwg (tb_1 _ (List.mem_of_getElem? (i := 13) (by decide +kernel))) rfl, mem_lwg (tb_6 _ (List.mem_of_getElem? (i := 167) (by decide +kernel))) rfl, by decide +kernel, by decide +kernel, by decide +kernel, by decide⟩, mem_lwg (tb_6 _ (List.mem_of_getElem? (i := 166) (by decide +kernel))) rfl, mem_lwg (tp_7 _ (List.mem_of_getElem? (i := 9) (by decide +kernel))) rfl⟩
def M_X10_ownPhase : MD := (yX10_ownPhase, cX10_ownPhase, 6, (some .int))
theorem mk_X10_ownPhase : MKV M_X10_ownPhase 2 := ⟨⟨mem_lwg (tb_1 _ (List.mem_of_getElem? (i := 13) (by decide +kernel))) rfl, mem_lwg (tb_6 _ (List.mem_of_getElem? (i := 151) (by decide +kernel))) rfl, by decide +kernel, by decide +kernel, by decide +kernel, by decide⟩, mem_lwg (tb_6 _ (List.mem_of_getElem? (i := 150) (by decide +kernel))) rfl, mem_lwg (tp_7 _ (List.mem_of_getElem? (i := 5) (by decide +kernel))) rfl⟩
def M_X10_laysPhases : MD := (yX10_laysPhases, cX10_laysPhases, 5, none)
theorem mk_X10_laysPhases : MKV M_X10_laysPhases 0 := ⟨⟨mem_lwg (tb_1 _ (List.mem_of_getElem? (i := 13) (by decide +kernel))) rfl, mem_lwg (tb_6 _ (List.mem_of_getElem? (i := 147) (by decide +kernel))) rfl, by decide +kernel, by decide +kernel, by decide +kernel, by decide⟩, mem_lwg (tb_6 _ (List.mem_of_getElem? (i := 146) (by decide +kernel))) rfl, mem_lwg (tp_7 _ (List.mem_of_getElem? (i := 4) (by decide +kernel))) rfl⟩
def M_X10_residueOf : MD := (yX10_residueOf, cX10_residueOf, 5, (some .int))
theorem mk_X10_residueOf : MKV M_X10_residueOf 2 := ⟨⟨mem_lwg (tb_1 _ (List.mem_of_getElem? (i := 13) (by decide +kernel))) rfl, mem_lwg (tb_6 _ (List.mem_of_getElem? (i := 175) (by decide +kernel))) rfl, by decide +kernel, by decide +kernel, by decide +kernel, by decide⟩, mem_lwg (tb_6 _ (List.mem_of_getElem? (i := 174) (by decide +kernel))) rfl, mem_lwg (tp_7 _ (List.mem_of_getElem? (i := 10) (by decide +kernel))) rfl⟩
def M_X10_laysPrimitive : MD := (yX10_laysPrimitive, cX10_laysPrimitive, 4, none)
theorem mk_X10_laysPrimitive : MKV M_X10_laysPrimitive 0 := ⟨⟨mem_lwg (tb_1 _ (List.mem_of_getElem? (i := 13) (by decide +kernel))) rfl, mem_lwg (tb_5 _ (List.mem_of_getElem? (i := 17) (by decide +kernel))) rfl, by decide +kernel, by decide +kernel, by decide +kernel, by decide⟩, mem_lwg (tb_5 _ (List.mem_of_getElem? (i := 16) (by decide +kernel))) rfl, mem_lwg (tp_4 _ (List.mem_of_getElem? (i := 6) (by decide +kernel))) rfl⟩
def M_X10_dividesBy : MD := (yX10_dividesBy, cX10_dividesBy, 8, (some .int))
theorem mk_X10_dividesBy : MKV M_X10_dividesBy 2 := ⟨⟨mem_lwg (tb_1 _ (List.mem_of_getElem? (i := 13) (by decide +kernel))) rfl, mem_lwg (tb_5 _ (List.mem_of_getElem? (i := 26) (by decide +kernel))) rfl, by decide +kernel, by decide +kernel, by decide +kernel, by decide⟩, mem_lwg (tb_5 _ (List.mem_of_getElem? (i := 25) (by decide +kernel))) rfl, mem_lwg (tp_4 _ (List.mem_of_getElem? (i := 8) (by decide +kernel))) rfl⟩
def M_X10_isNothing : MD := (yX10_isNothing, cX10_isNothing, 6, (some .boolean))
theorem mk_X10_isNothing : MKV M_X10_isNothing 0 := ⟨⟨mem_lwg (tb_1 _ (List.mem_of_getElem? (i := 13) (by decide +kernel))) rfl, mem_lwg (tb_6 _ (List.mem_of_getElem? (i := 199) (by decide +kernel))) rfl, by decide +kernel, by decide +kernel, by decide +kernel, by decide⟩, mem_lwg (tb_6 _ (List.mem_of_getElem? (i := 198) (by decide +kernel))) rfl, mem_lwg (tp_7 _ (List.mem_of_getElem? (i := 14) (by decide +kernel))) rfl⟩
def M_X10_isOneAlone : MD := (yX10_isOneAlone, cX10_isOneAlone, 3, (some .boolean))
theorem mk_X10_isOneAlone : MKV M_X10_isOneAlone 0 := ⟨⟨mem_lwg (tb_1 _ (List.mem_of_getElem? (i := 13) (by decide +kernel))) rfl, mem_lwg (tb_6 _ (List.mem_of_getElem? (i := 203) (by decide +kernel))) rfl, by decide +kernel, by decide +kernel, by decide +kernel, by decide⟩, mem_lwg (tb_6 _ (List.mem_of_getElem? (i := 202) (by decide +kernel))) rfl, mem_lwg (tp_7 _ (List.mem_of_getElem? (i := 15) (by decide +kernel))) rfl⟩
def M_X10_stateNow : MD := (yX10_stateNow, cX10_stateNow, 1, (some .int))
theorem mk_X10_stateNow : MKV M_X10_stateNow 0 := ⟨⟨mem_lwg (tb_1 _ (List.mem_of_getElem? (i := 13) (by decide +kernel))) rfl, mem_lwg (tb_6 _ (List.mem_of_getElem? (i := 195) (by decide +kernel))) rfl, by decide +kernel, by decide +kernel, by decide +kernel, by decide⟩, mem_lwg (tb_6 _ (List.mem_of_getElem? (i := 194) (by decide +kernel))) rfl, mem_lwg (tp_7 _ (List.mem_of_getElem? (i := 13) (by decide +kernel))) rfl⟩
def M_X10_countsFirst : MD := (yX10_countsFirst, cX10_countsFirst, 5, none)
theorem mk_X10_countsFirst : MKV M_X10_countsFirst 2 := ⟨⟨mem_lwg (tb_1 _ (List.mem_of_getElem? (i := 13) (by decide +kernel))) rfl, mem_lwg (tb_6 _ (List.mem_of_getElem? (i := 183) (by decide +kernel))) rfl, by decide +kernel, by decide +kernel, by decide +kernel, by decide⟩, mem_lwg (tb_6 _ (List.mem_of_getElem? (i := 182) (by decide +kernel))) rfl, mem_lwg (tp_7 _ (List.mem_of_getElem? (i := 11) (by decide +kernel))) rfl⟩
def M_X10_stateOf : MD := (yX10_stateOf, cX10_stateOf, 4, (some .int))
theorem mk_X10_stateOf : MKV M_X10_stateOf 1 := ⟨⟨mem_lwg (tb_1 _ (List.mem_of_getElem? (i := 13) (by decide +kernel))) rfl, mem_lwg (tb_6 _ (List.mem_of_getElem? (i := 191) (by decide +kernel))) rfl, by decide +kernel, by decide +kernel, by decide +kernel, by decide⟩, mem_lwg (tb_6 _ (List.mem_of_getElem? (i := 190) (by decide +kernel))) rfl, mem_lwg (tp_7 _ (List.mem_of_getElem? (i := 12) (by decide +kernel))) rfl⟩
def M_X10_isOther : MD := (yX10_isOther, cX10_isOther, 2, (some .boolean))
theorem mk_X10_isOther : MKV M_X10_isOther 1 := ⟨⟨mem_lwg (tb_1 _ (List.mem_of_getElem? (i := 13) (by decide +kernel))) rfl, mem_lwg (tb_6 _ (List.mem_of_getElem? (i := 43) (by decide +kernel))) rfl, by decide +kernel, by decide +kernel, by decide +kernel, by decide⟩, mem_lwg (tb_6 _ (List.mem_of_getElem? (i := 42) (by decide +kernel))) rfl, mem_lwg (tp_6 _ (List.mem_of_getElem? (i := 0) (by decide +kernel))) rfl⟩
def M_X10_isLeak : MD := (yX10_isLeak, cX10_isLeak, 2, (some .boolean))
theorem mk_X10_isLeak : MKV M_X10_isLeak 1 := ⟨⟨mem_lwg (tb_1 _ (List.mem_of_getElem? (i := 13) (by decide +kernel))) rfl, mem_lwg (tb_6 _ (List.mem_of_getElem? (i := 215) (by decide +kernel))) rfl, by decide +kernel, by decide +kernel, by decide +kernel, by decide⟩, mem_lwg (tb_6 _ (List.mem_of_getElem? (i := 214) (by decide +kernel))) rfl, mem_lwg (tp_8 _ (List.mem_of_getElem? (i := 2) (by decide +kernel))) rfl⟩
def M_X10_isLost : MD := (yX10_isLost, cX10_isLost, 2, (some .boolean))
theorem mk_X10_isLost : MKV M_X10_isLost 1 := ⟨⟨mem_lwg (tb_1 _ (List.mem_of_getElem? (i := 13) (by decide +kernel))) rfl, mem_lwg (tb_7 _ (List.mem_of_getElem? (i := 3) (by decide +kernel))) rfl, by decide +kernel, by decide +kernel, by decide +kernel, by decide⟩, mem_lwg (tb_7 _ (List.mem_of_getElem? (i := 2) (by decide +kernel))) rfl, mem_lwg (tp_8 _ (List.mem_of_getElem? (i := 7) (by decide +kernel))) rfl⟩
def M_X10_leaks : MD := (yX10_leaks, cX10_leaks, 3, (some .int))
theorem mk_X10_leaks : MKV M_X10_leaks 0 := ⟨⟨mem_lwg (tb_1 _ (List.mem_of_getElem? (i := 13) (by decide +kernel))) rfl, mem_lwg (tb_6 _ (List.mem_of_getElem? (i := 231) (by decide +kernel))) rfl, by decide +kernel, by decide +kernel, by decide +kernel, by decide⟩, mem_lwg (tb_6 _ (List.mem_of_getElem? (i := 230) (by decide +kernel))) rfl, mem_lwg (tp_8 _ (List.mem_of_getElem? (i := 5) (by decide +kernel))) rfl⟩
def M_X10_losts : MD := (yX10_losts, cX10_losts, 3, (some .int))
theorem mk_X10_losts : MKV M_X10_losts 0 := ⟨⟨mem_lwg (tb_1 _ (List.mem_of_getElem? (i := 13) (by decide +kernel))) rfl, mem_lwg (tb_6 _ (List.mem_of_getElem? (i := 239) (by decide +kernel))) rfl, by decide +kernel, by decide +kernel, by decide +kernel, by decide⟩, mem_lwg (tb_6 _ (List.mem_of_getElem? (i := 238) (by decide +kernel))) rfl, mem_lwg (tp_8 _ (List.mem_of_getElem? (i := 6) (by decide +kernel))) rfl⟩
def M_X10_isGood : MD := (yX10_isGood, cX10_isGood, 5, (some .boolean))
theorem mk_X10_isGood : MKV M_X10_isGood 0 := ⟨⟨mem_lwg (tb_1 _ (List.mem_of_getElem? (i := 13) (by decide +kernel))) rfl, mem_lwg (tb_7 _ (List.mem_of_getElem? (i := 23) (by decide +kernel))) rfl, by decide +kernel, by decide +kernel, by decide +kernel, by decide⟩, mem_lwg (tb_7 _ (List.mem_of_getElem? (i := 22) (by decide +kernel))) rfl, mem_lwg (tp_8 _ (List.mem_of_getElem? (i := 9) (by decide +kernel))) rfl⟩
def M_X10_matters : MD := (yX10_matters, cX10_matters, 5, none)
theorem mk_X10_matters : MKV M_X10_matters 3 := ⟨⟨mem_lwg (tb_1 _ (List.mem_of_getElem? (i := 13) (by decide +kernel))) rfl, mem_lwg (tb_6 _ (List.mem_of_getElem? (i := 71) (by decide +kernel))) rfl, by decide +kernel, by decide +kernel, by decide +kernel, by decide⟩, mem_lwg (tb_6 _ (List.mem_of_getElem? (i := 70) (by decide +kernel))) rfl, mem_lwg (tp_6 _ (List.mem_of_getElem? (i := 7) (by decide +kernel))) rfl⟩
def M_X10_laysMattering : MD := (yX10_laysMattering, cX10_laysMattering, 3, (some .boolean))
theorem mk_X10_laysMattering : MKV M_X10_laysMattering 0 := ⟨⟨mem_lwg (tb_1 _ (List.mem_of_getElem? (i := 13) (by decide +kernel))) rfl, mem_lwg (tb_6 _ (List.mem_of_getElem? (i := 31) (by decide +kernel))) rfl, by decide +kernel, by decide +kernel, by decide +kernel, by decide⟩, mem_lwg (tb_6 _ (List.mem_of_getElem? (i := 30) (by decide +kernel))) rfl, mem_lwg (tp_5 _ (List.mem_of_getElem? (i := 13) (by decide +kernel))) rfl⟩
def M_X10_isLeftBySteps : MD := (yX10_isLeftBySteps, cX10_isLeftBySteps, 3, (some .boolean))
theorem mk_X10_isLeftBySteps : MKV M_X10_isLeftBySteps 1 := ⟨⟨mem_lwg (tb_1 _ (List.mem_of_getElem? (i := 13) (by decide +kernel))) rfl, mem_lwg (tb_6 _ (List.mem_of_getElem? (i := 83) (by decide +kernel))) rfl, by decide +kernel, by decide +kernel, by decide +kernel, by decide⟩, mem_lwg (tb_6 _ (List.mem_of_getElem? (i := 82) (by decide +kernel))) rfl, mem_lwg (tp_6 _ (List.mem_of_getElem? (i := 10) (by decide +kernel))) rfl⟩
def M_X10_isLeftByCogs : MD := (yX10_isLeftByCogs, cX10_isLeftByCogs, 5, (some .boolean))
theorem mk_X10_isLeftByCogs : MKV M_X10_isLeftByCogs 2 := ⟨⟨mem_lwg (tb_1 _ (List.mem_of_getElem? (i := 13) (by decide +kernel))) rfl, mem_lwg (tb_6 _ (List.mem_of_getElem? (i := 107) (by decide +kernel))) rfl, by decide +kernel, by decide +kernel, by decide +kernel, by decide⟩, mem_lwg (tb_6 _ (List.mem_of_getElem? (i := 106) (by decide +kernel))) rfl, mem_lwg (tp_6 _ (List.mem_of_getElem? (i := 15) (by decide +kernel))) rfl⟩
def M_X10_doSteps : MD := (yX10_doSteps, cX10_doSteps, 2, (some .boolean))
theorem mk_X10_doSteps : MKV M_X10_doSteps 0 := ⟨⟨mem_lwg (tb_1 _ (List.mem_of_getElem? (i := 13) (by decide +kernel))) rfl, mem_lwg (tb_6 _ (List.mem_of_getElem? (i := 79) (by decide +kernel))) rfl, by decide +kernel, by decide +kernel, by decide +kernel, by decide⟩, mem_lwg (tb_6 _ (List.mem_of_getElem? (i := 78) (by decide +kernel))) rfl, mem_lwg (tp_6 _ (List.mem_of_getElem? (i := 9) (by decide +kernel))) rfl⟩
def M_X10_doCogs : MD := (yX10_doCogs, cX10_doCogs, 3, (some .boolean))
theorem mk_X10_doCogs : MKV M_X10_doCogs 1 := ⟨⟨mem_lwg (tb_1 _ (List.mem_of_getElem? (i := 13) (by decide +kernel))) rfl, mem_lwg (tb_6 _ (List.mem_of_getElem? (i := 103) (by decide +kernel))) rfl, by decide +kernel, by decide +kernel, by decide +kernel, by decide⟩, mem_lwg (tb_6 _ (List.mem_of_getElem? (i := 102) (by decide +kernel))) rfl, mem_lwg (tp_6 _ (List.mem_of_getElem? (i := 14) (by decide +kernel))) rfl⟩
def M_X10_product : MD := (yX10_product, cX10_product, 3, (some .int))
theorem mk_X10_product : MKV M_X10_product 0 := ⟨⟨mem_lwg (tb_1 _ (List.mem_of_getElem? (i := 13) (by decide +kernel))) rfl, mem_lwg (tb_6 _ (List.mem_of_getElem? (i := 75) (by decide +kernel))) rfl, by decide +kernel, by decide +kernel, by decide +kernel, by decide⟩, mem_lwg (tb_6 _ (List.mem_of_getElem? (i := 74) (by decide +kernel))) rfl, mem_lwg (tp_6 _ (List.mem_of_getElem? (i := 8) (by decide +kernel))) rfl⟩
def M_X10_goesOn : MD := (yX10_goesOn, cX10_goesOn, 4, (some .boolean))
theorem mk_X10_goesOn : MKV M_X10_goesOn 2 := ⟨⟨mem_lwg (tb_1 _ (List.mem_of_getElem? (i := 13) (by decide +kernel))) rfl, mem_lwg (tb_6 _ (List.mem_of_getElem? (i := 87) (by decide +kernel))) rfl, by decide +kernel, by decide +kernel, by decide +kernel, by decide⟩, mem_lwg (tb_6 _ (List.mem_of_getElem? (i := 86) (by decide +kernel))) rfl, mem_lwg (tp_6 _ (List.mem_of_getElem? (i := 11) (by decide +kernel))) rfl⟩
def M_X10_nextNumber : MD := (yX10_nextNumber, cX10_nextNumber, 5, (some .int))
theorem mk_X10_nextNumber : MKV M_X10_nextNumber 3 := ⟨⟨mem_lwg (tb_1 _ (List.mem_of_getElem? (i := 13) (by decide +kernel))) rfl, mem_lwg (tb_6 _ (List.mem_of_getElem? (i := 91) (by decide +kernel))) rfl, by decide +kernel, by decide +kernel, by decide +kernel, by decide⟩, mem_lwg (tb_6 _ (List.mem_of_getElem? (i := 90) (by decide +kernel))) rfl, mem_lwg (tp_6 _ (List.mem_of_getElem? (i := 12) (by decide +kernel))) rfl⟩
def M_X10_laysFewest : MD := (yX10_laysFewest, cX10_laysFewest, 4, (some .int))
theorem mk_X10_laysFewest : MKV M_X10_laysFewest 0 := ⟨⟨mem_lwg (tb_1 _ (List.mem_of_getElem? (i := 13) (by decide +kernel))) rfl, mem_lwg (tb_6 _ (List.mem_of_getElem? (i := 27) (by decide +kernel))) rfl, by decide +kernel, by decide +kernel, by decide +kernel, by decide⟩, mem_lwg (tb_6 _ (List.mem_of_getElem? (i := 26) (by decide +kernel))) rfl, mem_lwg (tp_5 _ (List.mem_of_getElem? (i := 12) (by decide +kernel))) rfl⟩
def M_X10_laysCogs : MD := (yX10_laysCogs, cX10_laysCogs, 4, (some .int))
theorem mk_X10_laysCogs : MKV M_X10_laysCogs 0 := ⟨⟨mem_lwg (tb_1 _ (List.mem_of_getElem? (i := 13) (by decide +kernel))) rfl, mem_lwg (tb_6 _ (List.mem_of_getElem? (i := 99) (by decide +kernel))) rfl, by decide +kernel, by decide +kernel, by decide +kernel, by decide⟩, mem_lwg (tb_6 _ (List.mem_of_getElem? (i := 98) (by decide +kernel))) rfl, mem_lwg (tp_6 _ (List.mem_of_getElem? (i := 13) (by decide +kernel))) rfl⟩
def M_X10_fewest : MD := (yX10_fewest, cX10_fewest, 3, (some .int))
theorem mk_X10_fewest : MKV M_X10_fewest 1 := ⟨⟨mem_lwg (tb_1 _ (List.mem_of_getElem? (i := 13) (by decide +kernel))) rfl, mem_lwg (tb_6 _ (List.mem_of_getElem? (i := 23) (by decide +kernel))) rfl, by decide +kernel, by decide +kernel, by decide +kernel, by decide⟩, mem_lwg (tb_6 _ (List.mem_of_getElem? (i := 21) (by decide +kernel))) rfl, mem_lwg (tb_6 _ (List.mem_of_getElem? (i := 22) (by decide +kernel))) rfl⟩
def M_X10_cogs : MD := (yX10_cogs, cX10_cogs, 3, (some .int))
theorem mk_X10_cogs : MKV M_X10_cogs 1 := ⟨⟨mem_lwg (tb_1 _ (List.mem_of_getElem? (i := 13) (by decide +kernel))) rfl, mem_lwg (tb_6 _ (List.mem_of_getElem? (i := 95) (by decide +kernel))) rfl, by decide +kernel, by decide +kernel, by decide +kernel, by decide⟩, mem_lwg (tb_6 _ (List.mem_of_getElem? (i := 93) (by decide +kernel))) rfl, mem_lwg (tb_6 _ (List.mem_of_getElem? (i := 94) (by decide +kernel))) rfl⟩
def M_X10_layFewest : MD := (yX10_layFewest, cX10_layFewest, 5, (some .int))
theorem mk_X10_layFewest : MKV M_X10_layFewest 0 := ⟨⟨mem_lwg (tb_1 _ (List.mem_of_getElem? (i := 13) (by decide +kernel))) rfl, mem_lwg (tb_6 _ (List.mem_of_getElem? (i := 115) (by decide +kernel))) rfl, by decide +kernel, by decide +kernel, by decide +kernel, by decide⟩, mem_lwg (tb_6 _ (List.mem_of_getElem? (i := 114) (by decide +kernel))) rfl, mem_lwg (tp_7 _ (List.mem_of_getElem? (i := 0) (by decide +kernel))) rfl⟩
def M_X10_layCogs : MD := (yX10_layCogs, cX10_layCogs, 3, (some .int))
theorem mk_X10_layCogs : MKV M_X10_layCogs 0 := ⟨⟨mem_lwg (tb_1 _ (List.mem_of_getElem? (i := 13) (by decide +kernel))) rfl, mem_lwg (tb_6 _ (List.mem_of_getElem? (i := 119) (by decide +kernel))) rfl, by decide +kernel, by decide +kernel, by decide +kernel, by decide⟩, mem_lwg (tb_6 _ (List.mem_of_getElem? (i := 118) (by decide +kernel))) rfl, mem_lwg (tp_7 _ (List.mem_of_getElem? (i := 1) (by decide +kernel))) rfl⟩
def M_X10_lay : MD := (yX10_lay, cX10_lay, 2, (some .int))
theorem mk_X10_lay : MKV M_X10_lay 1 := ⟨⟨mem_lwg (tb_1 _ (List.mem_of_getElem? (i := 13) (by decide +kernel))) rfl, mem_lwg (tb_6 _ (List.mem_of_getElem? (i := 111) (by decide +kernel))) rfl, by decide +kernel, by decide +kernel, by decide +kernel, by decide⟩, mem_lwg (tb_6 _ (List.mem_of_getElem? (i := 109) (by decide +kernel))) rfl, mem_lwg (tb_6 _ (List.mem_of_getElem? (i := 110) (by decide +kernel))) rfl⟩
def M_X10_isStep : MD := (yX10_isStep, cX10_isStep, 2, (some .boolean))
theorem mk_X10_isStep : MKV M_X10_isStep 1 := ⟨⟨mem_lwg (tb_1 _ (List.mem_of_getElem? (i := 13) (by decide +kernel))) rfl, mem_lwg (tb_6 _ (List.mem_of_getElem? (i := 127) (by decide +kernel))) rfl, by decide +kernel, by decide +kernel, by decide +kernel, by decide⟩, mem_lwg (tb_6 _ (List.mem_of_getElem? (i := 126) (by decide +kernel))) rfl, mem_lwg (tp_7 _ (List.mem_of_getElem? (i := 2) (by decide +kernel))) rfl⟩
def M_X10_would : MD := (yX10_would, cX10_would, 9, (some .int))
theorem mk_X10_would : MKV M_X10_would 5 := ⟨⟨mem_lwg (tb_1 _ (List.mem_of_getElem? (i := 13) (by decide +kernel))) rfl, mem_lwg (tb_6 _ (List.mem_of_getElem? (i := 123) (by decide +kernel))) rfl, by decide +kernel, by decide +kernel, by decide +kernel, by decide⟩, mem_lwg (tb_6 _ (List.mem_of_getElem? (i := 121) (by decide +kernel))) rfl, mem_lwg (tb_6 _ (List.mem_of_getElem? (i := 122) (by decide +kernel))) rfl⟩
def M_X10_order : MD := (yX10_order, cX10_order, 3, (some .int))
theorem mk_X10_order : MKV M_X10_order 2 := ⟨⟨mem_lwg (tb_1 _ (List.mem_of_getElem? (i := 13) (by decide +kernel))) rfl, mem_lwg (tb_6 _ (List.mem_of_getElem? (i := 131) (by decide +kernel))) rfl, by decide +kernel, by decide +kernel, by decide +kernel, by decide⟩, mem_lwg (tb_6 _ (List.mem_of_getElem? (i := 129) (by decide +kernel))) rfl, mem_lwg (tb_6 _ (List.mem_of_getElem? (i := 130) (by decide +kernel))) rfl⟩
def M_X10_find : MD := (yX10_find, cX10_find, 8, (some .int))
theorem mk_X10_find : MKV M_X10_find 4 := ⟨⟨mem_lwg (tb_1 _ (List.mem_of_getElem? (i := 13) (by decide +kernel))) rfl, mem_lwg (tb_6 _ (List.mem_of_getElem? (i := 135) (by decide +kernel))) rfl, by decide +kernel, by decide +kernel, by decide +kernel, by decide⟩, mem_lwg (tb_6 _ (List.mem_of_getElem? (i := 133) (by decide +kernel))) rfl, mem_lwg (tb_6 _ (List.mem_of_getElem? (i := 134) (by decide +kernel))) rfl⟩
def M_X10_isScan : MD := (yX10_isScan, cX10_isScan, 2, (some .boolean))
theorem mk_X10_isScan : MKV M_X10_isScan 1 := ⟨⟨mem_lwg (tb_1 _ (List.mem_of_getElem? (i := 13) (by decide +kernel))) rfl, mem_lwg (tb_6 _ (List.mem_of_getElem? (i := 143) (by decide +kernel))) rfl, by decide +kernel, by decide +kernel, by decide +kernel, by decide⟩, mem_lwg (tb_6 _ (List.mem_of_getElem? (i := 142) (by decide +kernel))) rfl, mem_lwg (tp_7 _ (List.mem_of_getElem? (i := 3) (by decide +kernel))) rfl⟩
def M_X10_phase : MD := (yX10_phase, cX10_phase, 3, (some .int))
theorem mk_X10_phase : MKV M_X10_phase 2 := ⟨⟨mem_lwg (tb_1 _ (List.mem_of_getElem? (i := 13) (by decide +kernel))) rfl, mem_lwg (tb_6 _ (List.mem_of_getElem? (i := 139) (by decide +kernel))) rfl, by decide +kernel, by decide +kernel, by decide +kernel, by decide⟩, mem_lwg (tb_6 _ (List.mem_of_getElem? (i := 137) (by decide +kernel))) rfl, mem_lwg (tb_6 _ (List.mem_of_getElem? (i := 138) (by decide +kernel))) rfl⟩
def M_X10_residue : MD := (yX10_residue, cX10_residue, 3, (some .int))
theorem mk_X10_residue : MKV M_X10_residue 2 := ⟨⟨mem_lwg (tb_1 _ (List.mem_of_getElem? (i := 13) (by decide +kernel))) rfl, mem_lwg (tb_6 _ (List.mem_of_getElem? (i := 171) (by decide +kernel))) rfl, by decide +kernel, by decide +kernel, by decide +kernel, by decide⟩, mem_lwg (tb_6 _ (List.mem_of_getElem? (i := 169) (by decide +kernel))) rfl, mem_lwg (tb_6 _ (List.mem_of_getElem? (i := 170) (by decide +kernel))) rfl⟩
def M_X10_many : MD := (yX10_many, cX10_many, 3, (some .int))
theorem mk_X10_many : MKV M_X10_many 2 := ⟨⟨mem_lwg (tb_1 _ (List.mem_of_getElem? (i := 13) (by decide +kernel))) rfl, mem_lwg (tb_6 _ (List.mem_of_getElem? (i := 179) (by decide +kernel))) rfl, by decide +kernel, by decide +kernel, by decide +kernel, by decide⟩, mem_lwg (tb_6 _ (List.mem_of_getElem? (i := 177) (by decide +kernel))) rfl, mem_lwg (tb_6 _ (List.mem_of_getElem? (i := 178) (by decide +kernel))) rfl⟩
def M_X10_changesOf : MD := (yX10_changesOf, cX10_changesOf, 4, (some .int))
theorem mk_X10_changesOf : MKV M_X10_changesOf 1 := ⟨⟨mem_lwg (tb_1 _ (List.mem_of_getElem? (i := 13) (by decide +kernel))) rfl, mem_lwg (tb_6 _ (List.mem_of_getElem? (i := 219) (by decide +kernel))) rfl, by decide +kernel, by decide +kernel, by decide +kernel, by decide⟩, mem_lwg (tb_6 _ (List.mem_of_getElem? (i := 218) (by decide +kernel))) rfl, mem_lwg (tp_8 _ (List.mem_of_getElem? (i := 3) (by decide +kernel))) rfl⟩
def M_X10_greatestOrder : MD := (yX10_greatestOrder, cX10_greatestOrder, 4, (some .int))
theorem mk_X10_greatestOrder : MKV M_X10_greatestOrder 1 := ⟨⟨mem_lwg (tb_1 _ (List.mem_of_getElem? (i := 13) (by decide +kernel))) rfl, mem_lwg (tb_6 _ (List.mem_of_getElem? (i := 223) (by decide +kernel))) rfl, by decide +kernel, by decide +kernel, by decide +kernel, by decide⟩, mem_lwg (tb_6 _ (List.mem_of_getElem? (i := 222) (by decide +kernel))) rfl, mem_lwg (tp_8 _ (List.mem_of_getElem? (i := 4) (by decide +kernel))) rfl⟩
def M_X10_one : MD := (yX10_one, cX10_one, 2, (some .int))
theorem mk_X10_one : MKV M_X10_one 1 := ⟨⟨mem_lwg (tb_1 _ (List.mem_of_getElem? (i := 13) (by decide +kernel))) rfl, mem_lwg (tb_6 _ (List.mem_of_getElem? (i := 207) (by decide +kernel))) rfl, by decide +kernel, by decide +kernel, by decide +kernel, by decide⟩, mem_lwg (tb_6 _ (List.mem_of_getElem? (i := 206) (by decide +kernel))) rfl, mem_lwg (tp_8 _ (List.mem_of_getElem? (i := 0) (by decide +kernel))) rfl⟩
def M_X10_path : MD := (yX10_path, cX10_path, 3, (some .int))
theorem mk_X10_path : MKV M_X10_path 2 := ⟨⟨mem_lwg (tb_1 _ (List.mem_of_getElem? (i := 13) (by decide +kernel))) rfl, mem_lwg (tb_6 _ (List.mem_of_getElem? (i := 187) (by decide +kernel))) rfl, by decide +kernel, by decide +kernel, by decide +kernel, by decide⟩, mem_lwg (tb_6 _ (List.mem_of_getElem? (i := 185) (by decide +kernel))) rfl, mem_lwg (tb_6 _ (List.mem_of_getElem? (i := 186) (by decide +kernel))) rfl⟩
def M_X10_leak : MD := (yX10_leak, cX10_leak, 4, (some .int))
theorem mk_X10_leak : MKV M_X10_leak 1 := ⟨⟨mem_lwg (tb_1 _ (List.mem_of_getElem? (i := 13) (by decide +kernel))) rfl, mem_lwg (tb_6 _ (List.mem_of_getElem? (i := 227) (by decide +kernel))) rfl, by decide +kernel, by decide +kernel, by decide +kernel, by decide⟩, mem_lwg (tb_6 _ (List.mem_of_getElem? (i := 225) (by decide +kernel))) rfl, mem_lwg (tb_6 _ (List.mem_of_getElem? (i := 226) (by decide +kernel))) rfl⟩
def M_X10_lost : MD := (yX10_lost, cX10_lost, 4, (some .int))
theorem mk_X10_lost : MKV M_X10_lost 1 := ⟨⟨mem_lwg (tb_1 _ (List.mem_of_getElem? (i := 13) (by decide +kernel))) rfl, mem_lwg (tb_6 _ (List.mem_of_getElem? (i := 235) (by decide +kernel))) rfl, by decide +kernel, by decide +kernel, by decide +kernel, by decide⟩, mem_lwg (tb_6 _ (List.mem_of_getElem? (i := 233) (by decide +kernel))) rfl, mem_lwg (tb_6 _ (List.mem_of_getElem? (i := 234) (by decide +kernel))) rfl⟩
def M_X10_worst : MD := (yX10_worst, cX10_worst, 6, (some .int))
theorem mk_X10_worst : MKV M_X10_worst 2 := ⟨⟨mem_lwg (tb_1 _ (List.mem_of_getElem? (i := 13) (by decide +kernel))) rfl, mem_lwg (tb_7 _ (List.mem_of_getElem? (i := 7) (by decide +kernel))) rfl, by decide +kernel, by decide +kernel, by decide +kernel, by decide⟩, mem_lwg (tb_7 _ (List.mem_of_getElem? (i := 5) (by decide +kernel))) rfl, mem_lwg (tb_7 _ (List.mem_of_getElem? (i := 6) (by decide +kernel))) rfl⟩
def M_X10_isStoppedBy : MD := (yX10_isStoppedBy, cX10_isStoppedBy, 9, (some .boolean))
theorem mk_X10_isStoppedBy : MKV M_X10_isStoppedBy 3 := ⟨⟨mem_lwg (tb_1 _ (List.mem_of_getElem? (i := 13) (by decide +kernel))) rfl, mem_lwg (tb_7 _ (List.mem_of_getElem? (i := 15) (by decide +kernel))) rfl, by decide +kernel, by decide +kernel, by decide +kernel, by decide⟩, mem_lwg (tb_7 _ (List.mem_of_getElem? (i := 14) (by decide +kernel))) rfl, mem_lwg (tp_8 _ (List.mem_of_getElem? (i := 8) (by decide +kernel))) rfl⟩
def M_X10_stopped : MD := (yX10_stopped, cX10_stopped, 4, (some .int))
theorem mk_X10_stopped : MKV M_X10_stopped 1 := ⟨⟨mem_lwg (tb_1 _ (List.mem_of_getElem? (i := 13) (by decide +kernel))) rfl, mem_lwg (tb_7 _ (List.mem_of_getElem? (i := 11) (by decide +kernel))) rfl, by decide +kernel, by decide +kernel, by decide +kernel, by decide⟩, mem_lwg (tb_7 _ (List.mem_of_getElem? (i := 9) (by decide +kernel))) rfl, mem_lwg (tb_7 _ (List.mem_of_getElem? (i := 10) (by decide +kernel))) rfl⟩
def M_X10_spare : MD := (yX10_spare, cX10_spare, 6, (some .int))
theorem mk_X10_spare : MKV M_X10_spare 1 := ⟨⟨mem_lwg (tb_1 _ (List.mem_of_getElem? (i := 13) (by decide +kernel))) rfl, mem_lwg (tb_7 _ (List.mem_of_getElem? (i := 19) (by decide +kernel))) rfl, by decide +kernel, by decide +kernel, by decide +kernel, by decide⟩, mem_lwg (tb_7 _ (List.mem_of_getElem? (i := 17) (by decide +kernel))) rfl, mem_lwg (tb_7 _ (List.mem_of_getElem? (i := 18) (by decide +kernel))) rfl⟩
def M_X10_isGoodSoFar : MD := (yX10_isGoodSoFar, cX10_isGoodSoFar, 4, (some .boolean))
theorem mk_X10_isGoodSoFar : MKV M_X10_isGoodSoFar 0 := ⟨⟨mem_lwg (tb_1 _ (List.mem_of_getElem? (i := 13) (by decide +kernel))) rfl, mem_lwg (tb_7 _ (List.mem_of_getElem? (i := 35) (by decide +kernel))) rfl, by decide +kernel, by decide +kernel, by decide +kernel, by decide⟩, mem_lwg (tb_7 _ (List.mem_of_getElem? (i := 34) (by decide +kernel))) rfl, mem_lwg (tp_8 _ (List.mem_of_getElem? (i := 11) (by decide +kernel))) rfl⟩
def M_X10_areAnyGone : MD := (yX10_areAnyGone, cX10_areAnyGone, 2, (some .boolean))
theorem mk_X10_areAnyGone : MKV M_X10_areAnyGone 0 := ⟨⟨mem_lwg (tb_1 _ (List.mem_of_getElem? (i := 13) (by decide +kernel))) rfl, mem_lwg (tb_7 _ (List.mem_of_getElem? (i := 31) (by decide +kernel))) rfl, by decide +kernel, by decide +kernel, by decide +kernel, by decide⟩, mem_lwg (tb_7 _ (List.mem_of_getElem? (i := 30) (by decide +kernel))) rfl, mem_lwg (tp_8 _ (List.mem_of_getElem? (i := 10) (by decide +kernel))) rfl⟩
def M_X10_soonest : MD := (yX10_soonest, cX10_soonest, 5, (some .int))
theorem mk_X10_soonest : MKV M_X10_soonest 0 := ⟨⟨mem_lwg (tb_1 _ (List.mem_of_getElem? (i := 13) (by decide +kernel))) rfl, mem_lwg (tb_7 _ (List.mem_of_getElem? (i := 27) (by decide +kernel))) rfl, by decide +kernel, by decide +kernel, by decide +kernel, by decide⟩, mem_lwg (tb_7 _ (List.mem_of_getElem? (i := 25) (by decide +kernel))) rfl, mem_lwg (tb_7 _ (List.mem_of_getElem? (i := 26) (by decide +kernel))) rfl⟩
def M_X10_early : MD := (yX10_early, cX10_early, 3, (some .int))
theorem mk_X10_early : MKV M_X10_early 2 := ⟨⟨mem_lwg (tb_1 _ (List.mem_of_getElem? (i := 13) (by decide +kernel))) rfl, mem_lwg (tb_7 _ (List.mem_of_getElem? (i := 39) (by decide +kernel))) rfl, by decide +kernel, by decide +kernel, by decide +kernel, by decide⟩, mem_lwg (tb_7 _ (List.mem_of_getElem? (i := 37) (by decide +kernel))) rfl, mem_lwg (tb_7 _ (List.mem_of_getElem? (i := 38) (by decide +kernel))) rfl⟩
def M_X10_until : MD := (yX10_until, cX10_until, 6, (some .int))
theorem mk_X10_until : MKV M_X10_until 2 := ⟨⟨mem_lwg (tb_1 _ (List.mem_of_getElem? (i := 13) (by decide +kernel))) rfl, mem_lwg (tb_7 _ (List.mem_of_getElem? (i := 43) (by decide +kernel))) rfl, by decide +kernel, by decide +kernel, by decide +kernel, by decide⟩, mem_lwg (tb_7 _ (List.mem_of_getElem? (i := 41) (by decide +kernel))) rfl, mem_lwg (tb_7 _ (List.mem_of_getElem? (i := 42) (by decide +kernel))) rfl⟩
def M_X10_power : MD := (yX10_power, cX10_power, 9, (some .long))
theorem mk_X10_power : MKV M_X10_power 1 := ⟨⟨mem_lwg (tb_1 _ (List.mem_of_getElem? (i := 13) (by decide +kernel))) rfl, mem_lwg (tb_7 _ (List.mem_of_getElem? (i := 47) (by decide +kernel))) rfl, by decide +kernel, by decide +kernel, by decide +kernel, by decide⟩, mem_lwg (tb_7 _ (List.mem_of_getElem? (i := 45) (by decide +kernel))) rfl, mem_lwg (tb_7 _ (List.mem_of_getElem? (i := 46) (by decide +kernel))) rfl⟩
def M_X10_above : MD := (yX10_above, cX10_above, 4, (some .int))
theorem mk_X10_above : MKV M_X10_above 1 := ⟨⟨mem_lwg (tb_1 _ (List.mem_of_getElem? (i := 13) (by decide +kernel))) rfl, mem_lwg (tb_7 _ (List.mem_of_getElem? (i := 59) (by decide +kernel))) rfl, by decide +kernel, by decide +kernel, by decide +kernel, by decide⟩, mem_lwg (tb_7 _ (List.mem_of_getElem? (i := 58) (by decide +kernel))) rfl, mem_lwg (tp_8 _ (List.mem_of_getElem? (i := 13) (by decide +kernel))) rfl⟩
def M_X10_below : MD := (yX10_below, cX10_below, 2, (some .int))
theorem mk_X10_below : MKV M_X10_below 1 := ⟨⟨mem_lwg (tb_1 _ (List.mem_of_getElem? (i := 13) (by decide +kernel))) rfl, mem_lwg (tb_7 _ (List.mem_of_getElem? (i := 55) (by decide +kernel))) rfl, by decide +kernel, by decide +kernel, by decide +kernel, by decide⟩, mem_lwg (tb_7 _ (List.mem_of_getElem? (i := 54) (by decide +kernel))) rfl, mem_lwg (tp_8 _ (List.mem_of_getElem? (i := 12) (by decide +kernel))) rfl⟩
def M_X10_share : MD := (yX10_share, cX10_share, 3, (some .int))
theorem mk_X10_share : MKV M_X10_share 1 := ⟨⟨mem_lwg (tb_1 _ (List.mem_of_getElem? (i := 13) (by decide +kernel))) rfl, mem_lwg (tb_7 _ (List.mem_of_getElem? (i := 51) (by decide +kernel))) rfl, by decide +kernel, by decide +kernel, by decide +kernel, by decide⟩, mem_lwg (tb_7 _ (List.mem_of_getElem? (i := 49) (by decide +kernel))) rfl, mem_lwg (tb_7 _ (List.mem_of_getElem? (i := 50) (by decide +kernel))) rfl⟩
def M_X10_part : MD := (yX10_part, cX10_part, 3, (some .long))
theorem mk_X10_part : MKV M_X10_part 1 := ⟨⟨mem_lwg (tb_1 _ (List.mem_of_getElem? (i := 13) (by decide +kernel))) rfl, mem_lwg (tb_7 _ (List.mem_of_getElem? (i := 73) (by decide +kernel))) rfl, by decide +kernel, by decide +kernel, by decide +kernel, by decide⟩, mem_lwg (tb_7 _ (List.mem_of_getElem? (i := 71) (by decide +kernel))) rfl, mem_lwg (tb_7 _ (List.mem_of_getElem? (i := 72) (by decide +kernel))) rfl⟩
def M_X10_image : MD := (yX10_image, cX10_image, 3, (some .boolean))
theorem mk_X10_image : MKV M_X10_image 1 := ⟨⟨mem_lwg (tb_1 _ (List.mem_of_getElem? (i := 13) (by decide +kernel))) rfl, mem_lwg (tb_7 _ (List.mem_of_getElem? (i := 87) (by decide +kernel))) rfl, by decide +kernel, by decide +kernel, by decide +kernel, by decide⟩, mem_lwg (tb_7 _ (List.mem_of_getElem? (i := 85) (by decide +kernel))) rfl, mem_lwg (tb_7 _ (List.mem_of_getElem? (i := 86) (by decide +kernel))) rfl⟩
def M_X10_manyOf : MD := (yX10_manyOf, cX10_manyOf, 4, (some .int))
theorem mk_X10_manyOf : MKV M_X10_manyOf 1 := ⟨⟨mem_lwg (tb_1 _ (List.mem_of_getElem? (i := 13) (by decide +kernel))) rfl, mem_lwg (tb_7 _ (List.mem_of_getElem? (i := 95) (by decide +kernel))) rfl, by decide +kernel, by decide +kernel, by decide +kernel, by decide⟩, mem_lwg (tb_7 _ (List.mem_of_getElem? (i := 94) (by decide +kernel))) rfl, mem_lwg (tp_8 _ (List.mem_of_getElem? (i := 14) (by decide +kernel))) rfl⟩
def M_X10_weightsOf : MD := (yX10_weightsOf, cX10_weightsOf, 4, (some .int))
theorem mk_X10_weightsOf : MKV M_X10_weightsOf 1 := ⟨⟨mem_lwg (tb_1 _ (List.mem_of_getElem? (i := 13) (by decide +kernel))) rfl, mem_lwg (tb_7 _ (List.mem_of_getElem? (i := 99) (by decide +kernel))) rfl, by decide +kernel, by decide +kernel, by decide +kernel, by decide⟩, mem_lwg (tb_7 _ (List.mem_of_getElem? (i := 98) (by decide +kernel))) rfl, mem_lwg (tp_8 _ (List.mem_of_getElem? (i := 15) (by decide +kernel))) rfl⟩
def M_X10_lookAtRows : MD := (yX10_lookAtRows, cX10_lookAtRows, 2, (some .int))
theorem mk_X10_lookAtRows : MKV M_X10_lookAtRows 1 := ⟨⟨mem_lwg (tb_1 _ (List.mem_of_getElem? (i := 13) (by decide +kernel))) rfl, mem_lwg (tb_7 _ (List.mem_of_getElem? (i := 103) (by decide +kernel))) rfl, by decide +kernel, by decide +kernel, by decide +kernel, by decide⟩, mem_lwg (tb_7 _ (List.mem_of_getElem? (i := 102) (by decide +kernel))) rfl, mem_lwg (tp_9 _ (List.mem_of_getElem? (i := 0) (by decide +kernel))) rfl⟩
def M_X10_look : MD := (yX10_look, cX10_look, 2, (some .int))
theorem mk_X10_look : MKV M_X10_look 1 := ⟨⟨mem_lwg (tb_1 _ (List.mem_of_getElem? (i := 13) (by decide +kernel))) rfl, mem_lwg (tb_7 _ (List.mem_of_getElem? (i := 91) (by decide +kernel))) rfl, by decide +kernel, by decide +kernel, by decide +kernel, by decide⟩, mem_lwg (tb_7 _ (List.mem_of_getElem? (i := 89) (by decide +kernel))) rfl, mem_lwg (tb_7 _ (List.mem_of_getElem? (i := 90) (by decide +kernel))) rfl⟩
def M_Jxe99ae_isNaN_b9ae7 : MD := (yJxe99ae_isNaN_b9ae7, cJxe99ae_isNaN_b9ae7, 2, (some .boolean))
theorem mk_Jxe99ae_isNaN_b9ae7 : MKS M_Jxe99ae_isNaN_b9ae7 1 := ⟨⟨mem_lwg (tb_1 _ (List.mem_of_getElem? (i := 17) (by decide +kernel))) rfl, mem_lwg (tb_7 _ (List.mem_of_getElem? (i := 79) (by decide +kernel))) rfl, by decide +kernel, by decide +kernel, by decide +kernel, by decide⟩, mem_lwg (tb_7 _ (List.mem_of_getElem? (i := 78) (by decide +kernel))) rfl⟩
def M_Jxe99ae_doubleToLongBits_ccdee : MD := (yJxe99ae_doubleToLongBits_ccdee, cJxe99ae_doubleToLongBits_ccdee, 2, (some .long))
theorem mk_Jxe99ae_doubleToLongBits_ccdee : MKS M_Jxe99ae_doubleToLongBits_ccdee 1 := ⟨⟨mem_lwg (tb_1 _ (List.mem_of_getElem? (i := 17) (by decide +kernel))) rfl, mem_lwg (tb_7 _ (List.mem_of_getElem? (i := 76) (by decide +kernel))) rfl, by decide +kernel, by decide +kernel, by decide +kernel, by decide⟩, mem_lwg (tb_7 _ (List.mem_of_getElem? (i := 75) (by decide +kernel))) rfl⟩
def M_Jxf58ca_isNaN_12338 : MD := (yJxf58ca_isNaN_12338, cJxf58ca_isNaN_12338, 1, (some .boolean))
theorem mk_Jxf58ca_isNaN_12338 : MKS M_Jxf58ca_isNaN_12338 1 := ⟨⟨mem_lwg (tb_1 _ (List.mem_of_getElem? (i := 16) (by decide +kernel))) rfl, mem_lwg (tb_7 _ (List.mem_of_getElem? (i := 65) (by decide +kernel))) rfl, by decide +kernel, by decide +kernel, by decide +kernel, by decide⟩, mem_lwg (tb_7 _ (List.mem_of_getElem? (i := 64) (by decide +kernel))) rfl⟩
def M_Jxf58ca_floatToIntBits_5c35a : MD := (yJxf58ca_floatToIntBits_5c35a, cJxf58ca_floatToIntBits_5c35a, 1, (some .int))
theorem mk_Jxf58ca_floatToIntBits_5c35a : MKS M_Jxf58ca_floatToIntBits_5c35a 1 := ⟨⟨mem_lwg (tb_1 _ (List.mem_of_getElem? (i := 16) (by decide +kernel))) rfl, mem_lwg (tb_7 _ (List.mem_of_getElem? (i := 62) (by decide +kernel))) rfl, by decide +kernel, by decide +kernel, by decide +kernel, by decide⟩, mem_lwg (tb_7 _ (List.mem_of_getElem? (i := 61) (by decide +kernel))) rfl⟩
def M_J9_floorMod_7cf53 : MD := (yJ9_floorMod_7cf53, cJ9_floorMod_7cf53, 3, (some .int))
theorem mk_J9_floorMod_7cf53 : MKS M_J9_floorMod_7cf53 2 := ⟨⟨mem_lwg (tb_1 _ (List.mem_of_getElem? (i := 12) (by decide +kernel))) rfl, mem_lwg (tb_4 _ (List.mem_of_getElem? (i := 101) (by decide +kernel))) rfl, by decide +kernel, by decide +kernel, by decide +kernel, by decide⟩, mem_lwg (tb_4 _ (List.mem_of_getElem? (i := 100) (by decide +kernel))) rfl⟩
def M_J9_abs_0f7a4 : MD := (yJ9_abs_0f7a4, cJ9_abs_0f7a4, 1, (some .int))
theorem mk_J9_abs_0f7a4 : MKS M_J9_abs_0f7a4 1 := ⟨⟨mem_lwg (tb_1 _ (List.mem_of_getElem? (i := 12) (by decide +kernel))) rfl, mem_lwg (tb_2 _ (List.mem_of_getElem? (i := 108) (by decide +kernel))) rfl, by decide +kernel, by decide +kernel, by decide +kernel, by decide⟩, mem_lwg (tb_2 _ (List.mem_of_getElem? (i := 107) (by decide +kernel))) rfl⟩
def M_J9_max_7cf53 : MD := (yJ9_max_7cf53, cJ9_max_7cf53, 2, (some .int))
theorem mk_J9_max_7cf53 : MKS M_J9_max_7cf53 2 := ⟨⟨mem_lwg (tb_1 _ (List.mem_of_getElem? (i := 12) (by decide +kernel))) rfl, mem_lwg (tb_3 _ (List.mem_of_getElem? (i := 96) (by decide +kernel))) rfl, by decide +kernel, by decide +kernel, by decide +kernel, by decide⟩, mem_lwg (tb_3 _ (List.mem_of_getElem? (i := 95) (by decide +kernel))) rfl⟩
def M_J9_min_7cf53 : MD := (yJ9_min_7cf53, cJ9_min_7cf53, 2, (some .int))
theorem mk_J9_min_7cf53 : MKS M_J9_min_7cf53 2 := ⟨⟨mem_lwg (tb_1 _ (List.mem_of_getElem? (i := 12) (by decide +kernel))) rfl, mem_lwg (tb_3 _ (List.mem_of_getElem? (i := 86) (by decide +kernel))) rfl, by decide +kernel, by decide +kernel, by decide +kernel, by decide⟩, mem_lwg (tb_3 _ (List.mem_of_getElem? (i := 85) (by decide +kernel))) rfl⟩
def M_J7_rangeCheck_23922 : MD := (yJ7_rangeCheck_23922, cJ7_rangeCheck_23922, 3, none)
theorem mk_J7_rangeCheck_23922 : MKS M_J7_rangeCheck_23922 3 := ⟨⟨mem_lwg (tb_1 _ (List.mem_of_getElem? (i := 3) (by decide +kernel))) rfl, mem_lwg (tb_4 _ (List.mem_of_getElem? (i := 130) (by decide +kernel))) rfl, by decide +kernel, by decide +kernel, by decide +kernel, by decide⟩, mem_lwg (tb_4 _ (List.mem_of_getElem? (i := 129) (by decide +kernel))) rfl⟩
def M_J7_fill_53178 : MD := (yJ7_fill_53178, cJ7_fill_53178, 4, none)
theorem mk_J7_fill_53178 : MKS M_J7_fill_53178 2 := ⟨⟨mem_lwg (tb_1 _ (List.mem_of_getElem? (i := 3) (by decide +kernel))) rfl, mem_lwg (tb_1 _ (List.mem_of_getElem? (i := 34) (by decide +kernel))) rfl, by decide +kernel, by decide +kernel, by decide +kernel, by decide⟩, mem_lwg (tb_1 _ (List.mem_of_getElem? (i := 33) (by decide +kernel))) rfl⟩
def M_J7_fill_fda19 : MD := (yJ7_fill_fda19, cJ7_fill_fda19, 5, none)
theorem mk_J7_fill_fda19 : MKS M_J7_fill_fda19 4 := ⟨⟨mem_lwg (tb_1 _ (List.mem_of_getElem? (i := 3) (by decide +kernel))) rfl, mem_lwg (tb_4 _ (List.mem_of_getElem? (i := 127) (by decide +kernel))) rfl, by decide +kernel, by decide +kernel, by decide +kernel, by decide⟩, mem_lwg (tb_4 _ (List.mem_of_getElem? (i := 126) (by decide +kernel))) rfl⟩
def M_J7_fill_031fb : MD := (yJ7_fill_031fb, cJ7_fill_031fb, 4, none)
theorem mk_J7_fill_031fb : MKS M_J7_fill_031fb 2 := ⟨⟨mem_lwg (tb_1 _ (List.mem_of_getElem? (i := 3) (by decide +kernel))) rfl, mem_lwg (tb_2 _ (List.mem_of_getElem? (i := 172) (by decide +kernel))) rfl, by decide +kernel, by decide +kernel, by decide +kernel, by decide⟩, mem_lwg (tb_2 _ (List.mem_of_getElem? (i := 171) (by decide +kernel))) rfl⟩
def M_L_law : MD := (yL_law, cL_law, 4, (some .boolean))
theorem ob_X9_3 : Cond.methodLink RX9 3 objectInit ∈ lwg := mem_lwg (tb_1 _ (List.mem_of_getElem? (i := 23) (by decide +kernel))) rfl
theorem cl_X9_11 : CIk RX9 11 M_X4_init 0 := CIk.of mk_X4_init (mem_lwg (tb_1 _ (List.mem_of_getElem? (i := 28) (by decide +kernel))) rfl)
theorem cl_X9_18 : CIk RX9 18 M_X1_init 0 := CIk.of mk_X1_init (mem_lwg (tb_1 _ (List.mem_of_getElem? (i := 71) (by decide +kernel))) rfl)
theorem cl_X9_97 : CVk RX9 97 M_X3_list 1 := CVk.of mk_X3_list (mem_lwg (tb_2 _ (List.mem_of_getElem? (i := 90) (by decide +kernel))) rfl)
theorem cl_X9_101 : CVk RX9 101 M_X4_begin 2 := CVk.of mk_X4_begin (mem_lwg (tb_2 _ (List.mem_of_getElem? (i := 162) (by decide +kernel))) rfl)
theorem cl_X9_105 : CVk RX9 105 M_X1_begin 0 := CVk.of mk_X1_begin (mem_lwg (tb_2 _ (List.mem_of_getElem? (i := 173) (by decide +kernel))) rfl)
theorem cl_X9_107 : CVk RX9 107 M_X9_pathsTold 0 := CVk.of mk_X9_pathsTold (mem_lwg (tb_2 _ (List.mem_of_getElem? (i := 174) (by decide +kernel))) rfl)
theorem cl_X9_113 : CVk RX9 113 M_X9_isPulse 1 := CVk.of mk_X9_isPulse (mem_lwg (tb_2 _ (List.mem_of_getElem? (i := 198) (by decide +kernel))) rfl)
theorem cl_X9_120 : CVk RX9 120 M_X4_unmark 0 := CVk.of mk_X4_unmark (mem_lwg (tb_2 _ (List.mem_of_getElem? (i := 202) (by decide +kernel))) rfl)
theorem cl_X9_126 : CVk RX9 126 M_X9_cycleTold 0 := CVk.of mk_X9_cycleTold (mem_lwg (tb_2 _ (List.mem_of_getElem? (i := 182) (by decide +kernel))) rfl)
theorem cl_X9_129 : CVk RX9 129 M_X9_searchesTold 0 := CVk.of mk_X9_searchesTold (mem_lwg (tb_2 _ (List.mem_of_getElem? (i := 190) (by decide +kernel))) rfl)
theorem cl_X9_132 : CSk RX9 132 M_X9_isCounter 1 := CSk.of mk_X9_isCounter (mem_lwg (tb_2 _ (List.mem_of_getElem? (i := 211) (by decide +kernel))) rfl)
theorem cl_X9_135 : CVk RX9 135 M_X1_scansBut 1 := CVk.of mk_X1_scansBut (mem_lwg (tb_2 _ (List.mem_of_getElem? (i := 214) (by decide +kernel))) rfl)
theorem cl_X9_142 : CVk RX9 142 M_X1_countScans 0 := CVk.of mk_X1_countScans (mem_lwg (tb_2 _ (List.mem_of_getElem? (i := 218) (by decide +kernel))) rfl)
theorem cl_X9_146 : CVk RX9 146 M_X9_isRow 1 := CVk.of mk_X9_isRow (mem_lwg (tb_2 _ (List.mem_of_getElem? (i := 226) (by decide +kernel))) rfl)
theorem cl_X9_155 : CVk RX9 155 M_X9_goneTold 0 := CVk.of mk_X9_goneTold (mem_lwg (tb_2 _ (List.mem_of_getElem? (i := 186) (by decide +kernel))) rfl)
theorem cl_X9_161 : CVk RX9 161 M_X1_exchange 2 := CVk.of mk_X1_exchange (mem_lwg (tb_3 _ (List.mem_of_getElem? (i := 2) (by decide +kernel))) rfl)
theorem cl_X9_167 : CVk RX9 167 M_X9_mark 3 := CVk.of mk_X9_mark (mem_lwg (tb_3 _ (List.mem_of_getElem? (i := 14) (by decide +kernel))) rfl)
theorem cl_X9_174 : CVk RX9 174 M_X3_orderOf 2 := CVk.of mk_X3_orderOf (mem_lwg (tb_3 _ (List.mem_of_getElem? (i := 30) (by decide +kernel))) rfl)
theorem cl_X9_181 : CVk RX9 181 M_X9_isPath 1 := CVk.of mk_X9_isPath (mem_lwg (tb_3 _ (List.mem_of_getElem? (i := 18) (by decide +kernel))) rfl)
theorem cl_X9_184 : CVk RX9 184 M_X4_firstWished 1 := CVk.of mk_X4_firstWished (mem_lwg (tb_2 _ (List.mem_of_getElem? (i := 178) (by decide +kernel))) rfl)
theorem cl_X9_190 : CVk RX9 190 M_X7_put 1 := CVk.of mk_X7_put (mem_lwg (tb_3 _ (List.mem_of_getElem? (i := 35) (by decide +kernel))) rfl)
theorem cl_X9_197 : CVk RX9 197 M_X7_read 2 := CVk.of mk_X7_read (mem_lwg (tb_3 _ (List.mem_of_getElem? (i := 47) (by decide +kernel))) rfl)
theorem cl_X9_206 : CVk RX9 206 M_X1_takeRows 2 := CVk.of mk_X1_takeRows (mem_lwg (tb_3 _ (List.mem_of_getElem? (i := 87) (by decide +kernel))) rfl)
theorem cl_X9_216 : CVk RX9 216 M_X9_findFewest 0 := CVk.of mk_X9_findFewest (mem_lwg (tb_3 _ (List.mem_of_getElem? (i := 105) (by decide +kernel))) rfl)
theorem cl_X9_222 : CVk RX9 222 M_X9_layFewest 0 := CVk.of mk_X9_layFewest (mem_lwg (tb_3 _ (List.mem_of_getElem? (i := 160) (by decide +kernel))) rfl)
theorem cl_X9_226 : CVk RX9 226 M_X9_findCogs 0 := CVk.of mk_X9_findCogs (mem_lwg (tb_3 _ (List.mem_of_getElem? (i := 164) (by decide +kernel))) rfl)
theorem cl_X9_232 : CVk RX9 232 M_X9_layCogs 0 := CVk.of mk_X9_layCogs (mem_lwg (tb_3 _ (List.mem_of_getElem? (i := 185) (by decide +kernel))) rfl)
theorem cl_X9_244 : CVk RX9 244 M_X9_isScan 1 := CVk.of mk_X9_isScan (mem_lwg (tb_3 _ (List.mem_of_getElem? (i := 201) (by decide +kernel))) rfl)
theorem cl_X9_247 : CVk RX9 247 M_X9_buildScans 0 := CVk.of mk_X9_buildScans (mem_lwg (tb_3 _ (List.mem_of_getElem? (i := 205) (by decide +kernel))) rfl)
theorem cl_X9_254 : CVk RX9 254 M_X5_residues 2 := CVk.of mk_X5_residues (mem_lwg (tb_3 _ (List.mem_of_getElem? (i := 236) (by decide +kernel))) rfl)
theorem cl_X9_259 : CVk RX9 259 M_X5_tally 3 := CVk.of mk_X5_tally (mem_lwg (tb_4 _ (List.mem_of_getElem? (i := 4) (by decide +kernel))) rfl)
theorem cl_X9_263 : CVk RX9 263 M_X9_stateOf 1 := CVk.of mk_X9_stateOf (mem_lwg (tb_4 _ (List.mem_of_getElem? (i := 13) (by decide +kernel))) rfl)
theorem cl_X9_266 : CVk RX9 266 M_X9_isIn 2 := CVk.of mk_X9_isIn (mem_lwg (tb_4 _ (List.mem_of_getElem? (i := 39) (by decide +kernel))) rfl)
theorem cl_X9_270 : CVk RX9 270 M_X3_countChanges 2 := CVk.of mk_X3_countChanges (mem_lwg (tb_4 _ (List.mem_of_getElem? (i := 48) (by decide +kernel))) rfl)
theorem cl_X9_273 : CVk RX9 273 M_X3_greatestOrder 2 := CVk.of mk_X3_greatestOrder (mem_lwg (tb_4 _ (List.mem_of_getElem? (i := 52) (by decide +kernel))) rfl)
theorem cl_X9_276 : CVk RX9 276 M_X9_weighPaths 0 := CVk.of mk_X9_weighPaths (mem_lwg (tb_3 _ (List.mem_of_getElem? (i := 113) (by decide +kernel))) rfl)
theorem cl_X9_283 : CVk RX9 283 M_X9_isGone 1 := CVk.of mk_X9_isGone (mem_lwg (tb_4 _ (List.mem_of_getElem? (i := 43) (by decide +kernel))) rfl)
theorem cl_X9_286 : CVk RX9 286 M_X9_count 1 := CVk.of mk_X9_count (mem_lwg (tb_4 _ (List.mem_of_getElem? (i := 61) (by decide +kernel))) rfl)
theorem cl_X9_288 : CVk RX9 288 M_X9_member 2 := CVk.of mk_X9_member (mem_lwg (tb_4 _ (List.mem_of_getElem? (i := 65) (by decide +kernel))) rfl)
theorem cl_X9_291 : CVk RX9 291 M_X9_gatherLeaks 0 := CVk.of mk_X9_gatherLeaks (mem_lwg (tb_4 _ (List.mem_of_getElem? (i := 73) (by decide +kernel))) rfl)
theorem cl_X9_294 : CVk RX9 294 M_X9_leakByWeight 2 := CVk.of mk_X9_leakByWeight (mem_lwg (tb_4 _ (List.mem_of_getElem? (i := 77) (by decide +kernel))) rfl)
theorem cl_X9_300 : CVk RX9 300 M_X9_leakOfWeight 3 := CVk.of mk_X9_leakOfWeight (mem_lwg (tb_4 _ (List.mem_of_getElem? (i := 82) (by decide +kernel))) rfl)
theorem cl_X9_304 : CVk RX9 304 M_X9_isStoppedBy 2 := CVk.of mk_X9_isStoppedBy (mem_lwg (tb_4 _ (List.mem_of_getElem? (i := 90) (by decide +kernel))) rfl)
theorem cl_X9_307 : CVk RX9 307 M_X9_pace 2 := CVk.of mk_X9_pace (mem_lwg (tb_4 _ (List.mem_of_getElem? (i := 94) (by decide +kernel))) rfl)
theorem cl_X9_310 : CSk RX9 310 M_J9_floorMod_7cf53 2 := CSk.of mk_J9_floorMod_7cf53 (mem_lwg (tb_4 _ (List.mem_of_getElem? (i := 99) (by decide +kernel))) rfl)
theorem cl_X9_315 : CVk RX9 315 M_X6_begin 1 := CVk.of mk_X6_begin (mem_lwg (tb_4 _ (List.mem_of_getElem? (i := 102) (by decide +kernel))) rfl)
theorem cl_X9_317 : CVk RX9 317 M_X6_add 2 := CVk.of mk_X6_add (mem_lwg (tb_4 _ (List.mem_of_getElem? (i := 103) (by decide +kernel))) rfl)
theorem cl_X9_320 : CVk RX9 320 M_X6_state 0 := CVk.of mk_X6_state (mem_lwg (tb_4 _ (List.mem_of_getElem? (i := 104) (by decide +kernel))) rfl)
theorem cl_X9_323 : CVk RX9 323 M_X3_changeOf 2 := CVk.of mk_X3_changeOf (mem_lwg (tb_4 _ (List.mem_of_getElem? (i := 98) (by decide +kernel))) rfl)
theorem cl_X9_329 : CVk RX9 329 M_X9_wouldBeGood 0 := CVk.of mk_X9_wouldBeGood (mem_lwg (tb_4 _ (List.mem_of_getElem? (i := 109) (by decide +kernel))) rfl)
theorem cl_X9_332 : CVk RX9 332 M_X9_matters 1 := CVk.of mk_X9_matters (mem_lwg (tb_4 _ (List.mem_of_getElem? (i := 113) (by decide +kernel))) rfl)
theorem cl_X9_335 : CVk RX9 335 M_X9_earlyState 2 := CVk.of mk_X9_earlyState (mem_lwg (tb_4 _ (List.mem_of_getElem? (i := 117) (by decide +kernel))) rfl)
theorem cl_X9_338 : CSk RX9 338 M_J7_fill_fda19 4 := CSk.of mk_J7_fill_fda19 (mem_lwg (tb_4 _ (List.mem_of_getElem? (i := 125) (by decide +kernel))) rfl)
theorem cl_X9_344 : CVk RX9 344 M_X9_strikeScans 1 := CVk.of mk_X9_strikeScans (mem_lwg (tb_4 _ (List.mem_of_getElem? (i := 131) (by decide +kernel))) rfl)
theorem cl_X9_347 : CVk RX9 347 M_X6_stateOf 2 := CVk.of mk_X6_stateOf (mem_lwg (tb_4 _ (List.mem_of_getElem? (i := 18) (by decide +kernel))) rfl)
theorem cl_X9_352 : CSk RX9 352 M_J9_abs_0f7a4 1 := CSk.of mk_J9_abs_0f7a4 (mem_lwg (tb_4 _ (List.mem_of_getElem? (i := 160) (by decide +kernel))) rfl)
theorem cl_X9_355 : CSk RX9 355 M_X9_twiceCosine 2 := CSk.of mk_X9_twiceCosine (mem_lwg (tb_4 _ (List.mem_of_getElem? (i := 161) (by decide +kernel))) rfl)
theorem cl_X9_360 : CVk RX9 360 M_X9_gatherWants 0 := CVk.of mk_X9_gatherWants (mem_lwg (tb_3 _ (List.mem_of_getElem? (i := 109) (by decide +kernel))) rfl)
theorem cl_X9_363 : CVk RX9 363 M_X8_countLeft 2 := CVk.of mk_X8_countLeft (mem_lwg (tb_4 _ (List.mem_of_getElem? (i := 169) (by decide +kernel))) rfl)
theorem cl_X9_367 : CVk RX9 367 M_X9_divisor 1 := CVk.of mk_X9_divisor (mem_lwg (tb_4 _ (List.mem_of_getElem? (i := 177) (by decide +kernel))) rfl)
theorem cl_X9_370 : CVk RX9 370 M_X9_dividend 1 := CVk.of mk_X9_dividend (mem_lwg (tb_4 _ (List.mem_of_getElem? (i := 181) (by decide +kernel))) rfl)
theorem cl_X9_373 : CSk RX9 373 M_X9_bitsOfFloat 1 := CSk.of mk_X9_bitsOfFloat (mem_lwg (tb_4 _ (List.mem_of_getElem? (i := 185) (by decide +kernel))) rfl)
theorem cl_X9_377 : CSk RX9 377 M_X9_bitsOfDouble 1 := CSk.of mk_X9_bitsOfDouble (mem_lwg (tb_4 _ (List.mem_of_getElem? (i := 193) (by decide +kernel))) rfl)
theorem cl_X9_388 : CVk RX9 388 M_X4_copyFrom 1 := CVk.of mk_X4_copyFrom (mem_lwg (tb_4 _ (List.mem_of_getElem? (i := 203) (by decide +kernel))) rfl)
theorem cl_X9_391 : CVk RX9 391 M_X1_copyFrom 1 := CVk.of mk_X1_copyFrom (mem_lwg (tb_4 _ (List.mem_of_getElem? (i := 208) (by decide +kernel))) rfl)
theorem cl_X9_394 : CVk RX9 394 M_X4_countMarks 2 := CVk.of mk_X4_countMarks (mem_lwg (tb_4 _ (List.mem_of_getElem? (i := 216) (by decide +kernel))) rfl)
theorem cl_X9_397 : CVk RX9 397 M_X9_countWeights 1 := CVk.of mk_X9_countWeights (mem_lwg (tb_4 _ (List.mem_of_getElem? (i := 220) (by decide +kernel))) rfl)
theorem cl_X9_400 : CVk RX9 400 M_X9_lookAtParts 1 := CVk.of mk_X9_lookAtParts (mem_lwg (tb_4 _ (List.mem_of_getElem? (i := 224) (by decide +kernel))) rfl)
theorem cl_X9_404 : CVk RX9 404 M_X3_isGone 1 := CVk.of mk_X3_isGone (mem_lwg (tb_4 _ (List.mem_of_getElem? (i := 47) (by decide +kernel))) rfl)
theorem cl_X9_405 : CSk RX9 405 M_J7_fill_031fb 2 := CSk.of mk_J7_fill_031fb (mem_lwg (tb_4 _ (List.mem_of_getElem? (i := 17) (by decide +kernel))) rfl)
theorem cl_X9_408 : CVk RX9 408 M_X5_build 2 := CVk.of mk_X5_build (mem_lwg (tb_3 _ (List.mem_of_getElem? (i := 209) (by decide +kernel))) rfl)
theorem cl_X9_412 : CVk RX9 412 M_X5_trackChief 2 := CVk.of mk_X5_trackChief (mem_lwg (tb_3 _ (List.mem_of_getElem? (i := 218) (by decide +kernel))) rfl)
theorem cl_X9_416 : CVk RX9 416 M_X5_begin 0 := CVk.of mk_X5_begin (mem_lwg (tb_3 _ (List.mem_of_getElem? (i := 228) (by decide +kernel))) rfl)
theorem cl_X9_420 : CVk RX9 420 M_X3_weigh 1 := CVk.of mk_X3_weigh (mem_lwg (tb_3 _ (List.mem_of_getElem? (i := 117) (by decide +kernel))) rfl)
theorem cl_X9_426 : CVk RX9 426 M_X8_gather 3 := CVk.of mk_X8_gather (mem_lwg (tb_3 _ (List.mem_of_getElem? (i := 125) (by decide +kernel))) rfl)
theorem cl_X9_431 : CVk RX9 431 M_X2_search 3 := CVk.of mk_X2_search (mem_lwg (tb_3 _ (List.mem_of_getElem? (i := 147) (by decide +kernel))) rfl)
theorem cl_X9_436 : CVk RX9 436 M_X0_search 4 := CVk.of mk_X0_search (mem_lwg (tb_3 _ (List.mem_of_getElem? (i := 168) (by decide +kernel))) rfl)
theorem ob_X0_3 : Cond.methodLink RX0 3 objectInit ∈ lwg := mem_lwg (tb_2 _ (List.mem_of_getElem? (i := 70) (by decide +kernel))) rfl
theorem cl_X0_39 : CVk RX0 39 M_X0_sortOut 3 := CVk.of mk_X0_sortOut (mem_lwg (tb_3 _ (List.mem_of_getElem? (i := 172) (by decide +kernel))) rfl)
theorem cl_X0_43 : CSk RX0 43 M_X0_pick 6 := CSk.of mk_X0_pick (mem_lwg (tb_3 _ (List.mem_of_getElem? (i := 177) (by decide +kernel))) rfl)
theorem cl_X0_50 : CVk RX0 50 M_X3_isGone 1 := CVk.of mk_X3_isGone (mem_lwg (tb_3 _ (List.mem_of_getElem? (i := 176) (by decide +kernel))) rfl)
theorem cl_X0_58 : CVk RX0 58 M_X0_fits 5 := CVk.of mk_X0_fits (mem_lwg (tb_3 _ (List.mem_of_getElem? (i := 180) (by decide +kernel))) rfl)
theorem cl_X0_62 : CVk RX0 62 M_X8_gap 3 := CVk.of mk_X8_gap (mem_lwg (tb_3 _ (List.mem_of_getElem? (i := 184) (by decide +kernel))) rfl)
theorem ob_X1_3 : Cond.methodLink RX1 3 objectInit ∈ lwg := mem_lwg (tb_1 _ (List.mem_of_getElem? (i := 74) (by decide +kernel))) rfl
theorem cl_X1_32 : CVk RX1 32 M_X1_begin 0 := CVk.of mk_X1_begin (mem_lwg (tb_1 _ (List.mem_of_getElem? (i := 75) (by decide +kernel))) rfl)
theorem cl_X1_35 : CSk RX1 35 M_J7_fill_53178 2 := CSk.of mk_J7_fill_53178 (mem_lwg (tb_1 _ (List.mem_of_getElem? (i := 79) (by decide +kernel))) rfl)
theorem ac_X1_41 : Cond.methodLink RX1 41 arraycopyName ∈ lwg := mem_lwg (tb_3 _ (List.mem_of_getElem? (i := 91) (by decide +kernel))) rfl
theorem cl_X1_47 : CSk RX1 47 M_J9_max_7cf53 2 := CSk.of mk_J9_max_7cf53 (mem_lwg (tb_3 _ (List.mem_of_getElem? (i := 94) (by decide +kernel))) rfl)
theorem ob_X2_3 : Cond.methodLink RX2 3 objectInit ∈ lwg := mem_lwg (tb_2 _ (List.mem_of_getElem? (i := 45) (by decide +kernel))) rfl
theorem cl_X2_40 : CSk RX2 40 M_X2_pick 7 := CSk.of mk_X2_pick (mem_lwg (tb_3 _ (List.mem_of_getElem? (i := 152) (by decide +kernel))) rfl)
theorem ac_X2_47 : Cond.methodLink RX2 47 arraycopyName ∈ lwg := mem_lwg (tb_3 _ (List.mem_of_getElem? (i := 155) (by decide +kernel))) rfl
theorem cl_X2_56 : CVk RX2 56 M_X8_keepLeft 4 := CVk.of mk_X8_keepLeft (mem_lwg (tb_3 _ (List.mem_of_getElem? (i := 156) (by decide +kernel))) rfl)
theorem ob_X3_3 : Cond.methodLink RX3 3 objectInit ∈ lwg := mem_lwg (tb_1 _ (List.mem_of_getElem? (i := 143) (by decide +kernel))) rfl
theorem cl_X3_42 : CVk RX3 42 M_X3_spell 2 := CVk.of mk_X3_spell (mem_lwg (tb_2 _ (List.mem_of_getElem? (i := 94) (by decide +kernel))) rfl)
theorem cl_X3_46 : CVk RX3 46 M_X3_keepsKinds 1 := CVk.of mk_X3_keepsKinds (mem_lwg (tb_2 _ (List.mem_of_getElem? (i := 98) (by decide +kernel))) rfl)
theorem cl_X3_50 : CVk RX3 50 M_X3_orderOf 2 := CVk.of mk_X3_orderOf (mem_lwg (tb_2 _ (List.mem_of_getElem? (i := 102) (by decide +kernel))) rfl)
theorem cl_X3_57 : CSk RX3 57 M_J9_abs_0f7a4 1 := CSk.of mk_J9_abs_0f7a4 (mem_lwg (tb_2 _ (List.mem_of_getElem? (i := 106) (by decide +kernel))) rfl)
theorem cl_X3_64 : CVk RX3 64 M_X3_changeOf 2 := CVk.of mk_X3_changeOf (mem_lwg (tb_3 _ (List.mem_of_getElem? (i := 121) (by decide +kernel))) rfl)
theorem cl_X3_70 : CSk RX3 70 M_J9_max_7cf53 2 := CSk.of mk_J9_max_7cf53 (mem_lwg (tb_4 _ (List.mem_of_getElem? (i := 56) (by decide +kernel))) rfl)
theorem ob_X4_3 : Cond.methodLink RX4 3 objectInit ∈ lwg := mem_lwg (tb_1 _ (List.mem_of_getElem? (i := 31) (by decide +kernel))) rfl
theorem cl_X4_32 : CSk RX4 32 M_J7_fill_53178 2 := CSk.of mk_J7_fill_53178 (mem_lwg (tb_1 _ (List.mem_of_getElem? (i := 32) (by decide +kernel))) rfl)
theorem cl_X4_38 : CVk RX4 38 M_X4_unmark 0 := CVk.of mk_X4_unmark (mem_lwg (tb_2 _ (List.mem_of_getElem? (i := 166) (by decide +kernel))) rfl)
theorem cl_X4_41 : CSk RX4 41 M_J7_fill_031fb 2 := CSk.of mk_J7_fill_031fb (mem_lwg (tb_2 _ (List.mem_of_getElem? (i := 170) (by decide +kernel))) rfl)
theorem ac_X4_44 : Cond.methodLink RX4 44 arraycopyName ∈ lwg := mem_lwg (tb_4 _ (List.mem_of_getElem? (i := 207) (by decide +kernel))) rfl
theorem ob_X5_3 : Cond.methodLink RX5 3 objectInit ∈ lwg := mem_lwg (tb_1 _ (List.mem_of_getElem? (i := 176) (by decide +kernel))) rfl
theorem cl_X5_40 : CVk RX5 40 M_X1_countScans 0 := CVk.of mk_X1_countScans (mem_lwg (tb_3 _ (List.mem_of_getElem? (i := 213) (by decide +kernel))) rfl)
theorem cl_X5_47 : CVk RX5 47 M_X1_ownPhase 2 := CVk.of mk_X1_ownPhase (mem_lwg (tb_3 _ (List.mem_of_getElem? (i := 214) (by decide +kernel))) rfl)
theorem cl_X5_51 : CSk RX5 51 M_J7_fill_53178 2 := CSk.of mk_J7_fill_53178 (mem_lwg (tb_3 _ (List.mem_of_getElem? (i := 222) (by decide +kernel))) rfl)
theorem cl_X5_57 : CVk RX5 57 M_X3_changeOf 2 := CVk.of mk_X3_changeOf (mem_lwg (tb_3 _ (List.mem_of_getElem? (i := 223) (by decide +kernel))) rfl)
theorem cl_X5_62 : CVk RX5 62 M_X5_addPulse 4 := CVk.of mk_X5_addPulse (mem_lwg (tb_3 _ (List.mem_of_getElem? (i := 224) (by decide +kernel))) rfl)
theorem cl_X5_66 : CVk RX5 66 M_X5_residues 2 := CVk.of mk_X5_residues (mem_lwg (tb_4 _ (List.mem_of_getElem? (i := 8) (by decide +kernel))) rfl)
theorem ob_X6_3 : Cond.methodLink RX6 3 objectInit ∈ lwg := mem_lwg (tb_1 _ (List.mem_of_getElem? (i := 212) (by decide +kernel))) rfl
theorem cl_X6_38 : CVk RX6 38 M_X6_factor 1 := CVk.of mk_X6_factor (mem_lwg (tb_4 _ (List.mem_of_getElem? (i := 26) (by decide +kernel))) rfl)
theorem cl_X6_42 : CSk RX6 42 M_J7_fill_53178 2 := CSk.of mk_J7_fill_53178 (mem_lwg (tb_4 _ (List.mem_of_getElem? (i := 30) (by decide +kernel))) rfl)
theorem cl_X6_48 : CVk RX6 48 M_X6_begin 1 := CVk.of mk_X6_begin (mem_lwg (tb_4 _ (List.mem_of_getElem? (i := 22) (by decide +kernel))) rfl)
theorem cl_X6_51 : CVk RX6 51 M_X6_add 2 := CVk.of mk_X6_add (mem_lwg (tb_4 _ (List.mem_of_getElem? (i := 31) (by decide +kernel))) rfl)
theorem cl_X6_55 : CVk RX6 55 M_X6_state 0 := CVk.of mk_X6_state (mem_lwg (tb_4 _ (List.mem_of_getElem? (i := 35) (by decide +kernel))) rfl)
theorem ob_X7_3 : Cond.methodLink RX7 3 objectInit ∈ lwg := mem_lwg (tb_1 _ (List.mem_of_getElem? (i := 110) (by decide +kernel))) rfl
theorem cl_X7_35 : CSk RX7 35 M_J7_fill_53178 2 := CSk.of mk_J7_fill_53178 (mem_lwg (tb_3 _ (List.mem_of_getElem? (i := 51) (by decide +kernel))) rfl)
theorem cl_X7_41 : CVk RX7 41 M_X7_skipBlanks 0 := CVk.of mk_X7_skipBlanks (mem_lwg (tb_3 _ (List.mem_of_getElem? (i := 52) (by decide +kernel))) rfl)
theorem cl_X7_44 : CVk RX7 44 M_X7_readRow 2 := CVk.of mk_X7_readRow (mem_lwg (tb_3 _ (List.mem_of_getElem? (i := 60) (by decide +kernel))) rfl)
theorem cl_X7_48 : CVk RX7 48 M_X7_readName 1 := CVk.of mk_X7_readName (mem_lwg (tb_3 _ (List.mem_of_getElem? (i := 64) (by decide +kernel))) rfl)
theorem cl_X7_52 : CVk RX7 52 M_X7_fail 2 := CVk.of mk_X7_fail (mem_lwg (tb_3 _ (List.mem_of_getElem? (i := 68) (by decide +kernel))) rfl)
theorem cl_X7_55 : CVk RX7 55 M_X7_byteHere 0 := CVk.of mk_X7_byteHere (mem_lwg (tb_3 _ (List.mem_of_getElem? (i := 56) (by decide +kernel))) rfl)
theorem cl_X7_59 : CVk RX7 59 M_X7_readNumbers 2 := CVk.of mk_X7_readNumbers (mem_lwg (tb_3 _ (List.mem_of_getElem? (i := 72) (by decide +kernel))) rfl)
theorem cl_X7_62 : CVk RX7 62 M_X7_digitHere 0 := CVk.of mk_X7_digitHere (mem_lwg (tb_3 _ (List.mem_of_getElem? (i := 76) (by decide +kernel))) rfl)
theorem cl_X7_66 : CVk RX7 66 M_X7_readNumber 0 := CVk.of mk_X7_readNumber (mem_lwg (tb_3 _ (List.mem_of_getElem? (i := 80) (by decide +kernel))) rfl)
theorem cl_X7_69 : CSk RX7 69 M_J9_min_7cf53 2 := CSk.of mk_J9_min_7cf53 (mem_lwg (tb_3 _ (List.mem_of_getElem? (i := 84) (by decide +kernel))) rfl)
theorem ob_X8_3 : Cond.methodLink RX8 3 objectInit ∈ lwg := mem_lwg (tb_2 _ (List.mem_of_getElem? (i := 3) (by decide +kernel))) rfl
theorem cl_X8_48 : CSk RX8 48 M_J7_fill_53178 2 := CSk.of mk_J7_fill_53178 (mem_lwg (tb_3 _ (List.mem_of_getElem? (i := 129) (by decide +kernel))) rfl)
theorem cl_X8_54 : CVk RX8 54 M_X3_changeOf 2 := CVk.of mk_X3_changeOf (mem_lwg (tb_3 _ (List.mem_of_getElem? (i := 130) (by decide +kernel))) rfl)
theorem cl_X8_58 : CVk RX8 58 M_X8_sort 3 := CVk.of mk_X8_sort (mem_lwg (tb_3 _ (List.mem_of_getElem? (i := 131) (by decide +kernel))) rfl)
theorem cl_X8_62 : CVk RX8 62 M_X3_isGone 1 := CVk.of mk_X3_isGone (mem_lwg (tb_3 _ (List.mem_of_getElem? (i := 135) (by decide +kernel))) rfl)
theorem cl_X8_69 : CVk RX8 69 M_X8_gap 3 := CVk.of mk_X8_gap (mem_lwg (tb_3 _ (List.mem_of_getElem? (i := 139) (by decide +kernel))) rfl)
theorem cl_X8_73 : CSk RX8 73 M_J9_abs_0f7a4 1 := CSk.of mk_J9_abs_0f7a4 (mem_lwg (tb_3 _ (List.mem_of_getElem? (i := 143) (by decide +kernel))) rfl)
theorem cl_X8_79 : CSk RX8 79 M_X8_divisorOf 2 := CSk.of mk_X8_divisorOf (mem_lwg (tb_3 _ (List.mem_of_getElem? (i := 144) (by decide +kernel))) rfl)
theorem cl_L_9 : CIk RL 9 M_X9_init 0 := CIk.of mk_X9_init (mem_lwg (tb_1 _ (List.mem_of_getElem? (i := 20) (by decide +kernel))) rfl)
theorem cl_L_12 : CIk RL 12 M_X10_init 0 := CIk.of mk_X10_init (mem_lwg (tb_4 _ (List.mem_of_getElem? (i := 230) (by decide +kernel))) rfl)
theorem cl_L_13 : CVk RL 13 M_X9_pulses 2 := CVk.of mk_X9_pulses (mem_lwg (tb_2 _ (List.mem_of_getElem? (i := 158) (by decide +kernel))) rfl)
theorem cl_L_17 : CVk RL 17 M_X10_pulses 2 := CVk.of mk_X10_pulses (mem_lwg (tb_5 _ (List.mem_of_getElem? (i := 120) (by decide +kernel))) rfl)
theorem cl_L_18 : CVk RL 18 M_X9_kind 2 := CVk.of mk_X9_kind (mem_lwg (tb_2 _ (List.mem_of_getElem? (i := 194) (by decide +kernel))) rfl)
theorem cl_L_22 : CVk RL 22 M_X10_kind 2 := CVk.of mk_X10_kind (mem_lwg (tb_5 _ (List.mem_of_getElem? (i := 136) (by decide +kernel))) rfl)
theorem cl_L_23 : CVk RL 23 M_X9_turn 1 := CVk.of mk_X9_turn (mem_lwg (tb_2 _ (List.mem_of_getElem? (i := 203) (by decide +kernel))) rfl)
theorem cl_L_27 : CVk RL 27 M_X10_turn 1 := CVk.of mk_X10_turn (mem_lwg (tb_5 _ (List.mem_of_getElem? (i := 144) (by decide +kernel))) rfl)
theorem cl_L_28 : CVk RL 28 M_X9_counter 2 := CVk.of mk_X9_counter (mem_lwg (tb_2 _ (List.mem_of_getElem? (i := 207) (by decide +kernel))) rfl)
theorem cl_L_31 : CVk RL 31 M_X10_counter 2 := CVk.of mk_X10_counter (mem_lwg (tb_5 _ (List.mem_of_getElem? (i := 148) (by decide +kernel))) rfl)
theorem cl_L_32 : CVk RL 32 M_X9_step 3 := CVk.of mk_X9_step (mem_lwg (tb_2 _ (List.mem_of_getElem? (i := 222) (by decide +kernel))) rfl)
theorem cl_L_36 : CVk RL 36 M_X10_step 3 := CVk.of mk_X10_step (mem_lwg (tb_5 _ (List.mem_of_getElem? (i := 164) (by decide +kernel))) rfl)
theorem cl_L_37 : CVk RL 37 M_X9_gradient 2 := CVk.of mk_X9_gradient (mem_lwg (tb_2 _ (List.mem_of_getElem? (i := 230) (by decide +kernel))) rfl)
theorem cl_L_40 : CVk RL 40 M_X10_gradient 2 := CVk.of mk_X10_gradient (mem_lwg (tb_5 _ (List.mem_of_getElem? (i := 172) (by decide +kernel))) rfl)
theorem cl_L_41 : CVk RL 41 M_X9_weight 3 := CVk.of mk_X9_weight (mem_lwg (tb_2 _ (List.mem_of_getElem? (i := 234) (by decide +kernel))) rfl)
theorem cl_L_44 : CVk RL 44 M_X10_weight 3 := CVk.of mk_X10_weight (mem_lwg (tb_5 _ (List.mem_of_getElem? (i := 176) (by decide +kernel))) rfl)
theorem cl_L_45 : CVk RL 45 M_X9_swap 2 := CVk.of mk_X9_swap (mem_lwg (tb_2 _ (List.mem_of_getElem? (i := 238) (by decide +kernel))) rfl)
theorem cl_L_48 : CVk RL 48 M_X10_swap 2 := CVk.of mk_X10_swap (mem_lwg (tb_5 _ (List.mem_of_getElem? (i := 180) (by decide +kernel))) rfl)
theorem cl_L_49 : CVk RL 49 M_X9_follow 1 := CVk.of mk_X9_follow (mem_lwg (tb_3 _ (List.mem_of_getElem? (i := 6) (by decide +kernel))) rfl)
theorem cl_L_53 : CVk RL 53 M_X10_follow 1 := CVk.of mk_X10_follow (mem_lwg (tb_5 _ (List.mem_of_getElem? (i := 188) (by decide +kernel))) rfl)
theorem cl_L_54 : CVk RL 54 M_X9_wish 2 := CVk.of mk_X9_wish (mem_lwg (tb_3 _ (List.mem_of_getElem? (i := 10) (by decide +kernel))) rfl)
theorem cl_L_58 : CVk RL 58 M_X10_wish 2 := CVk.of mk_X10_wish (mem_lwg (tb_5 _ (List.mem_of_getElem? (i := 196) (by decide +kernel))) rfl)
theorem cl_L_59 : CVk RL 59 M_X9_free 2 := CVk.of mk_X9_free (mem_lwg (tb_3 _ (List.mem_of_getElem? (i := 22) (by decide +kernel))) rfl)
theorem cl_L_62 : CVk RL 62 M_X10_free 2 := CVk.of mk_X10_free (mem_lwg (tb_5 _ (List.mem_of_getElem? (i := 208) (by decide +kernel))) rfl)
theorem cl_L_63 : CVk RL 63 M_X9_freeAll 2 := CVk.of mk_X9_freeAll (mem_lwg (tb_3 _ (List.mem_of_getElem? (i := 26) (by decide +kernel))) rfl)
theorem cl_L_66 : CVk RL 66 M_X10_freeAll 2 := CVk.of mk_X10_freeAll (mem_lwg (tb_5 _ (List.mem_of_getElem? (i := 212) (by decide +kernel))) rfl)
theorem cl_L_67 : CVk RL 67 M_X9_feed 5 := CVk.of mk_X9_feed (mem_lwg (tb_3 _ (List.mem_of_getElem? (i := 31) (by decide +kernel))) rfl)
theorem cl_L_71 : CVk RL 71 M_X10_feed 5 := CVk.of mk_X10_feed (mem_lwg (tb_5 _ (List.mem_of_getElem? (i := 216) (by decide +kernel))) rfl)
theorem cl_L_72 : CVk RL 72 M_X9_end 1 := CVk.of mk_X9_end (mem_lwg (tb_3 _ (List.mem_of_getElem? (i := 39) (by decide +kernel))) rfl)
theorem cl_L_75 : CVk RL 75 M_X10_end 1 := CVk.of mk_X10_end (mem_lwg (tb_5 _ (List.mem_of_getElem? (i := 224) (by decide +kernel))) rfl)
theorem cl_L_76 : CVk RL 76 M_X9_rows 0 := CVk.of mk_X9_rows (mem_lwg (tb_3 _ (List.mem_of_getElem? (i := 43) (by decide +kernel))) rfl)
theorem cl_L_80 : CVk RL 80 M_X10_rows 0 := CVk.of mk_X10_rows (mem_lwg (tb_5 _ (List.mem_of_getElem? (i := 228) (by decide +kernel))) rfl)
theorem cl_L_81 : CVk RL 81 M_X9_fault 1 := CVk.of mk_X9_fault (mem_lwg (tb_3 _ (List.mem_of_getElem? (i := 97) (by decide +kernel))) rfl)
theorem cl_L_85 : CVk RL 85 M_X10_fault 1 := CVk.of mk_X10_fault (mem_lwg (tb_6 _ (List.mem_of_getElem? (i := 16) (by decide +kernel))) rfl)
theorem cl_L_86 : CVk RL 86 M_X9_lay 1 := CVk.of mk_X9_lay (mem_lwg (tb_3 _ (List.mem_of_getElem? (i := 101) (by decide +kernel))) rfl)
theorem cl_L_89 : CVk RL 89 M_X10_lay 1 := CVk.of mk_X10_lay (mem_lwg (tb_6 _ (List.mem_of_getElem? (i := 108) (by decide +kernel))) rfl)
theorem cl_L_90 : CVk RL 90 M_X9_order 2 := CVk.of mk_X9_order (mem_lwg (tb_3 _ (List.mem_of_getElem? (i := 189) (by decide +kernel))) rfl)
theorem cl_L_93 : CVk RL 93 M_X10_order 2 := CVk.of mk_X10_order (mem_lwg (tb_6 _ (List.mem_of_getElem? (i := 128) (by decide +kernel))) rfl)
theorem cl_L_94 : CVk RL 94 M_X9_find 4 := CVk.of mk_X9_find (mem_lwg (tb_3 _ (List.mem_of_getElem? (i := 193) (by decide +kernel))) rfl)
theorem cl_L_98 : CVk RL 98 M_X10_find 4 := CVk.of mk_X10_find (mem_lwg (tb_6 _ (List.mem_of_getElem? (i := 132) (by decide +kernel))) rfl)
theorem cl_L_99 : CVk RL 99 M_X9_phase 2 := CVk.of mk_X9_phase (mem_lwg (tb_3 _ (List.mem_of_getElem? (i := 197) (by decide +kernel))) rfl)
theorem cl_L_102 : CVk RL 102 M_X10_phase 2 := CVk.of mk_X10_phase (mem_lwg (tb_6 _ (List.mem_of_getElem? (i := 136) (by decide +kernel))) rfl)
theorem cl_L_103 : CVk RL 103 M_X9_residue 2 := CVk.of mk_X9_residue (mem_lwg (tb_3 _ (List.mem_of_getElem? (i := 232) (by decide +kernel))) rfl)
theorem cl_L_106 : CVk RL 106 M_X10_residue 2 := CVk.of mk_X10_residue (mem_lwg (tb_6 _ (List.mem_of_getElem? (i := 168) (by decide +kernel))) rfl)
theorem cl_L_107 : CVk RL 107 M_X9_many 2 := CVk.of mk_X9_many (mem_lwg (tb_4 _ (List.mem_of_getElem? (i := 0) (by decide +kernel))) rfl)
theorem cl_L_110 : CVk RL 110 M_X10_many 2 := CVk.of mk_X10_many (mem_lwg (tb_6 _ (List.mem_of_getElem? (i := 176) (by decide +kernel))) rfl)
theorem cl_L_111 : CVk RL 111 M_X9_path 2 := CVk.of mk_X9_path (mem_lwg (tb_4 _ (List.mem_of_getElem? (i := 9) (by decide +kernel))) rfl)
theorem cl_L_114 : CVk RL 114 M_X10_path 2 := CVk.of mk_X10_path (mem_lwg (tb_6 _ (List.mem_of_getElem? (i := 184) (by decide +kernel))) rfl)
theorem cl_L_115 : CVk RL 115 M_X9_leak 1 := CVk.of mk_X9_leak (mem_lwg (tb_4 _ (List.mem_of_getElem? (i := 57) (by decide +kernel))) rfl)
theorem cl_L_118 : CVk RL 118 M_X10_leak 1 := CVk.of mk_X10_leak (mem_lwg (tb_6 _ (List.mem_of_getElem? (i := 224) (by decide +kernel))) rfl)
theorem cl_L_119 : CVk RL 119 M_X9_worst 2 := CVk.of mk_X9_worst (mem_lwg (tb_4 _ (List.mem_of_getElem? (i := 69) (by decide +kernel))) rfl)
theorem cl_L_122 : CVk RL 122 M_X10_worst 2 := CVk.of mk_X10_worst (mem_lwg (tb_7 _ (List.mem_of_getElem? (i := 4) (by decide +kernel))) rfl)
theorem cl_L_123 : CVk RL 123 M_X9_stopped 1 := CVk.of mk_X9_stopped (mem_lwg (tb_4 _ (List.mem_of_getElem? (i := 86) (by decide +kernel))) rfl)
theorem cl_L_126 : CVk RL 126 M_X10_stopped 1 := CVk.of mk_X10_stopped (mem_lwg (tb_7 _ (List.mem_of_getElem? (i := 8) (by decide +kernel))) rfl)
theorem cl_L_127 : CVk RL 127 M_X9_spare 1 := CVk.of mk_X9_spare (mem_lwg (tb_4 _ (List.mem_of_getElem? (i := 105) (by decide +kernel))) rfl)
theorem cl_L_130 : CVk RL 130 M_X10_spare 1 := CVk.of mk_X10_spare (mem_lwg (tb_7 _ (List.mem_of_getElem? (i := 16) (by decide +kernel))) rfl)
theorem cl_L_131 : CVk RL 131 M_X9_soonest 0 := CVk.of mk_X9_soonest (mem_lwg (tb_4 _ (List.mem_of_getElem? (i := 121) (by decide +kernel))) rfl)
theorem cl_L_134 : CVk RL 134 M_X10_soonest 0 := CVk.of mk_X10_soonest (mem_lwg (tb_7 _ (List.mem_of_getElem? (i := 24) (by decide +kernel))) rfl)
theorem cl_L_135 : CVk RL 135 M_X9_lost 1 := CVk.of mk_X9_lost (mem_lwg (tb_4 _ (List.mem_of_getElem? (i := 135) (by decide +kernel))) rfl)
theorem cl_L_138 : CVk RL 138 M_X10_lost 1 := CVk.of mk_X10_lost (mem_lwg (tb_6 _ (List.mem_of_getElem? (i := 232) (by decide +kernel))) rfl)
theorem cl_L_139 : CVk RL 139 M_X9_early 2 := CVk.of mk_X9_early (mem_lwg (tb_4 _ (List.mem_of_getElem? (i := 139) (by decide +kernel))) rfl)
theorem cl_L_142 : CVk RL 142 M_X10_early 2 := CVk.of mk_X10_early (mem_lwg (tb_7 _ (List.mem_of_getElem? (i := 36) (by decide +kernel))) rfl)
theorem cl_L_143 : CVk RL 143 M_X9_until 2 := CVk.of mk_X9_until (mem_lwg (tb_4 _ (List.mem_of_getElem? (i := 143) (by decide +kernel))) rfl)
theorem cl_L_146 : CVk RL 146 M_X10_until 2 := CVk.of mk_X10_until (mem_lwg (tb_7 _ (List.mem_of_getElem? (i := 40) (by decide +kernel))) rfl)
theorem cl_L_147 : CVk RL 147 M_X9_fewest 1 := CVk.of mk_X9_fewest (mem_lwg (tb_4 _ (List.mem_of_getElem? (i := 147) (by decide +kernel))) rfl)
theorem cl_L_150 : CVk RL 150 M_X10_fewest 1 := CVk.of mk_X10_fewest (mem_lwg (tb_6 _ (List.mem_of_getElem? (i := 20) (by decide +kernel))) rfl)
theorem cl_L_151 : CVk RL 151 M_X9_cogs 1 := CVk.of mk_X9_cogs (mem_lwg (tb_4 _ (List.mem_of_getElem? (i := 151) (by decide +kernel))) rfl)
theorem cl_L_154 : CVk RL 154 M_X10_cogs 1 := CVk.of mk_X10_cogs (mem_lwg (tb_6 _ (List.mem_of_getElem? (i := 92) (by decide +kernel))) rfl)
theorem cl_L_155 : CVk RL 155 M_X9_power 1 := CVk.of mk_X9_power (mem_lwg (tb_4 _ (List.mem_of_getElem? (i := 155) (by decide +kernel))) rfl)
theorem cl_L_159 : CVk RL 159 M_X10_power 1 := CVk.of mk_X10_power (mem_lwg (tb_7 _ (List.mem_of_getElem? (i := 44) (by decide +kernel))) rfl)
theorem cl_L_160 : CVk RL 160 M_X9_would 5 := CVk.of mk_X9_would (mem_lwg (tb_4 _ (List.mem_of_getElem? (i := 165) (by decide +kernel))) rfl)
theorem cl_L_163 : CVk RL 163 M_X10_would 5 := CVk.of mk_X10_would (mem_lwg (tb_6 _ (List.mem_of_getElem? (i := 120) (by decide +kernel))) rfl)
theorem cl_L_164 : CVk RL 164 M_X9_share 1 := CVk.of mk_X9_share (mem_lwg (tb_4 _ (List.mem_of_getElem? (i := 173) (by decide +kernel))) rfl)
theorem cl_L_167 : CVk RL 167 M_X10_share 1 := CVk.of mk_X10_share (mem_lwg (tb_7 _ (List.mem_of_getElem? (i := 48) (by decide +kernel))) rfl)
theorem cl_L_168 : CVk RL 168 M_X9_part 1 := CVk.of mk_X9_part (mem_lwg (tb_4 _ (List.mem_of_getElem? (i := 189) (by decide +kernel))) rfl)
theorem cl_L_171 : CVk RL 171 M_X10_part 1 := CVk.of mk_X10_part (mem_lwg (tb_7 _ (List.mem_of_getElem? (i := 70) (by decide +kernel))) rfl)
theorem cl_L_172 : CVk RL 172 M_X9_image 1 := CVk.of mk_X9_image (mem_lwg (tb_4 _ (List.mem_of_getElem? (i := 199) (by decide +kernel))) rfl)
theorem cl_L_175 : CVk RL 175 M_X10_image 1 := CVk.of mk_X10_image (mem_lwg (tb_7 _ (List.mem_of_getElem? (i := 84) (by decide +kernel))) rfl)
theorem cl_L_176 : CVk RL 176 M_X9_look 1 := CVk.of mk_X9_look (mem_lwg (tb_4 _ (List.mem_of_getElem? (i := 212) (by decide +kernel))) rfl)
theorem cl_L_179 : CVk RL 179 M_X10_look 1 := CVk.of mk_X10_look (mem_lwg (tb_7 _ (List.mem_of_getElem? (i := 88) (by decide +kernel))) rfl)
theorem cl_X10_11 : CVk RX10 11 M_X10_n 0 := CVk.of mk_X10_n (mem_lwg (tb_5 _ (List.mem_of_getElem? (i := 2) (by decide +kernel))) rfl)
theorem cl_X10_18 : CVk RX10 18 M_X10_orderOf 2 := CVk.of mk_X10_orderOf (mem_lwg (tb_5 _ (List.mem_of_getElem? (i := 6) (by decide +kernel))) rfl)
theorem cl_X10_22 : CVk RX10 22 M_X10_m 0 := CVk.of mk_X10_m (mem_lwg (tb_4 _ (List.mem_of_getElem? (i := 238) (by decide +kernel))) rfl)
theorem cl_X10_28 : CVk RX10 28 M_X10_mayFollow 3 := CVk.of mk_X10_mayFollow (mem_lwg (tb_5 _ (List.mem_of_getElem? (i := 10) (by decide +kernel))) rfl)
theorem ob_X10_36 : Cond.methodLink RX10 36 objectInit ∈ lwg := mem_lwg (tb_4 _ (List.mem_of_getElem? (i := 233) (by decide +kernel))) rfl
theorem cl_X10_98 : CVk RX10 98 M_X10_laysPaths 0 := CVk.of mk_X10_laysPaths (mem_lwg (tb_4 _ (List.mem_of_getElem? (i := 234) (by decide +kernel))) rfl)
theorem cl_X10_101 : CVk RX10 101 M_X10_laysPrimitive 0 := CVk.of mk_X10_laysPrimitive (mem_lwg (tb_5 _ (List.mem_of_getElem? (i := 14) (by decide +kernel))) rfl)
theorem cl_X10_104 : CVk RX10 104 M_X10_isWished 1 := CVk.of mk_X10_isWished (mem_lwg (tb_6 _ (List.mem_of_getElem? (i := 36) (by decide +kernel))) rfl)
theorem cl_X10_108 : CVk RX10 108 M_X10_changeOf 2 := CVk.of mk_X10_changeOf (mem_lwg (tb_6 _ (List.mem_of_getElem? (i := 56) (by decide +kernel))) rfl)
theorem cl_X10_111 : CVk RX10 111 M_X10_size 1 := CVk.of mk_X10_size (mem_lwg (tb_6 _ (List.mem_of_getElem? (i := 60) (by decide +kernel))) rfl)
theorem cl_X10_115 : CVk RX10 115 M_X10_weightOf 2 := CVk.of mk_X10_weightOf (mem_lwg (tb_6 _ (List.mem_of_getElem? (i := 64) (by decide +kernel))) rfl)
theorem cl_X10_118 : CVk RX10 118 M_X10_isSpoiled 1 := CVk.of mk_X10_isSpoiled (mem_lwg (tb_6 _ (List.mem_of_getElem? (i := 48) (by decide +kernel))) rfl)
theorem cl_X10_121 : CVk RX10 121 M_X10_weighs 1 := CVk.of mk_X10_weighs (mem_lwg (tb_6 _ (List.mem_of_getElem? (i := 52) (by decide +kernel))) rfl)
theorem cl_X10_124 : CVk RX10 124 M_X10_isIn 3 := CVk.of mk_X10_isIn (mem_lwg (tb_5 _ (List.mem_of_getElem? (i := 124) (by decide +kernel))) rfl)
theorem cl_X10_127 : CVk RX10 127 M_X10_clearsCycle 0 := CVk.of mk_X10_clearsCycle (mem_lwg (tb_5 _ (List.mem_of_getElem? (i := 128) (by decide +kernel))) rfl)
theorem cl_X10_130 : CVk RX10 130 M_X10_wishesNothing 0 := CVk.of mk_X10_wishesNothing (mem_lwg (tb_5 _ (List.mem_of_getElem? (i := 132) (by decide +kernel))) rfl)
theorem cl_X10_133 : CVk RX10 133 M_X10_isPulse 1 := CVk.of mk_X10_isPulse (mem_lwg (tb_5 _ (List.mem_of_getElem? (i := 140) (by decide +kernel))) rfl)
theorem cl_X10_136 : CVk RX10 136 M_X10_lengthOf 1 := CVk.of mk_X10_lengthOf (mem_lwg (tb_5 _ (List.mem_of_getElem? (i := 160) (by decide +kernel))) rfl)
theorem cl_X10_139 : CVk RX10 139 M_X10_isCounter 1 := CVk.of mk_X10_isCounter (mem_lwg (tb_5 _ (List.mem_of_getElem? (i := 152) (by decide +kernel))) rfl)
theorem cl_X10_142 : CVk RX10 142 M_X10_scans 0 := CVk.of mk_X10_scans (mem_lwg (tb_5 _ (List.mem_of_getElem? (i := 156) (by decide +kernel))) rfl)
theorem cl_X10_145 : CVk RX10 145 M_X10_isSource 1 := CVk.of mk_X10_isSource (mem_lwg (tb_5 _ (List.mem_of_getElem? (i := 168) (by decide +kernel))) rfl)
theorem cl_X10_148 : CVk RX10 148 M_X10_turnOf 0 := CVk.of mk_X10_turnOf (mem_lwg (tb_5 _ (List.mem_of_getElem? (i := 18) (by decide +kernel))) rfl)
theorem cl_X10_151 : CVk RX10 151 M_X10_swaps 2 := CVk.of mk_X10_swaps (mem_lwg (tb_5 _ (List.mem_of_getElem? (i := 184) (by decide +kernel))) rfl)
theorem cl_X10_155 : CVk RX10 155 M_X10_follows 0 := CVk.of mk_X10_follows (mem_lwg (tb_5 _ (List.mem_of_getElem? (i := 192) (by decide +kernel))) rfl)
theorem cl_X10_159 : CVk RX10 159 M_X10_isPath 1 := CVk.of mk_X10_isPath (mem_lwg (tb_5 _ (List.mem_of_getElem? (i := 204) (by decide +kernel))) rfl)
theorem cl_X10_162 : CVk RX10 162 M_X10_becomes 3 := CVk.of mk_X10_becomes (mem_lwg (tb_5 _ (List.mem_of_getElem? (i := 200) (by decide +kernel))) rfl)
theorem cl_X10_169 : CVk RX10 169 M_X10_types 1 := CVk.of mk_X10_types (mem_lwg (tb_5 _ (List.mem_of_getElem? (i := 220) (by decide +kernel))) rfl)
theorem cl_X10_179 : CVk RX10 179 M_X10_here 0 := CVk.of mk_X10_here (mem_lwg (tb_5 _ (List.mem_of_getElem? (i := 236) (by decide +kernel))) rfl)
theorem cl_X10_185 : CVk RX10 185 M_X10_behindBlanks 0 := CVk.of mk_X10_behindBlanks (mem_lwg (tb_5 _ (List.mem_of_getElem? (i := 232) (by decide +kernel))) rfl)
theorem cl_X10_188 : CVk RX10 188 M_X10_readName 0 := CVk.of mk_X10_readName (mem_lwg (tb_6 _ (List.mem_of_getElem? (i := 4) (by decide +kernel))) rfl)
theorem cl_X10_191 : CVk RX10 191 M_X10_errs 2 := CVk.of mk_X10_errs (mem_lwg (tb_6 _ (List.mem_of_getElem? (i := 8) (by decide +kernel))) rfl)
theorem cl_X10_195 : CVk RX10 195 M_X10_isDigit 1 := CVk.of mk_X10_isDigit (mem_lwg (tb_6 _ (List.mem_of_getElem? (i := 12) (by decide +kernel))) rfl)
theorem cl_X10_198 : CVk RX10 198 M_X10_readLine 0 := CVk.of mk_X10_readLine (mem_lwg (tb_6 _ (List.mem_of_getElem? (i := 0) (by decide +kernel))) rfl)
theorem cl_X10_201 : CVk RX10 201 M_X10_rowLong 1 := CVk.of mk_X10_rowLong (mem_lwg (tb_6 _ (List.mem_of_getElem? (i := 152) (by decide +kernel))) rfl)
theorem cl_X10_204 : CVk RX10 204 M_X10_rowOf 2 := CVk.of mk_X10_rowOf (mem_lwg (tb_6 _ (List.mem_of_getElem? (i := 156) (by decide +kernel))) rfl)
theorem cl_X10_207 : CVk RX10 207 M_X10_stepOf 2 := CVk.of mk_X10_stepOf (mem_lwg (tb_6 _ (List.mem_of_getElem? (i := 160) (by decide +kernel))) rfl)
theorem cl_X10_210 : CVk RX10 210 M_X10_rest 1 := CVk.of mk_X10_rest (mem_lwg (tb_6 _ (List.mem_of_getElem? (i := 164) (by decide +kernel))) rfl)
theorem cl_X10_213 : CVk RX10 213 M_X10_chief 0 := CVk.of mk_X10_chief (mem_lwg (tb_6 _ (List.mem_of_getElem? (i := 32) (by decide +kernel))) rfl)
theorem cl_X10_216 : CVk RX10 216 M_X10_ownPhase 2 := CVk.of mk_X10_ownPhase (mem_lwg (tb_6 _ (List.mem_of_getElem? (i := 148) (by decide +kernel))) rfl)
theorem cl_X10_221 : CVk RX10 221 M_X10_dividesBy 2 := CVk.of mk_X10_dividesBy (mem_lwg (tb_5 _ (List.mem_of_getElem? (i := 23) (by decide +kernel))) rfl)
theorem cl_X10_227 : CVk RX10 227 M_X10_isNothing 0 := CVk.of mk_X10_isNothing (mem_lwg (tb_6 _ (List.mem_of_getElem? (i := 196) (by decide +kernel))) rfl)
theorem cl_X10_230 : CVk RX10 230 M_X10_isOneAlone 0 := CVk.of mk_X10_isOneAlone (mem_lwg (tb_6 _ (List.mem_of_getElem? (i := 200) (by decide +kernel))) rfl)
theorem cl_X10_233 : CVk RX10 233 M_X10_residueOf 2 := CVk.of mk_X10_residueOf (mem_lwg (tb_6 _ (List.mem_of_getElem? (i := 172) (by decide +kernel))) rfl)
theorem cl_X10_236 : CVk RX10 236 M_X10_laysPhases 0 := CVk.of mk_X10_laysPhases (mem_lwg (tb_6 _ (List.mem_of_getElem? (i := 144) (by decide +kernel))) rfl)
theorem cl_X10_239 : CVk RX10 239 M_X10_countsFirst 2 := CVk.of mk_X10_countsFirst (mem_lwg (tb_6 _ (List.mem_of_getElem? (i := 180) (by decide +kernel))) rfl)
theorem cl_X10_242 : CVk RX10 242 M_X10_stateNow 0 := CVk.of mk_X10_stateNow (mem_lwg (tb_6 _ (List.mem_of_getElem? (i := 192) (by decide +kernel))) rfl)
theorem cl_X10_245 : CVk RX10 245 M_X10_isGone 1 := CVk.of mk_X10_isGone (mem_lwg (tb_6 _ (List.mem_of_getElem? (i := 44) (by decide +kernel))) rfl)
theorem cl_X10_248 : CVk RX10 248 M_X10_isOther 1 := CVk.of mk_X10_isOther (mem_lwg (tb_6 _ (List.mem_of_getElem? (i := 40) (by decide +kernel))) rfl)
theorem cl_X10_251 : CVk RX10 251 M_X10_stateOf 1 := CVk.of mk_X10_stateOf (mem_lwg (tb_6 _ (List.mem_of_getElem? (i := 188) (by decide +kernel))) rfl)
theorem cl_X10_254 : CVk RX10 254 M_X10_isLeak 1 := CVk.of mk_X10_isLeak (mem_lwg (tb_6 _ (List.mem_of_getElem? (i := 212) (by decide +kernel))) rfl)
theorem cl_X10_257 : CVk RX10 257 M_X10_isLost 1 := CVk.of mk_X10_isLost (mem_lwg (tb_7 _ (List.mem_of_getElem? (i := 0) (by decide +kernel))) rfl)
theorem cl_X10_263 : CVk RX10 263 M_X10_matters 3 := CVk.of mk_X10_matters (mem_lwg (tb_6 _ (List.mem_of_getElem? (i := 68) (by decide +kernel))) rfl)
theorem cl_X10_267 : CVk RX10 267 M_X10_isLeftBySteps 1 := CVk.of mk_X10_isLeftBySteps (mem_lwg (tb_6 _ (List.mem_of_getElem? (i := 80) (by decide +kernel))) rfl)
theorem cl_X10_270 : CVk RX10 270 M_X10_isLeftByCogs 2 := CVk.of mk_X10_isLeftByCogs (mem_lwg (tb_6 _ (List.mem_of_getElem? (i := 104) (by decide +kernel))) rfl)
theorem cl_X10_273 : CVk RX10 273 M_X10_nextNumber 3 := CVk.of mk_X10_nextNumber (mem_lwg (tb_6 _ (List.mem_of_getElem? (i := 88) (by decide +kernel))) rfl)
theorem cl_X10_277 : CVk RX10 277 M_X10_laysMattering 0 := CVk.of mk_X10_laysMattering (mem_lwg (tb_6 _ (List.mem_of_getElem? (i := 28) (by decide +kernel))) rfl)
theorem cl_X10_280 : CVk RX10 280 M_X10_product 0 := CVk.of mk_X10_product (mem_lwg (tb_6 _ (List.mem_of_getElem? (i := 72) (by decide +kernel))) rfl)
theorem cl_X10_283 : CVk RX10 283 M_X10_doSteps 0 := CVk.of mk_X10_doSteps (mem_lwg (tb_6 _ (List.mem_of_getElem? (i := 76) (by decide +kernel))) rfl)
theorem cl_X10_286 : CVk RX10 286 M_X10_goesOn 2 := CVk.of mk_X10_goesOn (mem_lwg (tb_6 _ (List.mem_of_getElem? (i := 84) (by decide +kernel))) rfl)
theorem cl_X10_289 : CVk RX10 289 M_X10_doCogs 1 := CVk.of mk_X10_doCogs (mem_lwg (tb_6 _ (List.mem_of_getElem? (i := 100) (by decide +kernel))) rfl)
theorem cl_X10_292 : CVk RX10 292 M_X10_laysFewest 0 := CVk.of mk_X10_laysFewest (mem_lwg (tb_6 _ (List.mem_of_getElem? (i := 24) (by decide +kernel))) rfl)
theorem cl_X10_295 : CVk RX10 295 M_X10_laysCogs 0 := CVk.of mk_X10_laysCogs (mem_lwg (tb_6 _ (List.mem_of_getElem? (i := 96) (by decide +kernel))) rfl)
theorem cl_X10_298 : CVk RX10 298 M_X10_layFewest 0 := CVk.of mk_X10_layFewest (mem_lwg (tb_6 _ (List.mem_of_getElem? (i := 112) (by decide +kernel))) rfl)
theorem cl_X10_301 : CVk RX10 301 M_X10_layCogs 0 := CVk.of mk_X10_layCogs (mem_lwg (tb_6 _ (List.mem_of_getElem? (i := 116) (by decide +kernel))) rfl)
theorem cl_X10_304 : CVk RX10 304 M_X10_isStep 1 := CVk.of mk_X10_isStep (mem_lwg (tb_6 _ (List.mem_of_getElem? (i := 124) (by decide +kernel))) rfl)
theorem cl_X10_307 : CVk RX10 307 M_X10_isScan 1 := CVk.of mk_X10_isScan (mem_lwg (tb_6 _ (List.mem_of_getElem? (i := 140) (by decide +kernel))) rfl)
theorem cl_X10_310 : CVk RX10 310 M_X10_one 1 := CVk.of mk_X10_one (mem_lwg (tb_6 _ (List.mem_of_getElem? (i := 204) (by decide +kernel))) rfl)
theorem cl_X10_314 : CVk RX10 314 M_X10_isFree 1 := CVk.of mk_X10_isFree (mem_lwg (tb_6 _ (List.mem_of_getElem? (i := 208) (by decide +kernel))) rfl)
theorem cl_X10_317 : CVk RX10 317 M_X10_changesOf 1 := CVk.of mk_X10_changesOf (mem_lwg (tb_6 _ (List.mem_of_getElem? (i := 216) (by decide +kernel))) rfl)
theorem cl_X10_320 : CVk RX10 320 M_X10_greatestOrder 1 := CVk.of mk_X10_greatestOrder (mem_lwg (tb_6 _ (List.mem_of_getElem? (i := 220) (by decide +kernel))) rfl)
theorem cl_X10_323 : CVk RX10 323 M_X10_leaks 0 := CVk.of mk_X10_leaks (mem_lwg (tb_6 _ (List.mem_of_getElem? (i := 228) (by decide +kernel))) rfl)
theorem cl_X10_326 : CVk RX10 326 M_X10_losts 0 := CVk.of mk_X10_losts (mem_lwg (tb_6 _ (List.mem_of_getElem? (i := 236) (by decide +kernel))) rfl)
theorem cl_X10_329 : CVk RX10 329 M_X10_isStoppedBy 3 := CVk.of mk_X10_isStoppedBy (mem_lwg (tb_7 _ (List.mem_of_getElem? (i := 12) (by decide +kernel))) rfl)
theorem cl_X10_332 : CVk RX10 332 M_X10_isGood 0 := CVk.of mk_X10_isGood (mem_lwg (tb_7 _ (List.mem_of_getElem? (i := 20) (by decide +kernel))) rfl)
theorem cl_X10_335 : CVk RX10 335 M_X10_areAnyGone 0 := CVk.of mk_X10_areAnyGone (mem_lwg (tb_7 _ (List.mem_of_getElem? (i := 28) (by decide +kernel))) rfl)
theorem cl_X10_338 : CVk RX10 338 M_X10_isGoodSoFar 0 := CVk.of mk_X10_isGoodSoFar (mem_lwg (tb_7 _ (List.mem_of_getElem? (i := 32) (by decide +kernel))) rfl)
theorem cl_X10_341 : CVk RX10 341 M_X10_below 1 := CVk.of mk_X10_below (mem_lwg (tb_7 _ (List.mem_of_getElem? (i := 52) (by decide +kernel))) rfl)
theorem cl_X10_344 : CVk RX10 344 M_X10_above 1 := CVk.of mk_X10_above (mem_lwg (tb_7 _ (List.mem_of_getElem? (i := 56) (by decide +kernel))) rfl)
theorem cl_X10_347 : CSk RX10 347 M_Jxf58ca_floatToIntBits_5c35a 1 := CSk.of mk_Jxf58ca_floatToIntBits_5c35a (mem_lwg (tb_7 _ (List.mem_of_getElem? (i := 60) (by decide +kernel))) rfl)
theorem cl_X10_353 : CSk RX10 353 M_Jxe99ae_doubleToLongBits_ccdee 1 := CSk.of mk_Jxe99ae_doubleToLongBits_ccdee (mem_lwg (tb_7 _ (List.mem_of_getElem? (i := 74) (by decide +kernel))) rfl)
theorem cl_X10_362 : CVk RX10 362 M_X10_manyOf 1 := CVk.of mk_X10_manyOf (mem_lwg (tb_7 _ (List.mem_of_getElem? (i := 92) (by decide +kernel))) rfl)
theorem cl_X10_365 : CVk RX10 365 M_X10_weightsOf 1 := CVk.of mk_X10_weightsOf (mem_lwg (tb_7 _ (List.mem_of_getElem? (i := 96) (by decide +kernel))) rfl)
theorem cl_X10_368 : CVk RX10 368 M_X10_lookAtRows 1 := CVk.of mk_X10_lookAtRows (mem_lwg (tb_7 _ (List.mem_of_getElem? (i := 100) (by decide +kernel))) rfl)
theorem cl_Jxe99ae_122 : CSk RJxe99ae 122 M_Jxe99ae_isNaN_b9ae7 1 := CSk.of mk_Jxe99ae_isNaN_b9ae7 (mem_lwg (tb_7 _ (List.mem_of_getElem? (i := 77) (by decide +kernel))) rfl)
theorem nl_Jxe99ae_134 : Cond.methodLink RJxe99ae 134 ⟨"java/lang/Double", "doubleToRawLongBits", "(D)J"⟩ ∈ lwg := mem_lwg (tb_7 _ (List.mem_of_getElem? (i := 80) (by decide +kernel))) rfl
theorem cl_Jxf58ca_59 : CSk RJxf58ca 59 M_Jxf58ca_isNaN_12338 1 := CSk.of mk_Jxf58ca_isNaN_12338 (mem_lwg (tb_7 _ (List.mem_of_getElem? (i := 63) (by decide +kernel))) rfl)
theorem nl_Jxf58ca_74 : Cond.methodLink RJxf58ca 74 ⟨"java/lang/Float", "floatToRawIntBits", "(F)I"⟩ ∈ lwg := mem_lwg (tb_7 _ (List.mem_of_getElem? (i := 66) (by decide +kernel))) rfl
theorem cl_J7_13 : CSk RJ7 13 M_J7_rangeCheck_23922 3 := CSk.of mk_J7_rangeCheck_23922 (mem_lwg (tb_4 _ (List.mem_of_getElem? (i := 128) (by decide +kernel))) rfl)
theorem cl_X9_35 : CNk RX9 35 M_X7_init 0 := CNk.of mk_X7_init (35, "PathCycle$Tape") (by decide) rfl rfl rfl
theorem cl_X9_42 : CNk RX9 42 M_X3_init 0 := CNk.of mk_X3_init (42, "PathCycle$Paths") (by decide) rfl rfl rfl
theorem cl_X9_53 : CNk RX9 53 M_X5_init 0 := CNk.of mk_X5_init (53, "PathCycle$Scans") (by decide) rfl rfl rfl
theorem cl_X9_60 : CNk RX9 60 M_X6_init 0 := CNk.of mk_X6_init (60, "PathCycle$Sum") (by decide) rfl rfl rfl
theorem cl_X9_78 : CNk RX9 78 M_X8_init 0 := CNk.of mk_X8_init (78, "PathCycle$Wants") (by decide) rfl rfl rfl
theorem cl_X9_85 : CNk RX9 85 M_X2_init 0 := CNk.of mk_X2_init (85, "PathCycle$Fewest") (by decide) rfl rfl rfl
theorem cl_X9_92 : CNk RX9 92 M_X0_init 0 := CNk.of mk_X0_init (92, "PathCycle$Cogs") (by decide) rfl rfl rfl
theorem nw_X9_9 : NWk RX9 9 4 := ⟨RX4, TX4, 6, ck_X4, mem_lwg (tb_1 _ (List.mem_of_getElem? (i := 26) (by decide +kernel))) rfl, mem_lwg (tb_1 _ (List.mem_of_getElem? (i := 27) (by decide +kernel))) rfl, mem_lwg (tb_1 _ (List.mem_of_getElem? (i := 2) (by decide +kernel))) rfl, by decide⟩
theorem nw_X9_16 : NWk RX9 16 1 := ⟨RX1, TX1, 6, ck_X1, mem_lwg (tb_1 _ (List.mem_of_getElem? (i := 69) (by decide +kernel))) rfl, mem_lwg (tb_1 _ (List.mem_of_getElem? (i := 70) (by decide +kernel))) rfl, mem_lwg (tb_1 _ (List.mem_of_getElem? (i := 4) (by decide +kernel))) rfl, by decide⟩
theorem nw_X9_33 : NWk RX9 33 7 := ⟨RX7, TX7, 7, ck_X7, mem_lwg (tb_1 _ (List.mem_of_getElem? (i := 105) (by decide +kernel))) rfl, mem_lwg (tb_1 _ (List.mem_of_getElem? (i := 106) (by decide +kernel))) rfl, mem_lwg (tb_1 _ (List.mem_of_getElem? (i := 5) (by decide +kernel))) rfl, by decide⟩
theorem nw_X9_40 : NWk RX9 40 3 := ⟨RX3, TX3, 6, ck_X3, mem_lwg (tb_1 _ (List.mem_of_getElem? (i := 138) (by decide +kernel))) rfl, mem_lwg (tb_1 _ (List.mem_of_getElem? (i := 139) (by decide +kernel))) rfl, mem_lwg (tb_1 _ (List.mem_of_getElem? (i := 6) (by decide +kernel))) rfl, by decide⟩
theorem nw_X9_51 : NWk RX9 51 5 := ⟨RX5, TX5, 8, ck_X5, mem_lwg (tb_1 _ (List.mem_of_getElem? (i := 171) (by decide +kernel))) rfl, mem_lwg (tb_1 _ (List.mem_of_getElem? (i := 172) (by decide +kernel))) rfl, mem_lwg (tb_1 _ (List.mem_of_getElem? (i := 7) (by decide +kernel))) rfl, by decide⟩
theorem nw_X9_58 : NWk RX9 58 6 := ⟨RX6, TX6, 8, ck_X6, mem_lwg (tb_1 _ (List.mem_of_getElem? (i := 207) (by decide +kernel))) rfl, mem_lwg (tb_1 _ (List.mem_of_getElem? (i := 208) (by decide +kernel))) rfl, mem_lwg (tb_1 _ (List.mem_of_getElem? (i := 8) (by decide +kernel))) rfl, by decide⟩
theorem nw_X9_76 : NWk RX9 76 8 := ⟨RX8, TX8, 9, ck_X8, mem_lwg (tb_1 _ (List.mem_of_getElem? (i := 238) (by decide +kernel))) rfl, mem_lwg (tb_1 _ (List.mem_of_getElem? (i := 239) (by decide +kernel))) rfl, mem_lwg (tb_1 _ (List.mem_of_getElem? (i := 9) (by decide +kernel))) rfl, by decide⟩
theorem nw_X9_83 : NWk RX9 83 2 := ⟨RX2, TX2, 5, ck_X2, mem_lwg (tb_2 _ (List.mem_of_getElem? (i := 40) (by decide +kernel))) rfl, mem_lwg (tb_2 _ (List.mem_of_getElem? (i := 41) (by decide +kernel))) rfl, mem_lwg (tb_1 _ (List.mem_of_getElem? (i := 10) (by decide +kernel))) rfl, by decide⟩
theorem nw_X9_90 : NWk RX9 90 0 := ⟨RX0, TX0, 5, ck_X0, mem_lwg (tb_2 _ (List.mem_of_getElem? (i := 65) (by decide +kernel))) rfl, mem_lwg (tb_2 _ (List.mem_of_getElem? (i := 66) (by decide +kernel))) rfl, mem_lwg (tb_1 _ (List.mem_of_getElem? (i := 11) (by decide +kernel))) rfl, by decide⟩
theorem nw_X5_28 : Cond.classLink RX5 28 ("[" ++ (FieldType.array .int).toString) ∈ lwg := mem_lwg (tb_1 _ (List.mem_of_getElem? (i := 177) (by decide +kernel))) rfl
theorem nw_L_7 : NWk RL 7 9 := ⟨RX9, TX9, 16, ck_X9, mem_lwg (tb_1 _ (List.mem_of_getElem? (i := 18) (by decide +kernel))) rfl, mem_lwg (tb_1 _ (List.mem_of_getElem? (i := 19) (by decide +kernel))) rfl, mem_lwg (tb_1 _ (List.mem_of_getElem? (i := 1) (by decide +kernel))) rfl, by decide⟩
theorem nw_L_10 : NWk RL 10 10 := ⟨RX10, TX10, 30, ck_X10, mem_lwg (tb_4 _ (List.mem_of_getElem? (i := 228) (by decide +kernel))) rfl, mem_lwg (tb_4 _ (List.mem_of_getElem? (i := 229) (by decide +kernel))) rfl, mem_lwg (tb_1 _ (List.mem_of_getElem? (i := 13) (by decide +kernel))) rfl, by decide⟩
theorem co_X9_299 : Cond.constant RX9 299 (Int32.ofInt (2147483647)) ∈ lwg := mem_lwg (tb_4 _ (List.mem_of_getElem? (i := 81) (by decide +kernel))) rfl
theorem co_X9_350 : Cond.constantLong RX9 350 (Int64.ofInt (-1)) ∈ lwg := mem_lwg (tb_4 _ (List.mem_of_getElem? (i := 159) (by decide +kernel))) rfl
theorem co_X9_358 : Cond.constantLong RX9 358 (Int64.ofInt (2)) ∈ lwg := mem_lwg (tb_4 _ (List.mem_of_getElem? (i := 164) (by decide +kernel))) rfl
theorem co_X9_381 : Cond.constantFloat RX9 381 1258291200 ∈ lwg := mem_lwg (tb_4 _ (List.mem_of_getElem? (i := 188) (by decide +kernel))) rfl
theorem co_X9_382 : Cond.constantLong RX9 382 (Int64.ofInt (1023)) ∈ lwg := mem_lwg (tb_4 _ (List.mem_of_getElem? (i := 196) (by decide +kernel))) rfl
theorem co_X9_384 : Cond.constantDouble RX9 384 4611686018427387904 ∈ lwg := mem_lwg (tb_4 _ (List.mem_of_getElem? (i := 197) (by decide +kernel))) rfl
theorem co_X9_386 : Cond.constantDouble RX9 386 4841369599423283200 ∈ lwg := mem_lwg (tb_4 _ (List.mem_of_getElem? (i := 198) (by decide +kernel))) rfl
theorem co_X2_31 : Cond.constant RX2 31 (Int32.ofInt (2147483647)) ∈ lwg := mem_lwg (tb_3 _ (List.mem_of_getElem? (i := 151) (by decide +kernel))) rfl
theorem co_X10_219 : Cond.constantLong RX10 219 (Int64.ofInt (-1)) ∈ lwg := mem_lwg (tb_5 _ (List.mem_of_getElem? (i := 22) (by decide +kernel))) rfl
theorem co_Jxe99ae_137 : Cond.constantLong RJxe99ae 137 (Int64.ofInt (9221120237041090560)) ∈ lwg := mem_lwg (tb_7 _ (List.mem_of_getElem? (i := 83) (by decide +kernel))) rfl
theorem co_Jxf58ca_77 : Cond.constant RJxf58ca 77 (Int32.ofInt (2143289344)) ∈ lwg := mem_lwg (tb_7 _ (List.mem_of_getElem? (i := 69) (by decide +kernel))) rfl
theorem ar_int : Cond.arrayClass .int ∈ lwg := mem_lwg (tb_1 _ (List.mem_of_getElem? (i := 67) (by decide +kernel))) rfl
theorem ar_byte : Cond.arrayClass .byte ∈ lwg := mem_lwg (tb_1 _ (List.mem_of_getElem? (i := 68) (by decide +kernel))) rfl
theorem ar_short : Cond.arrayClass .short ∈ lwg := mem_lwg (tb_1 _ (List.mem_of_getElem? (i := 170) (by decide +kernel))) rfl
theorem ar_boolean : Cond.arrayClass .boolean ∈ lwg := mem_lwg (tb_5 _ (List.mem_of_getElem? (i := 119) (by decide +kernel))) rfl
theorem ar_long : Cond.arrayClass .long ∈ lwg := mem_lwg (tb_5 _ (List.mem_of_getElem? (i := 118) (by decide +kernel))) rfl
theorem ar_over : Cond.arrayOver (.array .int) ∈ lw_tbl := tb_1 _ (List.mem_of_getElem? (i := 178) (by decide +kernel))
theorem ac_nat : Cond.native arraycopyName ∈ lwg := mem_lwg (tb_3 _ (List.mem_of_getElem? (i := 93) (by decide +kernel))) rfl
theorem ac_sta : Cond.static arraycopyName ∈ lwg := mem_lwg (tb_3 _ (List.mem_of_getElem? (i := 92) (by decide +kernel))) rfl
theorem ac_ini : Cond.initialized "java/lang/System" ∈ lwg := mem_lwg (tb_1 _ (List.mem_of_getElem? (i := 14) (by decide +kernel))) rfl
theorem ob_ins : Cond.instanceMethod objectInit ∈ lwg := mem_lwg (tb_1 _ (List.mem_of_getElem? (i := 24) (by decide +kernel))) rfl
theorem ob_cod : Cond.code objectInit ⟨#[0xb1]⟩ 1 none ∈ lwg := mem_lwg (tb_1 _ (List.mem_of_getElem? (i := 25) (by decide +kernel))) rfl
theorem f2r_native : Cond.native ⟨"java/lang/Float", "floatToRawIntBits", "(F)I"⟩ ∈ lwg := mem_lwg (tb_7 _ (List.mem_of_getElem? (i := 68) (by decide +kernel))) rfl
theorem f2r_static : Cond.static ⟨"java/lang/Float", "floatToRawIntBits", "(F)I"⟩ ∈ lwg := mem_lwg (tb_7 _ (List.mem_of_getElem? (i := 67) (by decide +kernel))) rfl
theorem f2r_ini : Cond.initialized "java/lang/Float" ∈ lwg := mem_lwg (tb_1 _ (List.mem_of_getElem? (i := 16) (by decide +kernel))) rfl
theorem d2r_native : Cond.native ⟨"java/lang/Double", "doubleToRawLongBits", "(D)J"⟩ ∈ lwg := mem_lwg (tb_7 _ (List.mem_of_getElem? (i := 82) (by decide +kernel))) rfl
theorem d2r_static : Cond.static ⟨"java/lang/Double", "doubleToRawLongBits", "(D)J"⟩ ∈ lwg := mem_lwg (tb_7 _ (List.mem_of_getElem? (i := 81) (by decide +kernel))) rfl
theorem d2r_ini : Cond.initialized "java/lang/Double" ∈ lwg := mem_lwg (tb_1 _ (List.mem_of_getElem? (i := 17) (by decide +kernel))) rfl
end
