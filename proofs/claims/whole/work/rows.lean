section
-- ===== PART A: goes FIRST, ahead of the names: the tables' words, and 'selects' of the private methods out of them =====
/-- a private method of a class that the tables say can be made, by its rows of tables_1 -/
def lw_okq (q : MethodName × Nat) : Prop := (q.1.cls ≠ "java/lang/invoke/MethodHandle" ∧ q.1.cls ≠ "java/lang/invoke/VarHandle") ∧ Cond.instantiable q.1.cls q.2 ∈ tables_1 ∧ Cond.privateMethod q.1 ∈ tables_1 ∧ Cond.instanceMethod q.1 ∈ tables_1
theorem lw_p0 : lw_okq (⟨"TramWires$History", "dropOldest", "()V"⟩, 2) := ⟨⟨by decide +kernel, by decide +kernel⟩, List.mem_of_getElem? (i := 197) (by decide +kernel), List.mem_of_getElem? (i := 316) (by decide +kernel), List.mem_of_getElem? (i := 317) (by decide +kernel)⟩
theorem lw_p1 : lw_okq (⟨"TramWires$Net", "feed", "()V"⟩, 8) := ⟨⟨by decide +kernel, by decide +kernel⟩, List.mem_of_getElem? (i := 28) (by decide +kernel), List.mem_of_getElem? (i := 349) (by decide +kernel), List.mem_of_getElem? (i := 350) (by decide +kernel)⟩
theorem lw_p2 : lw_okq (⟨"TramWires$Net", "shareLowest", "()V"⟩, 8) := ⟨⟨by decide +kernel, by decide +kernel⟩, List.mem_of_getElem? (i := 28) (by decide +kernel), List.mem_of_getElem? (i := 378) (by decide +kernel), List.mem_of_getElem? (i := 379) (by decide +kernel)⟩
theorem lw_p3 : lw_okq (⟨"TramWires$Log", "setBy", "(I[I[Z)V"⟩, 9) := ⟨⟨by decide +kernel, by decide +kernel⟩, List.mem_of_getElem? (i := 133) (by decide +kernel), List.mem_of_getElem? (i := 410) (by decide +kernel), List.mem_of_getElem? (i := 411) (by decide +kernel)⟩
theorem lw_p4 : lw_okq (⟨"TramWires$Wires", "goOutward", "()V"⟩, 5) := ⟨⟨by decide +kernel, by decide +kernel⟩, List.mem_of_getElem? (i := 22) (by decide +kernel), List.mem_of_getElem? (i := 414) (by decide +kernel), List.mem_of_getElem? (i := 415) (by decide +kernel)⟩
theorem lw_p5 : lw_okq (⟨"TramWires$Wires", "supposeIsolator", "(IZ)V"⟩, 5) := ⟨⟨by decide +kernel, by decide +kernel⟩, List.mem_of_getElem? (i := 22) (by decide +kernel), List.mem_of_getElem? (i := 447) (by decide +kernel), List.mem_of_getElem? (i := 448) (by decide +kernel)⟩
theorem lw_p6 : lw_okq (⟨"TramWires$Wires", "wouldDarken", "(I)Z"⟩, 5) := ⟨⟨by decide +kernel, by decide +kernel⟩, List.mem_of_getElem? (i := 22) (by decide +kernel), List.mem_of_getElem? (i := 451) (by decide +kernel), List.mem_of_getElem? (i := 452) (by decide +kernel)⟩
theorem lw_p7 : lw_okq (⟨"TramWires$Wires", "wouldLight", "(I)Z"⟩, 5) := ⟨⟨by decide +kernel, by decide +kernel⟩, List.mem_of_getElem? (i := 22) (by decide +kernel), List.mem_of_getElem? (i := 459) (by decide +kernel), List.mem_of_getElem? (i := 460) (by decide +kernel)⟩
theorem lw_p8 : lw_okq (⟨"TramWires$Wires", "againstBridging", "(I)I"⟩, 5) := ⟨⟨by decide +kernel, by decide +kernel⟩, List.mem_of_getElem? (i := 22) (by decide +kernel), List.mem_of_getElem? (i := 504) (by decide +kernel), List.mem_of_getElem? (i := 505) (by decide +kernel)⟩
theorem lw_p9 : lw_okq (⟨"TramWires$Wires", "againstTrams", "(I)I"⟩, 5) := ⟨⟨by decide +kernel, by decide +kernel⟩, List.mem_of_getElem? (i := 22) (by decide +kernel), List.mem_of_getElem? (i := 509) (by decide +kernel), List.mem_of_getElem? (i := 510) (by decide +kernel)⟩
theorem lw_p10 : lw_okq (⟨"TramWires$Wires", "againstOpening", "(I)I"⟩, 5) := ⟨⟨by decide +kernel, by decide +kernel⟩, List.mem_of_getElem? (i := 22) (by decide +kernel), List.mem_of_getElem? (i := 513) (by decide +kernel), List.mem_of_getElem? (i := 514) (by decide +kernel)⟩
theorem lw_p11 : lw_okq (⟨"TramWires$Wires", "wouldDarkenTrams", "()Z"⟩, 5) := ⟨⟨by decide +kernel, by decide +kernel⟩, List.mem_of_getElem? (i := 22) (by decide +kernel), List.mem_of_getElem? (i := 517) (by decide +kernel), List.mem_of_getElem? (i := 518) (by decide +kernel)⟩
theorem lw_p12 : lw_okq (⟨"TramWires$Wires", "againstClosing", "(I)I"⟩, 5) := ⟨⟨by decide +kernel, by decide +kernel⟩, List.mem_of_getElem? (i := 22) (by decide +kernel), List.mem_of_getElem? (i := 521) (by decide +kernel), List.mem_of_getElem? (i := 522) (by decide +kernel)⟩
theorem lw_p13 : lw_okq (⟨"TramWires$Wires", "wouldLightEarth", "()Z"⟩, 5) := ⟨⟨by decide +kernel, by decide +kernel⟩, List.mem_of_getElem? (i := 22) (by decide +kernel), List.mem_of_getElem? (i := 525) (by decide +kernel), List.mem_of_getElem? (i := 526) (by decide +kernel)⟩
theorem lw_p14 : lw_okq (⟨"TramWires$Wires", "wouldLightTools", "()Z"⟩, 5) := ⟨⟨by decide +kernel, by decide +kernel⟩, List.mem_of_getElem? (i := 22) (by decide +kernel), List.mem_of_getElem? (i := 529) (by decide +kernel), List.mem_of_getElem? (i := 530) (by decide +kernel)⟩
theorem lw_p15 : lw_okq (⟨"TramWires$Wires", "againstTurningOff", "(I)I"⟩, 5) := ⟨⟨by decide +kernel, by decide +kernel⟩, List.mem_of_getElem? (i := 22) (by decide +kernel), List.mem_of_getElem? (i := 533) (by decide +kernel), List.mem_of_getElem? (i := 534) (by decide +kernel)⟩
def lw_privs_1 : List (MethodName × Nat) := [(⟨"TramWires$History", "dropOldest", "()V"⟩, 2), (⟨"TramWires$Net", "feed", "()V"⟩, 8), (⟨"TramWires$Net", "shareLowest", "()V"⟩, 8), (⟨"TramWires$Log", "setBy", "(I[I[Z)V"⟩, 9), (⟨"TramWires$Wires", "goOutward", "()V"⟩, 5), (⟨"TramWires$Wires", "supposeIsolator", "(IZ)V"⟩, 5), (⟨"TramWires$Wires", "wouldDarken", "(I)Z"⟩, 5), (⟨"TramWires$Wires", "wouldLight", "(I)Z"⟩, 5), (⟨"TramWires$Wires", "againstBridging", "(I)I"⟩, 5), (⟨"TramWires$Wires", "againstTrams", "(I)I"⟩, 5), (⟨"TramWires$Wires", "againstOpening", "(I)I"⟩, 5), (⟨"TramWires$Wires", "wouldDarkenTrams", "()Z"⟩, 5), (⟨"TramWires$Wires", "againstClosing", "(I)I"⟩, 5), (⟨"TramWires$Wires", "wouldLightEarth", "()Z"⟩, 5), (⟨"TramWires$Wires", "wouldLightTools", "()Z"⟩, 5), (⟨"TramWires$Wires", "againstTurningOff", "(I)I"⟩, 5)]
theorem lw_r1 : ∀ q ∈ lw_privs_1, lw_okq q := List.forall_mem_cons.mpr ⟨lw_p0, List.forall_mem_cons.mpr ⟨lw_p1, List.forall_mem_cons.mpr ⟨lw_p2, List.forall_mem_cons.mpr ⟨lw_p3, List.forall_mem_cons.mpr ⟨lw_p4, List.forall_mem_cons.mpr ⟨lw_p5, List.forall_mem_cons.mpr ⟨lw_p6, List.forall_mem_cons.mpr ⟨lw_p7, List.forall_mem_cons.mpr ⟨lw_p8, List.forall_mem_cons.mpr ⟨lw_p9, List.forall_mem_cons.mpr ⟨lw_p10, List.forall_mem_cons.mpr ⟨lw_p11, List.forall_mem_cons.mpr ⟨lw_p12, List.forall_mem_cons.mpr ⟨lw_p13, List.forall_mem_cons.mpr ⟨lw_p14, List.forall_mem_cons.mpr ⟨lw_p15, fun _ h => absurd h List.not_mem_nil⟩⟩⟩⟩⟩⟩⟩⟩⟩⟩⟩⟩⟩⟩⟩⟩
theorem lw_p16 : lw_okq (⟨"TramWires$Wires", "supposeFeeder", "(II)V"⟩, 5) := ⟨⟨by decide +kernel, by decide +kernel⟩, List.mem_of_getElem? (i := 22) (by decide +kernel), List.mem_of_getElem? (i := 537) (by decide +kernel), List.mem_of_getElem? (i := 538) (by decide +kernel)⟩
theorem lw_p17 : lw_okq (⟨"TramWires$Wires", "againstTurningOn", "(I)I"⟩, 5) := ⟨⟨by decide +kernel, by decide +kernel⟩, List.mem_of_getElem? (i := 22) (by decide +kernel), List.mem_of_getElem? (i := 541) (by decide +kernel), List.mem_of_getElem? (i := 542) (by decide +kernel)⟩
theorem lw_p18 : lw_okq (⟨"TramWires$Wires", "againstEarthing", "(I)I"⟩, 5) := ⟨⟨by decide +kernel, by decide +kernel⟩, List.mem_of_getElem? (i := 22) (by decide +kernel), List.mem_of_getElem? (i := 545) (by decide +kernel), List.mem_of_getElem? (i := 546) (by decide +kernel)⟩
theorem lw_p19 : lw_okq (⟨"TramWires$Wires", "againstTakingEarth", "(I)I"⟩, 5) := ⟨⟨by decide +kernel, by decide +kernel⟩, List.mem_of_getElem? (i := 22) (by decide +kernel), List.mem_of_getElem? (i := 549) (by decide +kernel), List.mem_of_getElem? (i := 550) (by decide +kernel)⟩
theorem lw_p20 : lw_okq (⟨"TramWires$Log", "dropOldest", "()V"⟩, 9) := ⟨⟨by decide +kernel, by decide +kernel⟩, List.mem_of_getElem? (i := 133) (by decide +kernel), List.mem_of_getElem? (i := 565) (by decide +kernel), List.mem_of_getElem? (i := 566) (by decide +kernel)⟩
theorem lw_p21 : lw_okq (⟨"TramWires$Plan", "add", "(II)V"⟩, 3) := ⟨⟨by decide +kernel, by decide +kernel⟩, List.mem_of_getElem? (i := 242) (by decide +kernel), List.mem_of_getElem? (i := 581) (by decide +kernel), List.mem_of_getElem? (i := 582) (by decide +kernel)⟩
theorem lw_p22 : lw_okq (⟨"TramWires$Rehearsal", "begin", "(LTramWires$Wires;)V"⟩, 4) := ⟨⟨by decide +kernel, by decide +kernel⟩, List.mem_of_getElem? (i := 264) (by decide +kernel), List.mem_of_getElem? (i := 594) (by decide +kernel), List.mem_of_getElem? (i := 595) (by decide +kernel)⟩
theorem lw_p23 : lw_okq (⟨"TramWires$Text", "characterAt", "(I)I"⟩, 5) := ⟨⟨by decide +kernel, by decide +kernel⟩, List.mem_of_getElem? (i := 214) (by decide +kernel), List.mem_of_getElem? (i := 649) (by decide +kernel), List.mem_of_getElem? (i := 650) (by decide +kernel)⟩
theorem lw_p24 : lw_okq (⟨"TramWires$Text", "digitAt", "(I)I"⟩, 5) := ⟨⟨by decide +kernel, by decide +kernel⟩, List.mem_of_getElem? (i := 214) (by decide +kernel), List.mem_of_getElem? (i := 657) (by decide +kernel), List.mem_of_getElem? (i := 658) (by decide +kernel)⟩
theorem lw_p25 : lw_okq (⟨"TramWiresModel", "records", "()V"⟩, 13) := ⟨⟨by decide +kernel, by decide +kernel⟩, List.mem_of_getElem? (i := 667) (by decide +kernel), List.mem_of_getElem? (i := 724) (by decide +kernel), List.mem_of_getElem? (i := 725) (by decide +kernel)⟩
theorem lw_p26 : lw_okq (⟨"TramWiresModel", "put", "(III)V"⟩, 13) := ⟨⟨by decide +kernel, by decide +kernel⟩, List.mem_of_getElem? (i := 667) (by decide +kernel), List.mem_of_getElem? (i := 728) (by decide +kernel), List.mem_of_getElem? (i := 729) (by decide +kernel)⟩
theorem lw_p27 : lw_okq (⟨"TramWiresModel", "isSection", "(I)Z"⟩, 13) := ⟨⟨by decide +kernel, by decide +kernel⟩, List.mem_of_getElem? (i := 667) (by decide +kernel), List.mem_of_getElem? (i := 736) (by decide +kernel), List.mem_of_getElem? (i := 737) (by decide +kernel)⟩
theorem lw_p28 : lw_okq (⟨"TramWiresModel", "mayJoin", "(II)Z"⟩, 13) := ⟨⟨by decide +kernel, by decide +kernel⟩, List.mem_of_getElem? (i := 667) (by decide +kernel), List.mem_of_getElem? (i := 740) (by decide +kernel), List.mem_of_getElem? (i := 741) (by decide +kernel)⟩
theorem lw_p29 : lw_okq (⟨"TramWiresModel", "liveNow", "()I"⟩, 13) := ⟨⟨by decide +kernel, by decide +kernel⟩, List.mem_of_getElem? (i := 667) (by decide +kernel), List.mem_of_getElem? (i := 744) (by decide +kernel), List.mem_of_getElem? (i := 745) (by decide +kernel)⟩
theorem lw_p30 : lw_okq (⟨"TramWiresModel", "onOnes", "()I"⟩, 13) := ⟨⟨by decide +kernel, by decide +kernel⟩, List.mem_of_getElem? (i := 667) (by decide +kernel), List.mem_of_getElem? (i := 748) (by decide +kernel), List.mem_of_getElem? (i := 749) (by decide +kernel)⟩
theorem lw_p31 : lw_okq (⟨"TramWiresModel", "of", "(II)I"⟩, 13) := ⟨⟨by decide +kernel, by decide +kernel⟩, List.mem_of_getElem? (i := 667) (by decide +kernel), List.mem_of_getElem? (i := 752) (by decide +kernel), List.mem_of_getElem? (i := 753) (by decide +kernel)⟩
def lw_privs_2 : List (MethodName × Nat) := [(⟨"TramWires$Wires", "supposeFeeder", "(II)V"⟩, 5), (⟨"TramWires$Wires", "againstTurningOn", "(I)I"⟩, 5), (⟨"TramWires$Wires", "againstEarthing", "(I)I"⟩, 5), (⟨"TramWires$Wires", "againstTakingEarth", "(I)I"⟩, 5), (⟨"TramWires$Log", "dropOldest", "()V"⟩, 9), (⟨"TramWires$Plan", "add", "(II)V"⟩, 3), (⟨"TramWires$Rehearsal", "begin", "(LTramWires$Wires;)V"⟩, 4), (⟨"TramWires$Text", "characterAt", "(I)I"⟩, 5), (⟨"TramWires$Text", "digitAt", "(I)I"⟩, 5), (⟨"TramWiresModel", "records", "()V"⟩, 13), (⟨"TramWiresModel", "put", "(III)V"⟩, 13), (⟨"TramWiresModel", "isSection", "(I)Z"⟩, 13), (⟨"TramWiresModel", "mayJoin", "(II)Z"⟩, 13), (⟨"TramWiresModel", "liveNow", "()I"⟩, 13), (⟨"TramWiresModel", "onOnes", "()I"⟩, 13), (⟨"TramWiresModel", "of", "(II)I"⟩, 13)]
theorem lw_r2 : ∀ q ∈ lw_privs_2, lw_okq q := List.forall_mem_cons.mpr ⟨lw_p16, List.forall_mem_cons.mpr ⟨lw_p17, List.forall_mem_cons.mpr ⟨lw_p18, List.forall_mem_cons.mpr ⟨lw_p19, List.forall_mem_cons.mpr ⟨lw_p20, List.forall_mem_cons.mpr ⟨lw_p21, List.forall_mem_cons.mpr ⟨lw_p22, List.forall_mem_cons.mpr ⟨lw_p23, List.forall_mem_cons.mpr ⟨lw_p24, List.forall_mem_cons.mpr ⟨lw_p25, List.forall_mem_cons.mpr ⟨lw_p26, List.forall_mem_cons.mpr ⟨lw_p27, List.forall_mem_cons.mpr ⟨lw_p28, List.forall_mem_cons.mpr ⟨lw_p29, List.forall_mem_cons.mpr ⟨lw_p30, List.forall_mem_cons.mpr ⟨lw_p31, fun _ h => absurd h List.not_mem_nil⟩⟩⟩⟩⟩⟩⟩⟩⟩⟩⟩⟩⟩⟩⟩⟩
theorem lw_p32 : lw_okq (⟨"TramWiresModel", "closedOnes", "()I"⟩, 13) := ⟨⟨by decide +kernel, by decide +kernel⟩, List.mem_of_getElem? (i := 667) (by decide +kernel), List.mem_of_getElem? (i := 756) (by decide +kernel), List.mem_of_getElem? (i := 757) (by decide +kernel)⟩
theorem lw_p33 : lw_okq (⟨"TramWiresModel", "at", "(II)I"⟩, 13) := ⟨⟨by decide +kernel, by decide +kernel⟩, List.mem_of_getElem? (i := 667) (by decide +kernel), List.mem_of_getElem? (i := 760) (by decide +kernel), List.mem_of_getElem? (i := 761) (by decide +kernel)⟩
theorem lw_p34 : lw_okq (⟨"TramWiresModel", "live", "(II)I"⟩, 13) := ⟨⟨by decide +kernel, by decide +kernel⟩, List.mem_of_getElem? (i := 667) (by decide +kernel), List.mem_of_getElem? (i := 764) (by decide +kernel), List.mem_of_getElem? (i := 765) (by decide +kernel)⟩
theorem lw_p35 : lw_okq (⟨"TramWiresModel", "hanging", "(II)I"⟩, 13) := ⟨⟨by decide +kernel, by decide +kernel⟩, List.mem_of_getElem? (i := 667) (by decide +kernel), List.mem_of_getElem? (i := 768) (by decide +kernel), List.mem_of_getElem? (i := 769) (by decide +kernel)⟩
theorem lw_p36 : lw_okq (⟨"TramWiresModel", "against", "(II)I"⟩, 13) := ⟨⟨by decide +kernel, by decide +kernel⟩, List.mem_of_getElem? (i := 667) (by decide +kernel), List.mem_of_getElem? (i := 772) (by decide +kernel), List.mem_of_getElem? (i := 773) (by decide +kernel)⟩
theorem lw_p37 : lw_okq (⟨"TramWiresModel", "with", "(I)I"⟩, 13) := ⟨⟨by decide +kernel, by decide +kernel⟩, List.mem_of_getElem? (i := 667) (by decide +kernel), List.mem_of_getElem? (i := 776) (by decide +kernel), List.mem_of_getElem? (i := 777) (by decide +kernel)⟩
theorem lw_p38 : lw_okq (⟨"TramWiresModel", "newIsolator", "(II)V"⟩, 13) := ⟨⟨by decide +kernel, by decide +kernel⟩, List.mem_of_getElem? (i := 667) (by decide +kernel), List.mem_of_getElem? (i := 780) (by decide +kernel), List.mem_of_getElem? (i := 781) (by decide +kernel)⟩
theorem lw_p39 : lw_okq (⟨"TramWiresModel", "lay", "(III)V"⟩, 13) := ⟨⟨by decide +kernel, by decide +kernel⟩, List.mem_of_getElem? (i := 667) (by decide +kernel), List.mem_of_getElem? (i := 784) (by decide +kernel), List.mem_of_getElem? (i := 785) (by decide +kernel)⟩
theorem lw_p40 : lw_okq (⟨"TramWiresModel", "busesOut", "()I"⟩, 13) := ⟨⟨by decide +kernel, by decide +kernel⟩, List.mem_of_getElem? (i := 667) (by decide +kernel), List.mem_of_getElem? (i := 792) (by decide +kernel), List.mem_of_getElem? (i := 793) (by decide +kernel)⟩
theorem lw_p41 : lw_okq (⟨"TramWiresModel", "free", "()I"⟩, 13) := ⟨⟨by decide +kernel, by decide +kernel⟩, List.mem_of_getElem? (i := 667) (by decide +kernel), List.mem_of_getElem? (i := 796) (by decide +kernel), List.mem_of_getElem? (i := 797) (by decide +kernel)⟩
theorem lw_p42 : lw_okq (⟨"TramWiresModel", "isLive", "(I)Z"⟩, 13) := ⟨⟨by decide +kernel, by decide +kernel⟩, List.mem_of_getElem? (i := 667) (by decide +kernel), List.mem_of_getElem? (i := 804) (by decide +kernel), List.mem_of_getElem? (i := 805) (by decide +kernel)⟩
theorem lw_p43 : lw_okq (⟨"TramWiresModel", "liveAgain", "()I"⟩, 13) := ⟨⟨by decide +kernel, by decide +kernel⟩, List.mem_of_getElem? (i := 667) (by decide +kernel), List.mem_of_getElem? (i := 808) (by decide +kernel), List.mem_of_getElem? (i := 809) (by decide +kernel)⟩
theorem lw_p44 : lw_okq (⟨"TramWiresModel", "onAgain", "(I)I"⟩, 13) := ⟨⟨by decide +kernel, by decide +kernel⟩, List.mem_of_getElem? (i := 667) (by decide +kernel), List.mem_of_getElem? (i := 812) (by decide +kernel), List.mem_of_getElem? (i := 813) (by decide +kernel)⟩
theorem lw_p45 : lw_okq (⟨"TramWiresModel", "toldBy", "(III)I"⟩, 13) := ⟨⟨by decide +kernel, by decide +kernel⟩, List.mem_of_getElem? (i := 667) (by decide +kernel), List.mem_of_getElem? (i := 816) (by decide +kernel), List.mem_of_getElem? (i := 817) (by decide +kernel)⟩
theorem lw_p46 : lw_okq (⟨"TramWiresModel", "logged", "(II)I"⟩, 13) := ⟨⟨by decide +kernel, by decide +kernel⟩, List.mem_of_getElem? (i := 667) (by decide +kernel), List.mem_of_getElem? (i := 820) (by decide +kernel), List.mem_of_getElem? (i := 821) (by decide +kernel)⟩
theorem lw_p47 : lw_okq (⟨"TramWiresModel", "closedAgain", "(I)I"⟩, 13) := ⟨⟨by decide +kernel, by decide +kernel⟩, List.mem_of_getElem? (i := 667) (by decide +kernel), List.mem_of_getElem? (i := 824) (by decide +kernel), List.mem_of_getElem? (i := 825) (by decide +kernel)⟩
def lw_privs_3 : List (MethodName × Nat) := [(⟨"TramWiresModel", "closedOnes", "()I"⟩, 13), (⟨"TramWiresModel", "at", "(II)I"⟩, 13), (⟨"TramWiresModel", "live", "(II)I"⟩, 13), (⟨"TramWiresModel", "hanging", "(II)I"⟩, 13), (⟨"TramWiresModel", "against", "(II)I"⟩, 13), (⟨"TramWiresModel", "with", "(I)I"⟩, 13), (⟨"TramWiresModel", "newIsolator", "(II)V"⟩, 13), (⟨"TramWiresModel", "lay", "(III)V"⟩, 13), (⟨"TramWiresModel", "busesOut", "()I"⟩, 13), (⟨"TramWiresModel", "free", "()I"⟩, 13), (⟨"TramWiresModel", "isLive", "(I)Z"⟩, 13), (⟨"TramWiresModel", "liveAgain", "()I"⟩, 13), (⟨"TramWiresModel", "onAgain", "(I)I"⟩, 13), (⟨"TramWiresModel", "toldBy", "(III)I"⟩, 13), (⟨"TramWiresModel", "logged", "(II)I"⟩, 13), (⟨"TramWiresModel", "closedAgain", "(I)I"⟩, 13)]
theorem lw_r3 : ∀ q ∈ lw_privs_3, lw_okq q := List.forall_mem_cons.mpr ⟨lw_p32, List.forall_mem_cons.mpr ⟨lw_p33, List.forall_mem_cons.mpr ⟨lw_p34, List.forall_mem_cons.mpr ⟨lw_p35, List.forall_mem_cons.mpr ⟨lw_p36, List.forall_mem_cons.mpr ⟨lw_p37, List.forall_mem_cons.mpr ⟨lw_p38, List.forall_mem_cons.mpr ⟨lw_p39, List.forall_mem_cons.mpr ⟨lw_p40, List.forall_mem_cons.mpr ⟨lw_p41, List.forall_mem_cons.mpr ⟨lw_p42, List.forall_mem_cons.mpr ⟨lw_p43, List.forall_mem_cons.mpr ⟨lw_p44, List.forall_mem_cons.mpr ⟨lw_p45, List.forall_mem_cons.mpr ⟨lw_p46, List.forall_mem_cons.mpr ⟨lw_p47, fun _ h => absurd h List.not_mem_nil⟩⟩⟩⟩⟩⟩⟩⟩⟩⟩⟩⟩⟩⟩⟩⟩
theorem lw_p48 : lw_okq (⟨"TramWiresModel", "closedAt", "(I)I"⟩, 13) := ⟨⟨by decide +kernel, by decide +kernel⟩, List.mem_of_getElem? (i := 667) (by decide +kernel), List.mem_of_getElem? (i := 831) (by decide +kernel), List.mem_of_getElem? (i := 832) (by decide +kernel)⟩
theorem lw_p49 : lw_okq (⟨"TramWiresModel", "isIsolator", "(I)Z"⟩, 13) := ⟨⟨by decide +kernel, by decide +kernel⟩, List.mem_of_getElem? (i := 667) (by decide +kernel), List.mem_of_getElem? (i := 839) (by decide +kernel), List.mem_of_getElem? (i := 840) (by decide +kernel)⟩
theorem lw_p50 : lw_okq (⟨"TramWiresModel", "liveWith", "(IZ)I"⟩, 13) := ⟨⟨by decide +kernel, by decide +kernel⟩, List.mem_of_getElem? (i := 667) (by decide +kernel), List.mem_of_getElem? (i := 843) (by decide +kernel), List.mem_of_getElem? (i := 844) (by decide +kernel)⟩
theorem lw_p51 : lw_okq (⟨"TramWiresModel", "toolsLeft", "()I"⟩, 13) := ⟨⟨by decide +kernel, by decide +kernel⟩, List.mem_of_getElem? (i := 667) (by decide +kernel), List.mem_of_getElem? (i := 851) (by decide +kernel), List.mem_of_getElem? (i := 852) (by decide +kernel)⟩
theorem lw_p52 : lw_okq (⟨"TramWiresModel", "lateOnes", "()I"⟩, 13) := ⟨⟨by decide +kernel, by decide +kernel⟩, List.mem_of_getElem? (i := 667) (by decide +kernel), List.mem_of_getElem? (i := 855) (by decide +kernel), List.mem_of_getElem? (i := 856) (by decide +kernel)⟩
theorem lw_p53 : lw_okq (⟨"TramWiresModel", "groups", "()I"⟩, 13) := ⟨⟨by decide +kernel, by decide +kernel⟩, List.mem_of_getElem? (i := 667) (by decide +kernel), List.mem_of_getElem? (i := 859) (by decide +kernel), List.mem_of_getElem? (i := 860) (by decide +kernel)⟩
theorem lw_p54 : lw_okq (⟨"TramWiresModel", "isPlace", "(II)Z"⟩, 13) := ⟨⟨by decide +kernel, by decide +kernel⟩, List.mem_of_getElem? (i := 667) (by decide +kernel), List.mem_of_getElem? (i := 867) (by decide +kernel), List.mem_of_getElem? (i := 868) (by decide +kernel)⟩
theorem lw_p55 : lw_okq (⟨"TramWiresModel", "refuses", "(II)I"⟩, 13) := ⟨⟨by decide +kernel, by decide +kernel⟩, List.mem_of_getElem? (i := 667) (by decide +kernel), List.mem_of_getElem? (i := 871) (by decide +kernel), List.mem_of_getElem? (i := 872) (by decide +kernel)⟩
theorem lw_p56 : lw_okq (⟨"TramWiresModel", "darkens", "(II)I"⟩, 13) := ⟨⟨by decide +kernel, by decide +kernel⟩, List.mem_of_getElem? (i := 667) (by decide +kernel), List.mem_of_getElem? (i := 875) (by decide +kernel), List.mem_of_getElem? (i := 876) (by decide +kernel)⟩
theorem lw_p57 : lw_okq (⟨"TramWiresModel", "trams", "()I"⟩, 13) := ⟨⟨by decide +kernel, by decide +kernel⟩, List.mem_of_getElem? (i := 667) (by decide +kernel), List.mem_of_getElem? (i := 879) (by decide +kernel), List.mem_of_getElem? (i := 880) (by decide +kernel)⟩
theorem lw_p58 : lw_okq (⟨"TramWiresModel", "lights", "(II)I"⟩, 13) := ⟨⟨by decide +kernel, by decide +kernel⟩, List.mem_of_getElem? (i := 667) (by decide +kernel), List.mem_of_getElem? (i := 883) (by decide +kernel), List.mem_of_getElem? (i := 884) (by decide +kernel)⟩
theorem lw_p59 : lw_okq (⟨"TramWiresModel", "makes", "(II)V"⟩, 13) := ⟨⟨by decide +kernel, by decide +kernel⟩, List.mem_of_getElem? (i := 667) (by decide +kernel), List.mem_of_getElem? (i := 891) (by decide +kernel), List.mem_of_getElem? (i := 892) (by decide +kernel)⟩
theorem lw_p60 : lw_okq (⟨"TramWiresModel", "forgets", "()V"⟩, 13) := ⟨⟨by decide +kernel, by decide +kernel⟩, List.mem_of_getElem? (i := 667) (by decide +kernel), List.mem_of_getElem? (i := 895) (by decide +kernel), List.mem_of_getElem? (i := 896) (by decide +kernel)⟩
theorem lw_p61 : lw_okq (⟨"TramWiresModel", "laysPlan", "(I)V"⟩, 13) := ⟨⟨by decide +kernel, by decide +kernel⟩, List.mem_of_getElem? (i := 667) (by decide +kernel), List.mem_of_getElem? (i := 907) (by decide +kernel), List.mem_of_getElem? (i := 908) (by decide +kernel)⟩
theorem lw_p62 : lw_okq (⟨"TramWiresModel", "plans", "(II)V"⟩, 13) := ⟨⟨by decide +kernel, by decide +kernel⟩, List.mem_of_getElem? (i := 667) (by decide +kernel), List.mem_of_getElem? (i := 911) (by decide +kernel), List.mem_of_getElem? (i := 912) (by decide +kernel)⟩
theorem lw_p63 : lw_okq (⟨"TramWiresModel", "laysAside", "()V"⟩, 13) := ⟨⟨by decide +kernel, by decide +kernel⟩, List.mem_of_getElem? (i := 667) (by decide +kernel), List.mem_of_getElem? (i := 919) (by decide +kernel), List.mem_of_getElem? (i := 920) (by decide +kernel)⟩
def lw_privs_4 : List (MethodName × Nat) := [(⟨"TramWiresModel", "closedAt", "(I)I"⟩, 13), (⟨"TramWiresModel", "isIsolator", "(I)Z"⟩, 13), (⟨"TramWiresModel", "liveWith", "(IZ)I"⟩, 13), (⟨"TramWiresModel", "toolsLeft", "()I"⟩, 13), (⟨"TramWiresModel", "lateOnes", "()I"⟩, 13), (⟨"TramWiresModel", "groups", "()I"⟩, 13), (⟨"TramWiresModel", "isPlace", "(II)Z"⟩, 13), (⟨"TramWiresModel", "refuses", "(II)I"⟩, 13), (⟨"TramWiresModel", "darkens", "(II)I"⟩, 13), (⟨"TramWiresModel", "trams", "()I"⟩, 13), (⟨"TramWiresModel", "lights", "(II)I"⟩, 13), (⟨"TramWiresModel", "makes", "(II)V"⟩, 13), (⟨"TramWiresModel", "forgets", "()V"⟩, 13), (⟨"TramWiresModel", "laysPlan", "(I)V"⟩, 13), (⟨"TramWiresModel", "plans", "(II)V"⟩, 13), (⟨"TramWiresModel", "laysAside", "()V"⟩, 13)]
theorem lw_r4 : ∀ q ∈ lw_privs_4, lw_okq q := List.forall_mem_cons.mpr ⟨lw_p48, List.forall_mem_cons.mpr ⟨lw_p49, List.forall_mem_cons.mpr ⟨lw_p50, List.forall_mem_cons.mpr ⟨lw_p51, List.forall_mem_cons.mpr ⟨lw_p52, List.forall_mem_cons.mpr ⟨lw_p53, List.forall_mem_cons.mpr ⟨lw_p54, List.forall_mem_cons.mpr ⟨lw_p55, List.forall_mem_cons.mpr ⟨lw_p56, List.forall_mem_cons.mpr ⟨lw_p57, List.forall_mem_cons.mpr ⟨lw_p58, List.forall_mem_cons.mpr ⟨lw_p59, List.forall_mem_cons.mpr ⟨lw_p60, List.forall_mem_cons.mpr ⟨lw_p61, List.forall_mem_cons.mpr ⟨lw_p62, List.forall_mem_cons.mpr ⟨lw_p63, fun _ h => absurd h List.not_mem_nil⟩⟩⟩⟩⟩⟩⟩⟩⟩⟩⟩⟩⟩⟩⟩⟩
theorem lw_p64 : lw_okq (⟨"TramWiresModel", "bringsBack", "()V"⟩, 13) := ⟨⟨by decide +kernel, by decide +kernel⟩, List.mem_of_getElem? (i := 667) (by decide +kernel), List.mem_of_getElem? (i := 923) (by decide +kernel), List.mem_of_getElem? (i := 924) (by decide +kernel)⟩
theorem lw_p65 : lw_okq (⟨"TramWiresModel", "reasonOfText", "()I"⟩, 13) := ⟨⟨by decide +kernel, by decide +kernel⟩, List.mem_of_getElem? (i := 667) (by decide +kernel), List.mem_of_getElem? (i := 956) (by decide +kernel), List.mem_of_getElem? (i := 957) (by decide +kernel)⟩
theorem lw_p66 : lw_okq (⟨"TramWiresModel", "isFormed", "()Z"⟩, 13) := ⟨⟨by decide +kernel, by decide +kernel⟩, List.mem_of_getElem? (i := 667) (by decide +kernel), List.mem_of_getElem? (i := 960) (by decide +kernel), List.mem_of_getElem? (i := 961) (by decide +kernel)⟩
def lw_privs_5 : List (MethodName × Nat) := [(⟨"TramWiresModel", "bringsBack", "()V"⟩, 13), (⟨"TramWiresModel", "reasonOfText", "()I"⟩, 13), (⟨"TramWiresModel", "isFormed", "()Z"⟩, 13)]
theorem lw_r5 : ∀ q ∈ lw_privs_5, lw_okq q := List.forall_mem_cons.mpr ⟨lw_p64, List.forall_mem_cons.mpr ⟨lw_p65, List.forall_mem_cons.mpr ⟨lw_p66, fun _ h => absurd h List.not_mem_nil⟩⟩⟩
def lw_privs : List (MethodName × Nat) := lw_privs_1 ++ (lw_privs_2 ++ (lw_privs_3 ++ (lw_privs_4 ++ (lw_privs_5))))
def lw_tbl : List Cond := k2_sels lw_privs ++ tables_1
theorem lw_privs_ok : ∀ q ∈ lw_privs, lw_okq q := by
  show ∀ q ∈ lw_privs_1 ++ (lw_privs_2 ++ (lw_privs_3 ++ (lw_privs_4 ++ (lw_privs_5)))), lw_okq q
  exact List.forall_mem_append.mpr ⟨lw_r1, List.forall_mem_append.mpr ⟨lw_r2, List.forall_mem_append.mpr ⟨lw_r3, List.forall_mem_append.mpr ⟨lw_r4, lw_r5⟩⟩⟩⟩
/-- all words: of the tables, and the private methods that select themselves -/
def TB : List Cond := lw_tbl.filter goodWord
theorem tb_m {w : Cond} (h : w ∈ lw_tbl) (hg : goodWord w = true) : w ∈ TB := List.mem_filter.mpr ⟨h, hg⟩
theorem tb_g {w : Cond} (h : w ∈ TB) : goodWord w = true := (List.mem_filter.mp h).2
end
section
def RX0 : String := "TramWires$History"
def TX0 : u_T := fun k => match k with
  | 0 => ("TramWires$History", "size", "I", false)
  | _ => ("TramWires$History", "states", "[LTramWires$Wires;", true)
def tyX0 : Nat → FieldType := fun k => match k with
  | 0 => .int
  | _ => .array (.object "TramWires$Wires")
abbrev wsX00 : List Cond := u_ws RX0 TX0 2
theorem nmX0 : ∀ a, a < 2 → ∀ b, b < 2 → a ≠ b → (TX0 a).2.1 ≠ (TX0 b).2.1 := by decide +kernel
theorem tyX0_ok : ∀ k, k < 2 → parseFieldDescriptor (TX0 k).2.2.1 = some (tyX0 k) := by decide +kernel
abbrev cX0_init : ByteArray := prog_2_method_1_code
def yX0_init : MethodName := ⟨RX0, "<init>", "()V"⟩
abbrev cX0_keep : ByteArray := prog_2_method_2_code
def yX0_keep : MethodName := ⟨RX0, "keep", "(LTramWires$Wires;)V"⟩
abbrev cX0_dropOldest : ByteArray := prog_2_method_3_code
def yX0_dropOldest : MethodName := ⟨RX0, "dropOldest", "()V"⟩
abbrev cX0_restore : ByteArray := prog_2_method_4_code
def yX0_restore : MethodName := ⟨RX0, "restore", "(LTramWires$Wires;)V"⟩
def RX1 : String := "TramWires$Log"
def TX1 : u_T := fun k => match k with
  | 0 => ("TramWires$Log", "made", "I", false)
  | 1 => ("TramWires$Log", "length", "I", false)
  | 2 => ("TramWires$Log", "kinds", "[I", true)
  | 3 => ("TramWires$Log", "places", "[I", true)
  | 4 => ("TramWires$Log", "times", "[I", true)
  | 5 => ("TramWires$Log", "feederAhead", "[I", true)
  | 6 => ("TramWires$Log", "closedAhead", "[Z", true)
  | 7 => ("TramWires$Log", "feederTold", "[I", true)
  | _ => ("TramWires$Log", "closedTold", "[Z", true)
def tyX1 : Nat → FieldType := fun k => match k with
  | 0 => .int
  | 1 => .int
  | 2 => .array .int
  | 3 => .array .int
  | 4 => .array .int
  | 5 => .array .int
  | 6 => .array .boolean
  | 7 => .array .int
  | _ => .array .boolean
abbrev wsX10 : List Cond := u_ws RX1 TX1 9
theorem nmX1 : ∀ a, a < 9 → ∀ b, b < 9 → a ≠ b → (TX1 a).2.1 ≠ (TX1 b).2.1 := by decide +kernel
theorem tyX1_ok : ∀ k, k < 9 → parseFieldDescriptor (TX1 k).2.2.1 = some (tyX1 k) := by decide +kernel
abbrev cX1_init : ByteArray := prog_3_method_1_code
def yX1_init : MethodName := ⟨RX1, "<init>", "()V"⟩
abbrev cX1_copyFrom : ByteArray := prog_3_method_2_code
def yX1_copyFrom : MethodName := ⟨RX1, "copyFrom", "(LTramWires$Log;)V"⟩
abbrev cX1_write : ByteArray := prog_3_method_3_code
def yX1_write : MethodName := ⟨RX1, "write", "(III)V"⟩
abbrev cX1_dropOldest : ByteArray := prog_3_method_4_code
def yX1_dropOldest : MethodName := ⟨RX1, "dropOldest", "()V"⟩
abbrev cX1_tell : ByteArray := prog_3_method_5_code
def yX1_tell : MethodName := ⟨RX1, "tell", "()V"⟩
abbrev cX1_setBy : ByteArray := prog_3_method_6_code
def yX1_setBy : MethodName := ⟨RX1, "setBy", "(I[I[Z)V"⟩
def RX2 : String := "TramWires$Net"
def TX2 : u_T := fun k => match k with
  | 0 => ("TramWires$Net", "sections", "I", false)
  | 1 => ("TramWires$Net", "isolators", "I", false)
  | 2 => ("TramWires$Net", "feeder", "[I", true)
  | 3 => ("TramWires$Net", "one", "[I", true)
  | 4 => ("TramWires$Net", "other", "[I", true)
  | 5 => ("TramWires$Net", "closed", "[Z", true)
  | 6 => ("TramWires$Net", "lowest", "[I", true)
  | _ => ("TramWires$Net", "live", "[Z", true)
def tyX2 : Nat → FieldType := fun k => match k with
  | 0 => .int
  | 1 => .int
  | 2 => .array .int
  | 3 => .array .int
  | 4 => .array .int
  | 5 => .array .boolean
  | 6 => .array .int
  | _ => .array .boolean
abbrev wsX20 : List Cond := u_ws RX2 TX2 8
theorem nmX2 : ∀ a, a < 8 → ∀ b, b < 8 → a ≠ b → (TX2 a).2.1 ≠ (TX2 b).2.1 := by decide +kernel
theorem tyX2_ok : ∀ k, k < 8 → parseFieldDescriptor (TX2 k).2.2.1 = some (tyX2 k) := by decide +kernel
abbrev cX2_init : ByteArray := prog_4_method_1_code
def yX2_init : MethodName := ⟨RX2, "<init>", "()V"⟩
abbrev cX2_copyFrom : ByteArray := prog_4_method_2_code
def yX2_copyFrom : MethodName := ⟨RX2, "copyFrom", "(LTramWires$Net;)V"⟩
abbrev cX2_setFeeder : ByteArray := prog_4_method_3_code
def yX2_setFeeder : MethodName := ⟨RX2, "setFeeder", "(II)V"⟩
abbrev cX2_setIsolator : ByteArray := prog_4_method_4_code
def yX2_setIsolator : MethodName := ⟨RX2, "setIsolator", "(IZ)V"⟩
abbrev cX2_shareLowest : ByteArray := prog_4_method_5_code
def yX2_shareLowest : MethodName := ⟨RX2, "shareLowest", "()V"⟩
abbrev cX2_feed : ByteArray := prog_4_method_6_code
def yX2_feed : MethodName := ⟨RX2, "feed", "()V"⟩
abbrev cX2_areTogether : ByteArray := prog_4_method_7_code
def yX2_areTogether : MethodName := ⟨RX2, "areTogether", "(II)Z"⟩
abbrev cX2_groupSize : ByteArray := prog_4_method_8_code
def yX2_groupSize : MethodName := ⟨RX2, "groupSize", "(I)I"⟩
abbrev cX2_groups : ByteArray := prog_4_method_9_code
def yX2_groups : MethodName := ⟨RX2, "groups", "()I"⟩
abbrev cX2_isClosedAt : ByteArray := prog_4_method_10_code
def yX2_isClosedAt : MethodName := ⟨RX2, "isClosedAt", "(II)Z"⟩
abbrev cX2_closedAt : ByteArray := prog_4_method_11_code
def yX2_closedAt : MethodName := ⟨RX2, "closedAt", "(I)I"⟩
def RX3 : String := "TramWires$Plan"
def TX3 : u_T := fun k => match k with
  | 0 => ("TramWires$Plan", "size", "I", false)
  | 1 => ("TramWires$Plan", "kinds", "[I", true)
  | _ => ("TramWires$Plan", "places", "[I", true)
def tyX3 : Nat → FieldType := fun k => match k with
  | 0 => .int
  | 1 => .array .int
  | _ => .array .int
abbrev wsX30 : List Cond := u_ws RX3 TX3 3
theorem nmX3 : ∀ a, a < 3 → ∀ b, b < 3 → a ≠ b → (TX3 a).2.1 ≠ (TX3 b).2.1 := by decide +kernel
theorem tyX3_ok : ∀ k, k < 3 → parseFieldDescriptor (TX3 k).2.2.1 = some (tyX3 k) := by decide +kernel
abbrev cX3_init : ByteArray := prog_5_method_1_code
def yX3_init : MethodName := ⟨RX3, "<init>", "()V"⟩
abbrev cX3_drawUp : ByteArray := prog_5_method_2_code
def yX3_drawUp : MethodName := ⟨RX3, "drawUp", "(LTramWires$Wires;I)V"⟩
abbrev cX3_add : ByteArray := prog_5_method_3_code
def yX3_add : MethodName := ⟨RX3, "add", "(II)V"⟩
def RX4 : String := "TramWires$Rehearsal"
def TX4 : u_T := fun k => match k with
  | 0 => ("TramWires$Rehearsal", "wires", "LTramWires$Wires;", true)
  | 1 => ("TramWires$Rehearsal", "steps", "I", false)
  | 2 => ("TramWires$Rehearsal", "position", "I", false)
  | _ => ("TramWires$Rehearsal", "reason", "I", false)
def tyX4 : Nat → FieldType := fun k => match k with
  | 0 => .object "TramWires$Wires"
  | 1 => .int
  | 2 => .int
  | _ => .int
abbrev wsX40 : List Cond := u_ws RX4 TX4 4
theorem nmX4 : ∀ a, a < 4 → ∀ b, b < 4 → a ≠ b → (TX4 a).2.1 ≠ (TX4 b).2.1 := by decide +kernel
theorem tyX4_ok : ∀ k, k < 4 → parseFieldDescriptor (TX4 k).2.2.1 = some (tyX4 k) := by decide +kernel
abbrev cX4_init : ByteArray := prog_6_method_1_code
def yX4_init : MethodName := ⟨RX4, "<init>", "()V"⟩
abbrev cX4_tryPlan : ByteArray := prog_6_method_2_code
def yX4_tryPlan : MethodName := ⟨RX4, "tryPlan", "(LTramWires$Wires;LTramWires$Plan;)V"⟩
abbrev cX4_tryText : ByteArray := prog_6_method_3_code
def yX4_tryText : MethodName := ⟨RX4, "tryText", "(LTramWires$Wires;LTramWires$Text;)V"⟩
abbrev cX4_begin : ByteArray := prog_6_method_4_code
def yX4_begin : MethodName := ⟨RX4, "begin", "(LTramWires$Wires;)V"⟩
def RX5 : String := "TramWires$Service"
def TX5 : u_T := fun k => match k with
  | 0 => ("TramWires$Service", "time", "I", false)
  | 1 => ("TramWires$Service", "buses", "I", false)
  | 2 => ("TramWires$Service", "lateMinutes", "I", false)
  | 3 => ("TramWires$Service", "needed", "[I", true)
  | 4 => ("TramWires$Service", "bridged", "[Z", true)
  | 5 => ("TramWires$Service", "earthed", "[Z", true)
  | 6 => ("TramWires$Service", "gang", "[Z", true)
  | 7 => ("TramWires$Service", "brought", "[I", true)
  | 8 => ("TramWires$Service", "until", "[I", true)
  | _ => ("TramWires$Service", "tools", "[I", true)
def tyX5 : Nat → FieldType := fun k => match k with
  | 0 => .int
  | 1 => .int
  | 2 => .int
  | 3 => .array .int
  | 4 => .array .boolean
  | 5 => .array .boolean
  | 6 => .array .boolean
  | 7 => .array .int
  | 8 => .array .int
  | _ => .array .int
abbrev wsX50 : List Cond := u_ws RX5 TX5 10
theorem nmX5 : ∀ a, a < 10 → ∀ b, b < 10 → a ≠ b → (TX5 a).2.1 ≠ (TX5 b).2.1 := by decide +kernel
theorem tyX5_ok : ∀ k, k < 10 → parseFieldDescriptor (TX5 k).2.2.1 = some (tyX5 k) := by decide +kernel
abbrev cX5_init : ByteArray := prog_7_method_1_code
def yX5_init : MethodName := ⟨RX5, "<init>", "()V"⟩
abbrev cX5_copyFrom : ByteArray := prog_7_method_2_code
def yX5_copyFrom : MethodName := ⟨RX5, "copyFrom", "(LTramWires$Service;)V"⟩
abbrev cX5_bridgingBuses : ByteArray := prog_7_method_3_code
def yX5_bridgingBuses : MethodName := ⟨RX5, "bridgingBuses", "()I"⟩
abbrev cX5_freeBuses : ByteArray := prog_7_method_4_code
def yX5_freeBuses : MethodName := ⟨RX5, "freeBuses", "()I"⟩
abbrev cX5_allTools : ByteArray := prog_7_method_5_code
def yX5_allTools : MethodName := ⟨RX5, "allTools", "()I"⟩
abbrev cX5_lateGangs : ByteArray := prog_7_method_6_code
def yX5_lateGangs : MethodName := ⟨RX5, "lateGangs", "()I"⟩
abbrev cX5_bringGang : ByteArray := prog_7_method_7_code
def yX5_bringGang : MethodName := ⟨RX5, "bringGang", "(III)V"⟩
abbrev cX5_sendGangOff : ByteArray := prog_7_method_8_code
def yX5_sendGangOff : MethodName := ⟨RX5, "sendGangOff", "(II)I"⟩
def RX6 : String := "TramWires$Text"
def TX6 : u_T := fun k => match k with
  | 0 => ("TramWires$Text", "length", "I", false)
  | 1 => ("TramWires$Text", "characters", "[I", true)
  | 2 => ("TramWires$Text", "kind", "I", false)
  | 3 => ("TramWires$Text", "place", "I", false)
  | _ => ("TramWires$Text", "end", "I", false)
def tyX6 : Nat → FieldType := fun k => match k with
  | 0 => .int
  | 1 => .array .int
  | 2 => .int
  | 3 => .int
  | _ => .int
abbrev wsX60 : List Cond := u_ws RX6 TX6 5
theorem nmX6 : ∀ a, a < 5 → ∀ b, b < 5 → a ≠ b → (TX6 a).2.1 ≠ (TX6 b).2.1 := by decide +kernel
theorem tyX6_ok : ∀ k, k < 5 → parseFieldDescriptor (TX6 k).2.2.1 = some (tyX6 k) := by decide +kernel
abbrev cX6_init : ByteArray := prog_8_method_1_code
def yX6_init : MethodName := ⟨RX6, "<init>", "()V"⟩
abbrev cX6_readStep : ByteArray := prog_8_method_2_code
def yX6_readStep : MethodName := ⟨RX6, "readStep", "(I)Z"⟩
abbrev cX6_characterAt : ByteArray := prog_8_method_3_code
def yX6_characterAt : MethodName := ⟨RX6, "characterAt", "(I)I"⟩
abbrev cX6_digitAt : ByteArray := prog_8_method_4_code
def yX6_digitAt : MethodName := ⟨RX6, "digitAt", "(I)I"⟩
abbrev cX6_kindOf : ByteArray := prog_8_method_5_code
def yX6_kindOf : MethodName := ⟨RX6, "kindOf", "(I)I"⟩
def RX7 : String := "TramWires$Wires"
def TX7 : u_T := fun k => match k with
  | 0 => ("TramWires$Wires", "net", "LTramWires$Net;", true)
  | 1 => ("TramWires$Wires", "service", "LTramWires$Service;", true)
  | 2 => ("TramWires$Wires", "log", "LTramWires$Log;", true)
  | 3 => ("TramWires$Wires", "supposed", "LTramWires$Net;", true)
  | _ => ("TramWires$Wires", "reached", "[Z", true)
def tyX7 : Nat → FieldType := fun k => match k with
  | 0 => .object "TramWires$Net"
  | 1 => .object "TramWires$Service"
  | 2 => .object "TramWires$Log"
  | 3 => .object "TramWires$Net"
  | _ => .array .boolean
abbrev wsX70 : List Cond := u_ws RX7 TX7 5
theorem nmX7 : ∀ a, a < 5 → ∀ b, b < 5 → a ≠ b → (TX7 a).2.1 ≠ (TX7 b).2.1 := by decide +kernel
theorem tyX7_ok : ∀ k, k < 5 → parseFieldDescriptor (TX7 k).2.2.1 = some (tyX7 k) := by decide +kernel
abbrev cX7_init : ByteArray := prog_9_method_1_code
def yX7_init : MethodName := ⟨RX7, "<init>", "()V"⟩
abbrev cX7_copyFrom : ByteArray := prog_9_method_2_code
def yX7_copyFrom : MethodName := ⟨RX7, "copyFrom", "(LTramWires$Wires;)V"⟩
abbrev cX7_hasSection : ByteArray := prog_9_method_3_code
def yX7_hasSection : MethodName := ⟨RX7, "hasSection", "(I)Z"⟩
abbrev cX7_hasIsolator : ByteArray := prog_9_method_4_code
def yX7_hasIsolator : MethodName := ⟨RX7, "hasIsolator", "(I)Z"⟩
abbrev cX7_hasPlace : ByteArray := prog_9_method_5_code
def yX7_hasPlace : MethodName := ⟨RX7, "hasPlace", "(II)Z"⟩
abbrev cX7_addSection : ByteArray := prog_9_method_6_code
def yX7_addSection : MethodName := ⟨RX7, "addSection", "(II)I"⟩
abbrev cX7_addIsolator : ByteArray := prog_9_method_7_code
def yX7_addIsolator : MethodName := ⟨RX7, "addIsolator", "(II)I"⟩
abbrev cX7_joiningEndangers : ByteArray := prog_9_method_8_code
def yX7_joiningEndangers : MethodName := ⟨RX7, "joiningEndangers", "(II)Z"⟩
abbrev cX7_darkenedByOpening : ByteArray := prog_9_method_9_code
def yX7_darkenedByOpening : MethodName := ⟨RX7, "darkenedByOpening", "(I)I"⟩
abbrev cX7_litByClosing : ByteArray := prog_9_method_10_code
def yX7_litByClosing : MethodName := ⟨RX7, "litByClosing", "(I)I"⟩
abbrev cX7_isClosedByLog : ByteArray := prog_9_method_11_code
def yX7_isClosedByLog : MethodName := ⟨RX7, "isClosedByLog", "(I)Z"⟩
abbrev cX7_isLiveByLog : ByteArray := prog_9_method_12_code
def yX7_isLiveByLog : MethodName := ⟨RX7, "isLiveByLog", "(I)Z"⟩
abbrev cX7_goOutward : ByteArray := prog_9_method_13_code
def yX7_goOutward : MethodName := ⟨RX7, "goOutward", "()V"⟩
abbrev cX7_reasonAgainst : ByteArray := prog_9_method_14_code
def yX7_reasonAgainst : MethodName := ⟨RX7, "reasonAgainst", "(II)I"⟩
abbrev cX7_againstBridging : ByteArray := prog_9_method_15_code
def yX7_againstBridging : MethodName := ⟨RX7, "againstBridging", "(I)I"⟩
abbrev cX7_againstTrams : ByteArray := prog_9_method_16_code
def yX7_againstTrams : MethodName := ⟨RX7, "againstTrams", "(I)I"⟩
abbrev cX7_againstOpening : ByteArray := prog_9_method_17_code
def yX7_againstOpening : MethodName := ⟨RX7, "againstOpening", "(I)I"⟩
abbrev cX7_againstClosing : ByteArray := prog_9_method_18_code
def yX7_againstClosing : MethodName := ⟨RX7, "againstClosing", "(I)I"⟩
abbrev cX7_againstTurningOff : ByteArray := prog_9_method_19_code
def yX7_againstTurningOff : MethodName := ⟨RX7, "againstTurningOff", "(I)I"⟩
abbrev cX7_againstTurningOn : ByteArray := prog_9_method_20_code
def yX7_againstTurningOn : MethodName := ⟨RX7, "againstTurningOn", "(I)I"⟩
abbrev cX7_againstEarthing : ByteArray := prog_9_method_21_code
def yX7_againstEarthing : MethodName := ⟨RX7, "againstEarthing", "(I)I"⟩
abbrev cX7_againstTakingEarth : ByteArray := prog_9_method_22_code
def yX7_againstTakingEarth : MethodName := ⟨RX7, "againstTakingEarth", "(I)I"⟩
abbrev cX7_supposeIsolator : ByteArray := prog_9_method_23_code
def yX7_supposeIsolator : MethodName := ⟨RX7, "supposeIsolator", "(IZ)V"⟩
abbrev cX7_supposeFeeder : ByteArray := prog_9_method_24_code
def yX7_supposeFeeder : MethodName := ⟨RX7, "supposeFeeder", "(II)V"⟩
abbrev cX7_wouldDarken : ByteArray := prog_9_method_25_code
def yX7_wouldDarken : MethodName := ⟨RX7, "wouldDarken", "(I)Z"⟩
abbrev cX7_wouldLight : ByteArray := prog_9_method_26_code
def yX7_wouldLight : MethodName := ⟨RX7, "wouldLight", "(I)Z"⟩
abbrev cX7_wouldDarkenTrams : ByteArray := prog_9_method_27_code
def yX7_wouldDarkenTrams : MethodName := ⟨RX7, "wouldDarkenTrams", "()Z"⟩
abbrev cX7_wouldLightEarth : ByteArray := prog_9_method_28_code
def yX7_wouldLightEarth : MethodName := ⟨RX7, "wouldLightEarth", "()Z"⟩
abbrev cX7_wouldLightTools : ByteArray := prog_9_method_29_code
def yX7_wouldLightTools : MethodName := ⟨RX7, "wouldLightTools", "()Z"⟩
abbrev cX7_make : ByteArray := prog_9_method_30_code
def yX7_make : MethodName := ⟨RX7, "make", "(II)V"⟩
def RX8 : String := "TramWires"
def TX8 : u_T := fun k => match k with
  | 0 => ("TramWires", "now", "LTramWires$Wires;", true)
  | 1 => ("TramWires", "history", "LTramWires$History;", true)
  | 2 => ("TramWires", "text", "LTramWires$Text;", true)
  | 3 => ("TramWires", "outPlan", "LTramWires$Plan;", true)
  | _ => ("TramWires", "rehearsal", "LTramWires$Rehearsal;", true)
def tyX8 : Nat → FieldType := fun k => match k with
  | 0 => .object "TramWires$Wires"
  | 1 => .object "TramWires$History"
  | 2 => .object "TramWires$Text"
  | 3 => .object "TramWires$Plan"
  | _ => .object "TramWires$Rehearsal"
abbrev wsX80 : List Cond := u_ws RX8 TX8 5
theorem nmX8 : ∀ a, a < 5 → ∀ b, b < 5 → a ≠ b → (TX8 a).2.1 ≠ (TX8 b).2.1 := by decide +kernel
theorem tyX8_ok : ∀ k, k < 5 → parseFieldDescriptor (TX8 k).2.2.1 = some (tyX8 k) := by decide +kernel
abbrev cX8_init : ByteArray := prog_1_method_1_code
def yX8_init : MethodName := ⟨RX8, "<init>", "()V"⟩
abbrev cX8_section : ByteArray := prog_1_method_2_code
def yX8_section : MethodName := ⟨RX8, "section", "(II)I"⟩
abbrev cX8_isolator : ByteArray := prog_1_method_3_code
def yX8_isolator : MethodName := ⟨RX8, "isolator", "(II)I"⟩
abbrev cX8_pool : ByteArray := prog_1_method_4_code
def yX8_pool : MethodName := ⟨RX8, "pool", "(I)I"⟩
abbrev cX8_sectionOf : ByteArray := prog_1_method_5_code
def yX8_sectionOf : MethodName := ⟨RX8, "sectionOf", "(II)I"⟩
abbrev cX8_isolatorOf : ByteArray := prog_1_method_6_code
def yX8_isolatorOf : MethodName := ⟨RX8, "isolatorOf", "(II)I"⟩
abbrev cX8_count : ByteArray := prog_1_method_7_code
def yX8_count : MethodName := ⟨RX8, "count", "(I)I"⟩
abbrev cX8_undo : ByteArray := prog_1_method_8_code
def yX8_undo : MethodName := ⟨RX8, "undo", "()I"⟩
abbrev cX8_refusal : ByteArray := prog_1_method_9_code
def yX8_refusal : MethodName := ⟨RX8, "refusal", "(II)I"⟩
abbrev cX8_step : ByteArray := prog_1_method_10_code
def yX8_step : MethodName := ⟨RX8, "step", "(II)I"⟩
abbrev cX8_log : ByteArray := prog_1_method_11_code
def yX8_log : MethodName := ⟨RX8, "log", "(II)I"⟩
abbrev cX8_plan : ByteArray := prog_1_method_12_code
def yX8_plan : MethodName := ⟨RX8, "plan", "(II)I"⟩
abbrev cX8_canPlan : ByteArray := prog_1_method_13_code
def yX8_canPlan : MethodName := ⟨RX8, "canPlan", "(I)I"⟩
abbrev cX8_enter : ByteArray := prog_1_method_14_code
def yX8_enter : MethodName := ⟨RX8, "enter", "(III)I"⟩
abbrev cX8_leave : ByteArray := prog_1_method_15_code
def yX8_leave : MethodName := ⟨RX8, "leave", "(II)I"⟩
abbrev cX8_fetch : ByteArray := prog_1_method_16_code
def yX8_fetch : MethodName := ⟨RX8, "fetch", "(I)I"⟩
abbrev cX8_pass : ByteArray := prog_1_method_17_code
def yX8_pass : MethodName := ⟨RX8, "pass", "(I)I"⟩
abbrev cX8_type : ByteArray := prog_1_method_18_code
def yX8_type : MethodName := ⟨RX8, "type", "(I)I"⟩
abbrev cX8_clearText : ByteArray := prog_1_method_19_code
def yX8_clearText : MethodName := ⟨RX8, "clearText", "()I"⟩
abbrev cX8_fault : ByteArray := prog_1_method_20_code
def yX8_fault : MethodName := ⟨RX8, "fault", "(I)I"⟩
abbrev cX8_play : ByteArray := prog_1_method_21_code
def yX8_play : MethodName := ⟨RX8, "play", "()I"⟩
abbrev cX8_isOutside : ByteArray := prog_1_method_22_code
def yX8_isOutside : MethodName := ⟨RX8, "isOutside", "(III)Z"⟩
abbrev cX8_asNumber : ByteArray := prog_1_method_23_code
def yX8_asNumber : MethodName := ⟨RX8, "asNumber", "(Z)I"⟩
abbrev cX8_countTrue : ByteArray := prog_1_method_24_code
def yX8_countTrue : MethodName := ⟨RX8, "countTrue", "([Z)I"⟩
def RX9 : String := "TramWiresModel"
def TX9 : u_T := fun k => match k with
  | 0 => ("TramWiresModel", "st", "[I", true)
  | 1 => ("TramWiresModel", "past", "[I", true)
  | 2 => ("TramWiresModel", "aside", "[I", true)
  | 3 => ("TramWiresModel", "pasts", "I", false)
  | 4 => ("TramWiresModel", "text", "[I", true)
  | 5 => ("TramWiresModel", "length", "I", false)
  | 6 => ("TramWiresModel", "row", "[I", true)
  | 7 => ("TramWiresModel", "rows", "I", false)
  | 8 => ("TramWiresModel", "spot", "I", false)
  | 9 => ("TramWiresModel", "itsKind", "I", false)
  | 10 => ("TramWiresModel", "itsPlace", "I", false)
  | 11 => ("TramWiresModel", "from", "I", false)
  | _ => ("TramWiresModel", "many", "I", false)
def tyX9 : Nat → FieldType := fun k => match k with
  | 0 => .array .int
  | 1 => .array .int
  | 2 => .array .int
  | 3 => .int
  | 4 => .array .int
  | 5 => .int
  | 6 => .array .int
  | 7 => .int
  | 8 => .int
  | 9 => .int
  | 10 => .int
  | 11 => .int
  | _ => .int
abbrev wsX90 : List Cond := u_ws RX9 TX9 13
theorem nmX9 : ∀ a, a < 13 → ∀ b, b < 13 → a ≠ b → (TX9 a).2.1 ≠ (TX9 b).2.1 := by decide +kernel
theorem tyX9_ok : ∀ k, k < 13 → parseFieldDescriptor (TX9 k).2.2.1 = some (tyX9 k) := by decide +kernel
abbrev cX9_init : ByteArray := prog_11_method_1_code
def yX9_init : MethodName := ⟨RX9, "<init>", "()V"⟩
abbrev cX9_in : ByteArray := prog_11_method_3_code
def yX9_in : MethodName := ⟨RX9, "in", "(III)Z"⟩
abbrev cX9_of : ByteArray := prog_11_method_4_code
def yX9_of : MethodName := ⟨RX9, "of", "(II)I"⟩
abbrev cX9_put : ByteArray := prog_11_method_5_code
def yX9_put : MethodName := ⟨RX9, "put", "(III)V"⟩
abbrev cX9_at : ByteArray := prog_11_method_6_code
def yX9_at : MethodName := ⟨RX9, "at", "(II)I"⟩
abbrev cX9_lay : ByteArray := prog_11_method_7_code
def yX9_lay : MethodName := ⟨RX9, "lay", "(III)V"⟩
abbrev cX9_isSection : ByteArray := prog_11_method_8_code
def yX9_isSection : MethodName := ⟨RX9, "isSection", "(I)Z"⟩
abbrev cX9_isIsolator : ByteArray := prog_11_method_9_code
def yX9_isIsolator : MethodName := ⟨RX9, "isIsolator", "(I)Z"⟩
abbrev cX9_bits : ByteArray := prog_11_method_10_code
def yX9_bits : MethodName := ⟨RX9, "bits", "(I)I"⟩
abbrev cX9_records : ByteArray := prog_11_method_11_code
def yX9_records : MethodName := ⟨RX9, "records", "()V"⟩
abbrev cX9_undo : ByteArray := prog_11_method_12_code
def yX9_undo : MethodName := ⟨RX9, "undo", "()I"⟩
abbrev cX9_laysAside : ByteArray := prog_11_method_13_code
def yX9_laysAside : MethodName := ⟨RX9, "laysAside", "()V"⟩
abbrev cX9_bringsBack : ByteArray := prog_11_method_14_code
def yX9_bringsBack : MethodName := ⟨RX9, "bringsBack", "()V"⟩
abbrev cX9_closedOnes : ByteArray := prog_11_method_15_code
def yX9_closedOnes : MethodName := ⟨RX9, "closedOnes", "()I"⟩
abbrev cX9_onOnes : ByteArray := prog_11_method_16_code
def yX9_onOnes : MethodName := ⟨RX9, "onOnes", "()I"⟩
abbrev cX9_with : ByteArray := prog_11_method_17_code
def yX9_with : MethodName := ⟨RX9, "with", "(I)I"⟩
abbrev cX9_trams : ByteArray := prog_11_method_18_code
def yX9_trams : MethodName := ⟨RX9, "trams", "()I"⟩
abbrev cX9_hanging : ByteArray := prog_11_method_19_code
def yX9_hanging : MethodName := ⟨RX9, "hanging", "(II)I"⟩
abbrev cX9_live : ByteArray := prog_11_method_20_code
def yX9_live : MethodName := ⟨RX9, "live", "(II)I"⟩
abbrev cX9_liveNow : ByteArray := prog_11_method_21_code
def yX9_liveNow : MethodName := ⟨RX9, "liveNow", "()I"⟩
abbrev cX9_isLive : ByteArray := prog_11_method_22_code
def yX9_isLive : MethodName := ⟨RX9, "isLive", "(I)Z"⟩
abbrev cX9_logged : ByteArray := prog_11_method_23_code
def yX9_logged : MethodName := ⟨RX9, "logged", "(II)I"⟩
abbrev cX9_toldBy : ByteArray := prog_11_method_24_code
def yX9_toldBy : MethodName := ⟨RX9, "toldBy", "(III)I"⟩
abbrev cX9_closedAgain : ByteArray := prog_11_method_25_code
def yX9_closedAgain : MethodName := ⟨RX9, "closedAgain", "(I)I"⟩
abbrev cX9_onAgain : ByteArray := prog_11_method_26_code
def yX9_onAgain : MethodName := ⟨RX9, "onAgain", "(I)I"⟩
abbrev cX9_liveAgain : ByteArray := prog_11_method_27_code
def yX9_liveAgain : MethodName := ⟨RX9, "liveAgain", "()I"⟩
abbrev cX9_section : ByteArray := prog_11_method_28_code
def yX9_section : MethodName := ⟨RX9, "section", "(II)I"⟩
abbrev cX9_against : ByteArray := prog_11_method_29_code
def yX9_against : MethodName := ⟨RX9, "against", "(II)I"⟩
abbrev cX9_newIsolator : ByteArray := prog_11_method_30_code
def yX9_newIsolator : MethodName := ⟨RX9, "newIsolator", "(II)V"⟩
abbrev cX9_mayJoin : ByteArray := prog_11_method_31_code
def yX9_mayJoin : MethodName := ⟨RX9, "mayJoin", "(II)Z"⟩
abbrev cX9_isolator : ByteArray := prog_11_method_32_code
def yX9_isolator : MethodName := ⟨RX9, "isolator", "(II)I"⟩
abbrev cX9_busesOut : ByteArray := prog_11_method_33_code
def yX9_busesOut : MethodName := ⟨RX9, "busesOut", "()I"⟩
abbrev cX9_free : ByteArray := prog_11_method_34_code
def yX9_free : MethodName := ⟨RX9, "free", "()I"⟩
abbrev cX9_pool : ByteArray := prog_11_method_35_code
def yX9_pool : MethodName := ⟨RX9, "pool", "(I)I"⟩
abbrev cX9_closedAt : ByteArray := prog_11_method_36_code
def yX9_closedAt : MethodName := ⟨RX9, "closedAt", "(I)I"⟩
abbrev cX9_sectionOf : ByteArray := prog_11_method_37_code
def yX9_sectionOf : MethodName := ⟨RX9, "sectionOf", "(II)I"⟩
abbrev cX9_liveWith : ByteArray := prog_11_method_38_code
def yX9_liveWith : MethodName := ⟨RX9, "liveWith", "(IZ)I"⟩
abbrev cX9_isolatorOf : ByteArray := prog_11_method_39_code
def yX9_isolatorOf : MethodName := ⟨RX9, "isolatorOf", "(II)I"⟩
abbrev cX9_groups : ByteArray := prog_11_method_40_code
def yX9_groups : MethodName := ⟨RX9, "groups", "()I"⟩
abbrev cX9_toolsLeft : ByteArray := prog_11_method_41_code
def yX9_toolsLeft : MethodName := ⟨RX9, "toolsLeft", "()I"⟩
abbrev cX9_lateOnes : ByteArray := prog_11_method_42_code
def yX9_lateOnes : MethodName := ⟨RX9, "lateOnes", "()I"⟩
abbrev cX9_count : ByteArray := prog_11_method_43_code
def yX9_count : MethodName := ⟨RX9, "count", "(I)I"⟩
abbrev cX9_isPlace : ByteArray := prog_11_method_44_code
def yX9_isPlace : MethodName := ⟨RX9, "isPlace", "(II)Z"⟩
abbrev cX9_darkens : ByteArray := prog_11_method_45_code
def yX9_darkens : MethodName := ⟨RX9, "darkens", "(II)I"⟩
abbrev cX9_lights : ByteArray := prog_11_method_46_code
def yX9_lights : MethodName := ⟨RX9, "lights", "(II)I"⟩
abbrev cX9_refuses : ByteArray := prog_11_method_47_code
def yX9_refuses : MethodName := ⟨RX9, "refuses", "(II)I"⟩
abbrev cX9_refusal : ByteArray := prog_11_method_48_code
def yX9_refusal : MethodName := ⟨RX9, "refusal", "(II)I"⟩
abbrev cX9_forgets : ByteArray := prog_11_method_49_code
def yX9_forgets : MethodName := ⟨RX9, "forgets", "()V"⟩
abbrev cX9_makes : ByteArray := prog_11_method_50_code
def yX9_makes : MethodName := ⟨RX9, "makes", "(II)V"⟩
abbrev cX9_step : ByteArray := prog_11_method_51_code
def yX9_step : MethodName := ⟨RX9, "step", "(II)I"⟩
abbrev cX9_log : ByteArray := prog_11_method_52_code
def yX9_log : MethodName := ⟨RX9, "log", "(II)I"⟩
abbrev cX9_plans : ByteArray := prog_11_method_53_code
def yX9_plans : MethodName := ⟨RX9, "plans", "(II)V"⟩
abbrev cX9_laysPlan : ByteArray := prog_11_method_54_code
def yX9_laysPlan : MethodName := ⟨RX9, "laysPlan", "(I)V"⟩
abbrev cX9_plan : ByteArray := prog_11_method_55_code
def yX9_plan : MethodName := ⟨RX9, "plan", "(II)I"⟩
abbrev cX9_canPlan : ByteArray := prog_11_method_56_code
def yX9_canPlan : MethodName := ⟨RX9, "canPlan", "(I)I"⟩
abbrev cX9_enter : ByteArray := prog_11_method_57_code
def yX9_enter : MethodName := ⟨RX9, "enter", "(III)I"⟩
abbrev cX9_leave : ByteArray := prog_11_method_58_code
def yX9_leave : MethodName := ⟨RX9, "leave", "(II)I"⟩
abbrev cX9_fetch : ByteArray := prog_11_method_59_code
def yX9_fetch : MethodName := ⟨RX9, "fetch", "(I)I"⟩
abbrev cX9_pass : ByteArray := prog_11_method_60_code
def yX9_pass : MethodName := ⟨RX9, "pass", "(I)I"⟩
abbrev cX9_type : ByteArray := prog_11_method_61_code
def yX9_type : MethodName := ⟨RX9, "type", "(I)I"⟩
abbrev cX9_clearText : ByteArray := prog_11_method_62_code
def yX9_clearText : MethodName := ⟨RX9, "clearText", "()I"⟩
abbrev cX9_kindOf : ByteArray := prog_11_method_63_code
def yX9_kindOf : MethodName := ⟨RX9, "kindOf", "(I)I"⟩
abbrev cX9_isFormed : ByteArray := prog_11_method_64_code
def yX9_isFormed : MethodName := ⟨RX9, "isFormed", "()Z"⟩
abbrev cX9_reasonOfText : ByteArray := prog_11_method_65_code
def yX9_reasonOfText : MethodName := ⟨RX9, "reasonOfText", "()I"⟩
abbrev cX9_fault : ByteArray := prog_11_method_66_code
def yX9_fault : MethodName := ⟨RX9, "fault", "(I)I"⟩
abbrev cX9_play : ByteArray := prog_11_method_67_code
def yX9_play : MethodName := ⟨RX9, "play", "()I"⟩
def RJ9 : String := "java/lang/Math"
def TJ9 : u_T := fun k => match k with
  | _ => ("", "", "", false)
def tyJ9 : Nat → FieldType := fun k => match k with
  | _ => .int
theorem nmJ9 : ∀ a, a < 0 → ∀ b, b < 0 → a ≠ b → (TJ9 a).2.1 ≠ (TJ9 b).2.1 := by decide +kernel
theorem tyJ9_ok : ∀ k, k < 0 → parseFieldDescriptor (TJ9 k).2.2.1 = some (tyJ9 k) := by decide +kernel
abbrev cJ9_max_7cf53 : ByteArray := prog_12_method_65_code
def RJ10 : String := "java/lang/System"
def TJ10 : u_T := fun k => match k with
  | _ => ("", "", "", false)
def tyJ10 : Nat → FieldType := fun k => match k with
  | _ => .int
theorem nmJ10 : ∀ a, a < 0 → ∀ b, b < 0 → a ≠ b → (TJ10 a).2.1 ≠ (TJ10 b).2.1 := by decide +kernel
theorem tyJ10_ok : ∀ k, k < 0 → parseFieldDescriptor (TJ10 k).2.2.1 = some (tyJ10 k) := by decide +kernel
def RL : String := "TramWiresLaw"
abbrev cL_law : ByteArray := code
def yL_law : MethodName := ⟨RL, "law", "([I)Z"⟩
abbrev vwCl : List vw_C := [(RX0, TX0, 2), (RX1, TX1, 9), (RX2, TX2, 8), (RX3, TX3, 3), (RX4, TX4, 4), (RX5, TX5, 10), (RX6, TX6, 5), (RX7, TX7, 5), (RX8, TX8, 5), (RX9, TX9, 13)]
end
section
set_option maxRecDepth 100000 in
theorem tb_cpy1 : Cond.native arraycopyName ∈ TB := tb_m (List.mem_of_getElem? (i := 396) (by decide +kernel)) rfl
set_option maxRecDepth 100000 in
theorem tb_cpy2 : Cond.static arraycopyName ∈ TB := tb_m (List.mem_of_getElem? (i := 395) (by decide +kernel)) rfl
set_option maxRecDepth 100000 in
theorem tb_cpy3 : Cond.initialized "java/lang/System" ∈ TB := tb_m (List.mem_of_getElem? (i := 78) (by decide +kernel)) rfl
set_option maxRecDepth 100000 in
theorem tb_max1 : Cond.static Lib.Math.max.name ∈ TB := tb_m (List.mem_of_getElem? (i := 685) (by decide +kernel)) rfl
set_option maxRecDepth 100000 in
theorem tb_max2 : Cond.initialized "java/lang/Math" ∈ TB := tb_m (List.mem_of_getElem? (i := 79) (by decide +kernel)) rfl
set_option maxRecDepth 100000 in
theorem tb_max3 : Cond.code Lib.Math.max.name Lib.Math.max.code 2 (some .int) ∈ TB := tb_m (List.mem_of_getElem? (i := 686) (by decide +kernel)) rfl
/-- links to a nest mate's private methods -/
def nwL : List Cond := [.methodLinkNest RX8 9 yX7_init "TramWires", .methodLinkNest RX8 25 yX6_init "TramWires", .methodLinkNest RX8 32 yX3_init "TramWires", .methodLinkNest RX8 39 yX4_init "TramWires", .methodLinkNest RX0 17 yX7_init "TramWires", .methodLinkNest RX4 11 yX7_init "TramWires", .methodLinkNest RX6 38 yX8_isOutside "TramWires", .methodLinkNest RX7 11 yX2_init "TramWires", .methodLinkNest RX7 20 yX5_init "TramWires", .methodLinkNest RX7 27 yX1_init "TramWires", .methodLinkNest RX7 53 yX8_isOutside "TramWires"]
def nwM : Cond → Bool
  | .methodLinkNest .. => true
  | _ => false
theorem nw_all : nwL.all nwM = true := by decide +kernel
theorem nw_tab : ∀ q ∈ nwL, q ∈ lw_tbl := by
  intro q hq
  obtain ⟨k, hk⟩ := List.getElem?_of_mem hq
  match k, hk with
  | 0, h => cases h; exact List.mem_of_getElem? (i := 90) (by decide +kernel)
  | 1, h => cases h; exact List.mem_of_getElem? (i := 282) (by decide +kernel)
  | 2, h => cases h; exact List.mem_of_getElem? (i := 310) (by decide +kernel)
  | 3, h => cases h; exact List.mem_of_getElem? (i := 332) (by decide +kernel)
  | 4, h => cases h; exact List.mem_of_getElem? (i := 271) (by decide +kernel)
  | 5, h => cases h; exact List.mem_of_getElem? (i := 337) (by decide +kernel)
  | 6, h => cases h; exact List.mem_of_getElem? (i := 719) (by decide +kernel)
  | 7, h => cases h; exact List.mem_of_getElem? (i := 96) (by decide +kernel)
  | 8, h => cases h; exact List.mem_of_getElem? (i := 146) (by decide +kernel)
  | 9, h => cases h; exact List.mem_of_getElem? (i := 201) (by decide +kernel)
  | 10, h => cases h; exact List.mem_of_getElem? (i := 427) (by decide +kernel)
  | k + 11, h => simp [nwL] at h
end
section
/-! A flat memory over the kit's worlds: an address has a shape that never changes (its layout), and contents Nat → Int32.
Every method but the constructors is walked against a function of this memory; what the heap has beside is framed. -/
abbrev Mm : Type := Nat → Nat → Int32
abbrev Ly : Type := Nat → Option ((Nat → Int32) → va_E)
/-- of a world: the class tables; the classes of int[], boolean[], Wires[]; the base of the history's wires -/
abbrev Wp : Type := va_G × ClassId × ClassId × ClassId × Nat
def mst (M : Mm) (a i : Nat) (v : Int32) : Mm := fun b => if b = a then upd (M b) i v else M b
def mrow (M : Mm) (a : Nat) (f : Nat → Int32) : Mm := fun b => if b = a then f else M b
abbrev ix (i : Int32) : Nat := i.toNatClampNeg
def zb (x : Int32) : Int32 := x &&& 1
def gI (w : Wp) (n : Nat) : (Nat → Int32) → va_E := fun f => .inl (w.2.1, n, .inl f)
def gZ (w : Wp) (n : Nat) : (Nat → Int32) → va_E := fun f => .inl (w.2.2.1, n, .inl (fun k => zb (f k)))
def gR (w : Wp) (n : Nat) : (Nat → Int32) → va_E := fun f => .inl (w.2.2.2.1, n, .inr (.inr (.inr (.inr (fun k => some (w.2.2.2.2 + 32 * ix (f k)))))))
def fV (o : Option Nat) (x : Int32) : Value := match o with
  | none => .int x
  | some r => .ref r
def fO (ks : List (Option Nat)) (f : Nat → Int32) : List Value := (List.range ks.length).map (fun k => fV (ks.getD k none) (f k))
def gO (ci : Nat) (ks : List (Option Nat)) : (Nat → Int32) → va_E := fun f => .inr (ci, fO ks f)
theorem fO_len (ks : List (Option Nat)) (f : Nat → Int32) : (fO ks f).length = ks.length := by simp [fO]
theorem fO_get {ks : List (Option Nat)} {f : Nat → Int32} {k : Nat} (h : k < ks.length) : (fO ks f)[k]? = some (fV (ks.getD k none) (f k)) := by
  unfold fO
  rw [List.getElem?_map, List.getElem?_range h]
  rfl
theorem fO_set {ks : List (Option Nat)} {f : Nat → Int32} {k : Nat} (hk : ks.getD k none = none) (v : Int32) : fO ks (upd f k v) = (fO ks f).set k (.int v) := by
  apply List.ext_getElem?
  intro j
  by_cases hj : j < ks.length
  · rw [fO_get hj]
    by_cases hjk : j = k
    · subst hjk
      rw [List.getElem?_set_self (by rw [fO_len]; exact hj), hk]
      simp [fV, upd]
    · rw [List.getElem?_set_ne (Ne.symm hjk), fO_get hj]
      simp [upd, hjk]
  · rw [List.getElem?_eq_none (by rw [fO_len]; omega), List.getElem?_eq_none (by rw [List.length_set, fO_len]; omega)]
def tysW (w : Wp) : List (ClassId × FieldType) := [(w.2.1, .int), (w.2.2.1, .boolean), (w.2.2.2.1, .object RX7)]
def KK (w : Wp) (U : State) : Prop := va_K w.1 vwCl (tysW w) U ∧ ∀ q ∈ nwL, va_Nw q U
theorem nw_is {q : Cond} (h : q ∈ nwL) : ∃ (a : String) (i : Nat) (x : MethodName) (b : String), q = .methodLinkNest a i x b := by
  have h1 := List.all_eq_true.mp nw_all q h
  cases q <;> first | exact ⟨_, _, _, _, rfl⟩ | cases h1
theorem KK.warm {w : Wp} {s U : State} (hW : s.WarmedH U.vm) (h : KK w s) : KK w U := by
  refine ⟨va_K.moved hW.alike h.1, fun q hq => ?_⟩
  have h2 := h.2 q hq
  obtain ⟨a, i, x, b, rfl⟩ := nw_is hq
  exact va_Nw.warmM hW h2
theorem KK.same {w : Wp} {u U : State} (hv : u.vm = U.vm) (h : KK w u) : KK w U := by
  refine ⟨va_K.moved (by rw [hv]; exact Vm.Alike.refl U.vm) h.1, fun q hq => ?_⟩
  have h2 := h.2 q hq
  obtain ⟨a, i, x, b, rfl⟩ := nw_is hq
  exact va_Nw.same rfl hv h2
def HM (w : Wp) (L : Ly) (M : Mm) (H : Heap) : Prop := ∀ (a : Nat) (g : (Nat → Int32) → va_E), L a = some g → va_at w.1 vwCl (a, g (M a)) H
def dm (L : Ly) : Nat → Prop := fun q => L q ≠ none
def rmL (n : Nat) : Room := { frames := n, cells := 0, slots := 0, locals := 32 * n }
/-- a walk's surroundings: program, environment, room, start, method, arguments, frames below, the method, its code, the cells that it may write, cells and slots so far, its end -/
abbrev Cx : Type := Program × Env × Room × State × MethodId × Array Value × List Frame × Method × Code × (Nat → Prop) × Nat × Nat × (State → Prop)
abbrev xP (E : Cx) : Program := E.1
abbrev xE (E : Cx) : Env := E.2.1
abbrev xR (E : Cx) : Room := E.2.2.1
abbrev xS (E : Cx) : State := E.2.2.2.1
abbrev xM (E : Cx) : MethodId := E.2.2.2.2.1
abbrev xA (E : Cx) : Array Value := E.2.2.2.2.2.1
abbrev xB (E : Cx) : List Frame := E.2.2.2.2.2.2.1
abbrev xY (E : Cx) : Method := E.2.2.2.2.2.2.2.1
abbrev xC (E : Cx) : Code := E.2.2.2.2.2.2.2.2.1
abbrev xF (E : Cx) : Nat → Prop := E.2.2.2.2.2.2.2.2.2.1
abbrev xN (E : Cx) : Nat := E.2.2.2.2.2.2.2.2.2.2.1
abbrev xT (E : Cx) : Nat := E.2.2.2.2.2.2.2.2.2.2.2.1
abbrev xQ (E : Cx) : State → Prop := E.2.2.2.2.2.2.2.2.2.2.2.2
/-- from here, with memory M, locals lv, stack st, the walk comes to its end -/
def G (l : Launch) (w : Wp) (L : Ly) (E : Cx) (M : Mm) (lv : List (Nat × Value)) (pc : Nat) (st : List Value) : Prop :=
  ∀ (H : Heap) (locs : List Loc) (ls : Array Slot), HM w L M H → va_S (xF E) (xS E).heap H locs → lv_has ls (xC E).maxLocals lv →
    W (xP E) l (xE E) (xR E) (xS E) (xM E) (xA E) (xB E) (xY E) (xC E) H locs (xN E) (xT E) (xQ E) (F0 (xM E) pc ls st)
def Ok (w : Wp) (L : Ly) (E : Cx) (own : String) (cc : ByteArray) (maxL : Nat) (n : Nat) : Prop :=
  (xP E).tables.exec = Jvm.exec ∧ (xC E).code = cc ∧ (xC E).maxLocals = maxL ∧ (xS E).vm.findClass own = some (xM E).cls ∧ (∀ w ∈ TB, w.before (xA E) (xS E) = true) ∧ KK w (xS E) ∧
  (∀ q, L q ≠ none → xF E q) ∧ n ≤ (xR E).frames ∧ 32 * n ≤ (xR E).locals ∧ xN E ≤ (xR E).cells ∧ xT E ≤ (xR E).slots
def QR (w : Wp) (L : Ly) (rt : Option FieldType) (R0 : Int32 × Mm) : Array Value → State → Outcome → State → Prop := fun _ st oc t =>
  oc = .returned (rt.map fun _ => .int R0.1) ∧ HM w L R0.2 t.heap ∧ va_F (dm L) st t
/-- the end of a method that comes to R0 -/
def En (w : Wp) (L : Ly) (E : Cx) (rt : Option FieldType) (R0 : Int32 × Mm) : Prop :=
  xQ E = MQ (xB E) (QR w L rt R0) (xA E) (xS E) (xN E) (xT E) (dm L) ∧ xF E = dm L ∧ (xY E).sig.returnType = rt ∧ (xY E).locks = false
def CT (l : Launch) (w : Wp) (L : Ly) (y : MethodName) (cc : ByteArray) (maxL : Nat) (ret : Option FieldType) (n : Nat) (av : List Value) (M : Mm) (R0 : Int32 × Mm) : Prop :=
  Met l y (Cond.code y cc maxL ret :: TB) (rmL n) (va_Pc av (fun U => HM w L M U.heap ∧ KK w U)) (QR w L ret R0) 0 0 (dm L)
/-- the functions' words: checks, names, calls -/
abbrev OR : Type := Option (Int32 × Mm)
def ckd (i : Int32) (m : Nat) (A : OR) : OR := if i < 0 ∨ m ≤ ix i then none else A
def bnd {α : Type} (v : α) (k : α → OR) : OR := k v
def obn (x : OR) (k : Int32 → Mm → OR) : OR := match x with
  | none => none
  | some q => k q.1 q.2
def cpk (sp dp n : Int32) (n0 n1 : Nat) (A : OR) : OR := if sp < 0 ∨ dp < 0 ∨ n < 0 ∨ n0 < ix sp + ix n ∨ n1 < ix dp + ix n then none else A
def dvk (y : Int32) (A : OR) : OR := if y = 0 then none else A
theorem ckd_in {i : Int32} {m : Nat} {A : OR} {R0 : Int32 × Mm} (h : ckd i m A = some R0) : vp_in i m ∧ A = some R0 := by
  unfold ckd at h
  split at h
  · cases h
  · rename_i q
    exact ⟨q, h⟩
theorem obn_some {x : OR} {k : Int32 → Mm → OR} {R0 : Int32 × Mm} (h : obn x k = some R0) : ∃ q, x = some q ∧ k q.1 q.2 = some R0 := by
  cases x with
  | none => cases h
  | some q => exact ⟨q, rfl, h⟩
theorem mst_at (M : Mm) (a i : Nat) (v : Int32) : mst M a i v a = upd (M a) i v := by simp [mst]
theorem mst_ne {M : Mm} {a i : Nat} {v : Int32} {b : Nat} (h : b ≠ a) : mst M a i v b = M b := by simp [mst, h]
theorem mrow_at (M : Mm) (a : Nat) (f : Nat → Int32) : mrow M a f a = f := by simp [mrow]
theorem mrow_ne {M : Mm} {a : Nat} {f : Nat → Int32} {b : Nat} (h : b ≠ a) : mrow M a f b = M b := by simp [mrow, h]
theorem HM.put {w : Wp} {L : Ly} {M : Mm} {H H1 : Heap} {a : Nat} {g : (Nat → Int32) → va_E} {f : Nat → Int32} (h : HM w L M H) (hL : L a = some g) (he : va_at w.1 vwCl (a, g f) H1) (oq : ∀ q : Nat, q ≠ a → H1[q]? = H[q]?) : HM w L (mrow M a f) H1 := by
  intro b g' hb
  by_cases hba : b = a
  · subst hba
    rw [hL] at hb
    cases hb
    rw [mrow_at]
    exact he
  · rw [mrow_ne hba]
    exact (h b g' hb).kept (oq b hba)
theorem mst_row (M : Mm) (a i : Nat) (v : Int32) : mst M a i v = mrow M a (upd (M a) i v) := by
  funext b
  by_cases h : b = a
  · subst h; simp [mst, mrow]
  · simp [mst, mrow, h]
theorem KK.u {w : Wp} {U : State} (h : KK w U) {ci : Nat} {q : vw_C} (hc : vwCl[ci]? = some q) : u_Kn U q.1 q.2.1 q.2.2 (w.1.1 ci) (w.1.2 ci) := h.1.1 ci q hc
theorem KK.i {w : Wp} {U : State} (h : KK w U) : ArrOfT U w.2.1 .int ∧ va_RA U w.2.1 .int := h.1.2 0 _ rfl
theorem KK.z {w : Wp} {U : State} (h : KK w U) : ArrOfT U w.2.2.1 .boolean ∧ va_RA U w.2.2.1 .boolean := h.1.2 1 _ rfl
theorem KK.r {w : Wp} {U : State} (h : KK w U) : ArrOfT U w.2.2.2.1 (.object RX7) ∧ va_RA U w.2.2.2.1 (.object RX7) := h.1.2 2 _ rfl
section GR
variable {l : Launch} {w : Wp} {L : Ly} {E : Cx} {M : Mm} {lv : List (Nat × Value)} {pc : Nat} {st : List Value} {own : String} {cc : ByteArray} {maxL n : Nat}
theorem g_iconst (cx : Ok w L E own cc maxL n) {i : Int} {v : Int32} (hd : decode cc pc = .ok (.iconst i, 1)) (hv : Int32.ofInt i = v) (k : G l w L E M lv (pc + 1) (.int v :: st)) : G l w L E M lv pc st :=
  fun H locs ls h1 h2 h3 => lv_iconst cx.1 cx.2.1 hd hv (k H locs ls h1 h2 h3)
theorem g_bipush (cx : Ok w L E own cc maxL n) {i : Int} {v : Int32} (hd : decode cc pc = .ok (.bipush i, 2)) (hv : (Int8.ofInt i).toInt32 = v) (k : G l w L E M lv (pc + 2) (.int v :: st)) : G l w L E M lv pc st :=
  fun H locs ls h1 h2 h3 => lv_bipush cx.1 cx.2.1 hd hv (k H locs ls h1 h2 h3)
theorem g_sipush (cx : Ok w L E own cc maxL n) {i : Int} {v : Int32} (hd : decode cc pc = .ok (.sipush i, 3)) (hv : (Int16.ofInt i).toInt32 = v) (k : G l w L E M lv (pc + 3) (.int v :: st)) : G l w L E M lv pc st :=
  fun H locs ls h1 h2 h3 => lv_sipush cx.1 cx.2.1 hd hv (k H locs ls h1 h2 h3)
theorem g_ldc (cx : Ok w L E own cc maxL n) {i : Nat} {v : Int32} (hw : Cond.constant own i v ∈ TB) (hd : decode cc pc = .ok (.ldc i, 2)) (k : G l w L E M lv (pc + 2) (.int v :: st)) : G l w L E M lv pc st :=
  fun H locs ls h1 h2 h3 => lv_ldc cx.1 cx.2.1 cx.2.2.2.1 (cx.2.2.2.2.1 _ hw) hd (k H locs ls h1 h2 h3)
theorem g_iload_n (cx : Ok w L E own cc maxL n) {j : Fin 4} {i : Nat} {x : Int32} (hd : decode cc pc = .ok (.iload_n j, 1)) (hi : (j : Nat) = i) (p : Nat) (hp : lv[p]? = some (i, .int x)) (k : G l w L E M lv (pc + 1) (.int x :: st)) : G l w L E M lv pc st :=
  fun H locs ls h1 h2 h3 => lv_iload_n cx.1 cx.2.1 hd hi (lv_at h3 p hp) (k H locs ls h1 h2 h3)
theorem g_iload (cx : Ok w L E own cc maxL n) {i : Nat} {x : Int32} (hd : decode cc pc = .ok (.iload i, 2)) (p : Nat) (hp : lv[p]? = some (i, .int x)) (k : G l w L E M lv (pc + 2) (.int x :: st)) : G l w L E M lv pc st :=
  fun H locs ls h1 h2 h3 => lv_iload cx.1 cx.2.1 hd (lv_at h3 p hp) (k H locs ls h1 h2 h3)
theorem g_aload_n (cx : Ok w L E own cc maxL n) {j : Fin 4} {i : Nat} {x : Nat} (hd : decode cc pc = .ok (.aload_n j, 1)) (hi : (j : Nat) = i) (p : Nat) (hp : lv[p]? = some (i, .ref x)) (k : G l w L E M lv (pc + 1) (.ref x :: st)) : G l w L E M lv pc st :=
  fun H locs ls h1 h2 h3 => lv_aload_n cx.1 cx.2.1 hd hi (lv_at h3 p hp) (k H locs ls h1 h2 h3)
theorem g_aload (cx : Ok w L E own cc maxL n) {i : Nat} {x : Nat} (hd : decode cc pc = .ok (.aload i, 2)) (p : Nat) (hp : lv[p]? = some (i, .ref x)) (k : G l w L E M lv (pc + 2) (.ref x :: st)) : G l w L E M lv pc st :=
  fun H locs ls h1 h2 h3 => lv_aload cx.1 cx.2.1 hd (lv_at h3 p hp) (k H locs ls h1 h2 h3)
theorem g_istore_n (cx : Ok w L E own cc maxL n) {j : Fin 4} {i : Nat} {x : Int32} (lv' : List (Nat × Value)) (hd : decode cc pc = .ok (.istore_n j, 1)) (hi : (j : Nat) = i) (hn : i < maxL) (hl : (i, Value.int x) :: lv.filter (fun q => !(q.1 == i) && !(q.1 + 1 == i && q.2.category == 2)) = lv') (k : G l w L E M lv' (pc + 1) st) : G l w L E M lv pc (.int x :: st) :=
  fun H locs _ h1 h2 h3 => lv_istore_n cx.1 cx.2.1 hd hi h3 (by rw [cx.2.2.1]; exact hn) hl (fun ls h => k H locs ls h1 h2 h)
theorem g_istore (cx : Ok w L E own cc maxL n) {i : Nat} {x : Int32} (lv' : List (Nat × Value)) (hd : decode cc pc = .ok (.istore i, 2)) (hn : i < maxL) (hl : (i, Value.int x) :: lv.filter (fun q => !(q.1 == i) && !(q.1 + 1 == i && q.2.category == 2)) = lv') (k : G l w L E M lv' (pc + 2) st) : G l w L E M lv pc (.int x :: st) :=
  fun H locs _ h1 h2 h3 => lv_istore cx.1 cx.2.1 hd h3 (by rw [cx.2.2.1]; exact hn) hl (fun ls h => k H locs ls h1 h2 h)
theorem g_astore_n (cx : Ok w L E own cc maxL n) {j : Fin 4} {i : Nat} {x : Nat} (lv' : List (Nat × Value)) (hd : decode cc pc = .ok (.astore_n j, 1)) (hi : (j : Nat) = i) (hn : i < maxL) (hl : (i, Value.ref x) :: lv.filter (fun q => !(q.1 == i) && !(q.1 + 1 == i && q.2.category == 2)) = lv') (k : G l w L E M lv' (pc + 1) st) : G l w L E M lv pc (.ref x :: st) :=
  fun H locs _ h1 h2 h3 => lv_astore_n cx.1 cx.2.1 hd hi h3 (by rw [cx.2.2.1]; exact hn) hl (fun ls h => k H locs ls h1 h2 h)
theorem g_astore (cx : Ok w L E own cc maxL n) {i : Nat} {x : Nat} (lv' : List (Nat × Value)) (hd : decode cc pc = .ok (.astore i, 2)) (hn : i < maxL) (hl : (i, Value.ref x) :: lv.filter (fun q => !(q.1 == i) && !(q.1 + 1 == i && q.2.category == 2)) = lv') (k : G l w L E M lv' (pc + 2) st) : G l w L E M lv pc (.ref x :: st) :=
  fun H locs _ h1 h2 h3 => lv_astore cx.1 cx.2.1 hd h3 (by rw [cx.2.2.1]; exact hn) hl (fun ls h => k H locs ls h1 h2 h)
theorem g_iinc (cx : Ok w L E own cc maxL n) {i : Nat} {c : Int} {x v : Int32} (lv' : List (Nat × Value)) (hd : decode cc pc = .ok (.iinc i c, 3)) (p : Nat) (hp : lv[p]? = some (i, .int x)) (hv : x + Int32.ofInt c = v) (hn : i < maxL) (hl : (i, Value.int v) :: lv.filter (fun q => !(q.1 == i) && !(q.1 + 1 == i && q.2.category == 2)) = lv') (k : G l w L E M lv' (pc + 3) st) : G l w L E M lv pc st :=
  fun H locs _ h1 h2 h3 => lv_iinc cx.1 cx.2.1 hd h3 hp hv (by rw [cx.2.2.1]; exact hn) hl (fun ls h => k H locs ls h1 h2 h)
theorem g_sub (ks : List Nat) (lv' : List (Nat × Value)) (h : lv_pick lv ks = lv') (k : G l w L E M lv' pc st) : G l w L E M lv pc st :=
  fun H locs ls h1 h2 h3 => k H locs ls h1 h2 (lv_sub h3 ks h)
theorem g_iadd (cx : Ok w L E own cc maxL n) {x y : Int32} (hd : decode cc pc = .ok (.iadd, 1)) (k : G l w L E M lv (pc + 1) (.int (x + y) :: st)) : G l w L E M lv pc (.int y :: .int x :: st) :=
  fun H locs ls h1 h2 h3 => lv_iadd cx.1 cx.2.1 hd (k H locs ls h1 h2 h3)
theorem g_isub (cx : Ok w L E own cc maxL n) {x y : Int32} (hd : decode cc pc = .ok (.isub, 1)) (k : G l w L E M lv (pc + 1) (.int (x - y) :: st)) : G l w L E M lv pc (.int y :: .int x :: st) :=
  fun H locs ls h1 h2 h3 => lv_isub cx.1 cx.2.1 hd (k H locs ls h1 h2 h3)
theorem g_imul (cx : Ok w L E own cc maxL n) {x y : Int32} (hd : decode cc pc = .ok (.imul, 1)) (k : G l w L E M lv (pc + 1) (.int (x * y) :: st)) : G l w L E M lv pc (.int y :: .int x :: st) :=
  fun H locs ls h1 h2 h3 => lv_imul cx.1 cx.2.1 hd (k H locs ls h1 h2 h3)
theorem g_iand (cx : Ok w L E own cc maxL n) {x y : Int32} (hd : decode cc pc = .ok (.iand, 1)) (k : G l w L E M lv (pc + 1) (.int (x &&& y) :: st)) : G l w L E M lv pc (.int y :: .int x :: st) :=
  fun H locs ls h1 h2 h3 => lv_iand cx.1 cx.2.1 hd (k H locs ls h1 h2 h3)
theorem g_ior (cx : Ok w L E own cc maxL n) {x y : Int32} (hd : decode cc pc = .ok (.ior, 1)) (k : G l w L E M lv (pc + 1) (.int (x ||| y) :: st)) : G l w L E M lv pc (.int y :: .int x :: st) :=
  fun H locs ls h1 h2 h3 => lv_ior cx.1 cx.2.1 hd (k H locs ls h1 h2 h3)
theorem g_ixor (cx : Ok w L E own cc maxL n) {x y : Int32} (hd : decode cc pc = .ok (.ixor, 1)) (k : G l w L E M lv (pc + 1) (.int (x ^^^ y) :: st)) : G l w L E M lv pc (.int y :: .int x :: st) :=
  fun H locs ls h1 h2 h3 => lv_ixor cx.1 cx.2.1 hd (k H locs ls h1 h2 h3)
theorem g_ishl (cx : Ok w L E own cc maxL n) {x y : Int32} (hd : decode cc pc = .ok (.ishl, 1)) (k : G l w L E M lv (pc + 1) (.int (x <<< (y &&& 31)) :: st)) : G l w L E M lv pc (.int y :: .int x :: st) :=
  fun H locs ls h1 h2 h3 => lv_ishl cx.1 cx.2.1 hd (k H locs ls h1 h2 h3)
theorem g_ishr (cx : Ok w L E own cc maxL n) {x y : Int32} (hd : decode cc pc = .ok (.ishr, 1)) (k : G l w L E M lv (pc + 1) (.int (x >>> (y &&& 31)) :: st)) : G l w L E M lv pc (.int y :: .int x :: st) :=
  fun H locs ls h1 h2 h3 => lv_ishr cx.1 cx.2.1 hd (k H locs ls h1 h2 h3)
theorem g_idiv (cx : Ok w L E own cc maxL n) {x y : Int32} (hd : decode cc pc = .ok (.idiv, 1)) (hy : ¬ y = 0) (k : G l w L E M lv (pc + 1) (.int (x / y) :: st)) : G l w L E M lv pc (.int y :: .int x :: st) :=
  fun H locs ls h1 h2 h3 => lv_idiv cx.1 cx.2.1 hd hy (k H locs ls h1 h2 h3)
theorem g_irem (cx : Ok w L E own cc maxL n) {x y : Int32} (hd : decode cc pc = .ok (.irem, 1)) (hy : ¬ y = 0) (k : G l w L E M lv (pc + 1) (.int (x - x / y * y) :: st)) : G l w L E M lv pc (.int y :: .int x :: st) :=
  fun H locs ls h1 h2 h3 => lv_irem cx.1 cx.2.1 hd hy (k H locs ls h1 h2 h3)
theorem g_dup (cx : Ok w L E own cc maxL n) {v : Value} (hd : decode cc pc = .ok (.dup, 1)) (hv : v.category = 1) (k : G l w L E M lv (pc + 1) (v :: v :: st)) : G l w L E M lv pc (v :: st) :=
  fun H locs ls h1 h2 h3 => lv_dup cx.1 cx.2.1 hd hv (k H locs ls h1 h2 h3)
theorem g_pop (cx : Ok w L E own cc maxL n) {v : Value} (hd : decode cc pc = .ok (.pop, 1)) (hv : v.category = 1) (k : G l w L E M lv (pc + 1) st) : G l w L E M lv pc (v :: st) :=
  fun H locs ls h1 h2 h3 => lv_pop cx.1 cx.2.1 hd hv (k H locs ls h1 h2 h3)
theorem g_dup2 (cx : Ok w L E own cc maxL n) {u v : Value} (hd : decode cc pc = .ok (.dup2, 1)) (hu : u.category = 1) (hv : v.category = 1) (k : G l w L E M lv (pc + 1) (u :: v :: u :: v :: st)) : G l w L E M lv pc (u :: v :: st) :=
  fun H locs ls h1 h2 h3 => lv_dup2_11 cx.1 cx.2.1 hd hu hv (k H locs ls h1 h2 h3)
theorem g_goto (cx : Ok w L E own cc maxL n) {off : Int} {tgt : Nat} (hd : decode cc pc = .ok (.goto off, 3)) (ht : (pc : Int) + off = (tgt : Int)) (k : G l w L E M lv tgt st) : G l w L E M lv pc st :=
  fun H locs ls h1 h2 h3 => lv_goto cx.1 cx.2.1 hd ht (k H locs ls h1 h2 h3)
theorem g_nm {x : Int32} {A : Int32 → OR} {R0 : Int32 × Mm} (hf : bnd x A = some R0) (k : ∀ y : Int32, A y = some R0 → G l w L E M lv pc (.int y :: st)) : G l w L E M lv pc (.int x :: st) := k x hf
end GR
section GB
variable {l : Launch} {w : Wp} {L : Ly} {E : Cx} {M : Mm} {lv : List (Nat × Value)} {pc : Nat} {st : List Value} {own : String} {cc : ByteArray} {maxL n : Nat} {A B : OR} {R0 : Int32 × Mm} {off : Int} {tgt : Nat}
theorem if_t {c : Prop} {d : Decidable c} (h : (if c then A else B) = some R0) (hc : c) : A = some R0 := by rw [if_pos hc] at h; exact h
theorem if_f {c : Prop} {d : Decidable c} (h : (if c then A else B) = some R0) (hc : ¬ c) : B = some R0 := by rw [if_neg hc] at h; exact h

theorem g_if_eq (cx : Ok w L E own cc maxL n) {x : Int32} (hd : decode cc pc = .ok (.ifCond .eq off, 3)) (ht : (pc : Int) + off = (tgt : Int)) (hf : (if x = 0 then A else B) = some R0) (ka : A = some R0 → G l w L E M lv tgt st) (kb : B = some R0 → G l w L E M lv (pc + 3) st) : G l w L E M lv pc (.int x :: st) :=
  fun H locs ls h1 h2 h3 => lv_if_eq cx.1 cx.2.1 hd ht (fun h => ka (if_t hf h) H locs ls h1 h2 h3) (fun h => kb (if_f hf h) H locs ls h1 h2 h3)
theorem g_if_ne (cx : Ok w L E own cc maxL n) {x : Int32} (hd : decode cc pc = .ok (.ifCond .ne off, 3)) (ht : (pc : Int) + off = (tgt : Int)) (hf : (if x = 0 then A else B) = some R0) (ka : A = some R0 → G l w L E M lv (pc + 3) st) (kb : B = some R0 → G l w L E M lv tgt st) : G l w L E M lv pc (.int x :: st) :=
  fun H locs ls h1 h2 h3 => lv_if_ne cx.1 cx.2.1 hd ht (fun h => kb (if_f hf h) H locs ls h1 h2 h3) (fun h => ka (if_t hf h) H locs ls h1 h2 h3)
theorem g_if_lt (cx : Ok w L E own cc maxL n) {x : Int32} (hd : decode cc pc = .ok (.ifCond .lt off, 3)) (ht : (pc : Int) + off = (tgt : Int)) (hf : (if x < 0 then A else B) = some R0) (ka : A = some R0 → G l w L E M lv tgt st) (kb : B = some R0 → G l w L E M lv (pc + 3) st) : G l w L E M lv pc (.int x :: st) :=
  fun H locs ls h1 h2 h3 => lv_if_lt cx.1 cx.2.1 hd ht (fun h => ka (if_t hf h) H locs ls h1 h2 h3) (fun h => kb (if_f hf h) H locs ls h1 h2 h3)
theorem g_if_ge (cx : Ok w L E own cc maxL n) {x : Int32} (hd : decode cc pc = .ok (.ifCond .ge off, 3)) (ht : (pc : Int) + off = (tgt : Int)) (hf : (if x < 0 then A else B) = some R0) (ka : A = some R0 → G l w L E M lv (pc + 3) st) (kb : B = some R0 → G l w L E M lv tgt st) : G l w L E M lv pc (.int x :: st) :=
  fun H locs ls h1 h2 h3 => lv_if_ge cx.1 cx.2.1 hd ht (fun h => kb (if_f hf (Int32.not_lt.mpr h)) H locs ls h1 h2 h3) (fun h => ka (if_t hf (Int32.not_le.mp h)) H locs ls h1 h2 h3)
theorem g_if_gt (cx : Ok w L E own cc maxL n) {x : Int32} (hd : decode cc pc = .ok (.ifCond .gt off, 3)) (ht : (pc : Int) + off = (tgt : Int)) (hf : (if 0 < x then A else B) = some R0) (ka : A = some R0 → G l w L E M lv tgt st) (kb : B = some R0 → G l w L E M lv (pc + 3) st) : G l w L E M lv pc (.int x :: st) :=
  fun H locs ls h1 h2 h3 => lv_if_gt cx.1 cx.2.1 hd ht (fun h => ka (if_t hf h) H locs ls h1 h2 h3) (fun h => kb (if_f hf h) H locs ls h1 h2 h3)
theorem g_if_le (cx : Ok w L E own cc maxL n) {x : Int32} (hd : decode cc pc = .ok (.ifCond .le off, 3)) (ht : (pc : Int) + off = (tgt : Int)) (hf : (if 0 < x then A else B) = some R0) (ka : A = some R0 → G l w L E M lv (pc + 3) st) (kb : B = some R0 → G l w L E M lv tgt st) : G l w L E M lv pc (.int x :: st) :=
  fun H locs ls h1 h2 h3 => lv_if_le cx.1 cx.2.1 hd ht (fun h => kb (if_f hf (Int32.not_lt.mpr h)) H locs ls h1 h2 h3) (fun h => ka (if_t hf (Int32.not_le.mp h)) H locs ls h1 h2 h3)
theorem g_icmp_eq (cx : Ok w L E own cc maxL n) {x y : Int32} (hd : decode cc pc = .ok (.if_icmp .eq off, 3)) (ht : (pc : Int) + off = (tgt : Int)) (hf : (if x = y then A else B) = some R0) (ka : A = some R0 → G l w L E M lv tgt st) (kb : B = some R0 → G l w L E M lv (pc + 3) st) : G l w L E M lv pc (.int y :: .int x :: st) :=
  fun H locs ls h1 h2 h3 => lv_icmp_eq cx.1 cx.2.1 hd ht (fun h => ka (if_t hf h) H locs ls h1 h2 h3) (fun h => kb (if_f hf h) H locs ls h1 h2 h3)
theorem g_icmp_ne (cx : Ok w L E own cc maxL n) {x y : Int32} (hd : decode cc pc = .ok (.if_icmp .ne off, 3)) (ht : (pc : Int) + off = (tgt : Int)) (hf : (if x = y then A else B) = some R0) (ka : A = some R0 → G l w L E M lv (pc + 3) st) (kb : B = some R0 → G l w L E M lv tgt st) : G l w L E M lv pc (.int y :: .int x :: st) :=
  fun H locs ls h1 h2 h3 => lv_icmp_ne cx.1 cx.2.1 hd ht (fun h => kb (if_f hf h) H locs ls h1 h2 h3) (fun h => ka (if_t hf h) H locs ls h1 h2 h3)
theorem g_icmp_lt (cx : Ok w L E own cc maxL n) {x y : Int32} (hd : decode cc pc = .ok (.if_icmp .lt off, 3)) (ht : (pc : Int) + off = (tgt : Int)) (hf : (if x < y then A else B) = some R0) (ka : A = some R0 → G l w L E M lv tgt st) (kb : B = some R0 → G l w L E M lv (pc + 3) st) : G l w L E M lv pc (.int y :: .int x :: st) :=
  fun H locs ls h1 h2 h3 => lv_icmp_lt cx.1 cx.2.1 hd ht (fun h => ka (if_t hf h) H locs ls h1 h2 h3) (fun h => kb (if_f hf h) H locs ls h1 h2 h3)
theorem g_icmp_ge (cx : Ok w L E own cc maxL n) {x y : Int32} (hd : decode cc pc = .ok (.if_icmp .ge off, 3)) (ht : (pc : Int) + off = (tgt : Int)) (hf : (if x < y then A else B) = some R0) (ka : A = some R0 → G l w L E M lv (pc + 3) st) (kb : B = some R0 → G l w L E M lv tgt st) : G l w L E M lv pc (.int y :: .int x :: st) :=
  fun H locs ls h1 h2 h3 => lv_icmp_ge cx.1 cx.2.1 hd ht (fun h => kb (if_f hf (Int32.not_lt.mpr h)) H locs ls h1 h2 h3) (fun h => ka (if_t hf (Int32.not_le.mp h)) H locs ls h1 h2 h3)
theorem g_icmp_gt (cx : Ok w L E own cc maxL n) {x y : Int32} (hd : decode cc pc = .ok (.if_icmp .gt off, 3)) (ht : (pc : Int) + off = (tgt : Int)) (hf : (if y < x then A else B) = some R0) (ka : A = some R0 → G l w L E M lv tgt st) (kb : B = some R0 → G l w L E M lv (pc + 3) st) : G l w L E M lv pc (.int y :: .int x :: st) :=
  fun H locs ls h1 h2 h3 => lv_icmp_gt cx.1 cx.2.1 hd ht (fun h => ka (if_t hf h) H locs ls h1 h2 h3) (fun h => kb (if_f hf h) H locs ls h1 h2 h3)
theorem g_icmp_le (cx : Ok w L E own cc maxL n) {x y : Int32} (hd : decode cc pc = .ok (.if_icmp .le off, 3)) (ht : (pc : Int) + off = (tgt : Int)) (hf : (if y < x then A else B) = some R0) (ka : A = some R0 → G l w L E M lv (pc + 3) st) (kb : B = some R0 → G l w L E M lv tgt st) : G l w L E M lv pc (.int y :: .int x :: st) :=
  fun H locs ls h1 h2 h3 => lv_icmp_le cx.1 cx.2.1 hd ht (fun h => kb (if_f hf (Int32.not_lt.mpr h)) H locs ls h1 h2 h3) (fun h => ka (if_t hf (Int32.not_le.mp h)) H locs ls h1 h2 h3)
end GB
section GH
variable {l : Launch} {w : Wp} {L : Ly} {E : Cx} {M : Mm} {lv : List (Nat × Value)} {pc : Nat} {st : List Value} {own : String} {cc : ByteArray} {maxL n : Nat} {R0 : Int32 × Mm}
theorem g_getI (cx : Ok w L E own cc maxL n) {a ci N index : Nat} {C ref : String} {T : u_T} (hc : vwCl[ci]? = some (C, T, N)) (hin : ∀ q ∈ u_ws C T N, q ∈ TB) (k : Nat) (hk : k < N) (hlink : Cond.fieldLink own index ref (T k).2.1 (T k).2.2.1 ∈ TB) (hsame : (T k).1 = ref) {ks : List (Option Nat)} (hL : L a = some (gO ci ks)) (hl : k < ks.length) (hks : ks.getD k none = none)
    (hd : decode cc pc = .ok (.getfield index, 3)) (kk : G l w L E M lv (pc + 3) (.int (M a k) :: st)) : G l w L E M lv pc (.ref a :: st) := by
  intro H locs ls h1 h2 h3
  have hP : va_P w.1 vwCl [(a, gO ci ks (M a))] H := fun j q hq => by
    have hj : j < 1 := (List.getElem?_eq_some_iff.mp hq).1
    have hj0 : j = 0 := by omega
    subst hj0
    cases hq
    exact h1 a _ hL
  exact va_get (D := w.1) cx.1 cx.2.1 cx.2.2.2.2.1 hin cx.2.2.2.1 cx.2.2.2.2.2.1.1 hP 0 rfl hc k hk (cx.2.2.2.2.1 _ hlink) (fun x h => by rw [← hsame]; exact h) (v := .int (M a k)) (by rw [fO_get hl, hks]; rfl) hd (kk H locs ls h1 h2 h3)
theorem g_getR (cx : Ok w L E own cc maxL n) {a ci N index b : Nat} {C ref : String} {T : u_T} (hc : vwCl[ci]? = some (C, T, N)) (hin : ∀ q ∈ u_ws C T N, q ∈ TB) (k : Nat) (hk : k < N) (hlink : Cond.fieldLink own index ref (T k).2.1 (T k).2.2.1 ∈ TB) (hsame : (T k).1 = ref) {ks : List (Option Nat)} (hL : L a = some (gO ci ks)) (hl : k < ks.length) (hks : ks.getD k none = some b)
    (hd : decode cc pc = .ok (.getfield index, 3)) (kk : G l w L E M lv (pc + 3) (.ref b :: st)) : G l w L E M lv pc (.ref a :: st) := by
  intro H locs ls h1 h2 h3
  have hP : va_P w.1 vwCl [(a, gO ci ks (M a))] H := fun j q hq => by
    have hj : j < 1 := (List.getElem?_eq_some_iff.mp hq).1
    have hj0 : j = 0 := by omega
    subst hj0
    cases hq
    exact h1 a _ hL
  exact va_get (D := w.1) cx.1 cx.2.1 cx.2.2.2.2.1 hin cx.2.2.2.1 cx.2.2.2.2.2.1.1 hP 0 rfl hc k hk (cx.2.2.2.2.1 _ hlink) (fun x h => by rw [← hsame]; exact h) (v := .ref b) (by rw [fO_get hl, hks]; rfl) hd (kk H locs ls h1 h2 h3)
theorem g_putI (cx : Ok w L E own cc maxL n) {a ci N index : Nat} {C ref : String} {T : u_T} (hc : vwCl[ci]? = some (C, T, N)) (hin : ∀ q ∈ u_ws C T N, q ∈ TB) (ty0 : Nat → FieldType) (hty : ∀ k, k < N → parseFieldDescriptor (T k).2.2.1 = some (ty0 k)) (hnm : ∀ a, a < N → ∀ b, b < N → a ≠ b → (T a).2.1 ≠ (T b).2.1) (k : Nat) (hk : k < N) (hlink : Cond.fieldLink own index ref (T k).2.1 (T k).2.2.1 ∈ TB) (hsame : (T k).1 = ref) (hfin : (T k).2.2.2 = false) (hd0 : parseFieldDescriptor (T k).2.2.1 = some .int) {ks : List (Option Nat)} (hL : L a = some (gO ci ks)) (hl : k < ks.length) (hks : ks.getD k none = none) {x : Int32} {A : Mm → OR}
    (hd : decode cc pc = .ok (.putfield index, 3)) (hf : bnd (mst M a k x) A = some R0) (kk : ∀ M1 : Mm, A M1 = some R0 → G l w L E M1 lv (pc + 3) st) : G l w L E M lv pc (.int x :: .ref a :: st) := by
  intro H locs ls h1 h2 h3
  obtain ⟨r, q0, cell, q1, q2, q3, q4⟩ := h1 a _ hL
  have hr : r = (C, T, N) := Option.some.inj (q0.symm.trans hc)
  subst hr
  have hts := cx.2.2.2.2.1
  have hap := va_apart (own := own) hts hin ty0 hty hnm cx.2.2.2.2.2.1.1 hc
  obtain ⟨hS, hfc, kC, hkC, hkind⟩ := cx.2.2.2.2.2.1.u hc
  obtain ⟨cf, kf, fi, f, hi, hsl⟩ := hS k hk
  have hlay := hts _ (hin _ (u_in_lay hk))
  unfold u_lay at hlay
  rw [if_neg (by rw [hfin]; decide)] at hlay
  have hst := (u_facts hfc hkC (u_lays hts hin hk) hi).1
  have h6 := u_store hfc hkC hkind hlay hi hd0 (v := .int x) rfl rfl
  refine W.putK cx.1 cx.2.1 (f := f) ⟨cx.2.2.2.1, hts _ hlink, ⟨_, _, _, by rw [← hsame]; exact hi⟩, hst⟩ (by rw [q2]; exact h6) q1 q3 (by rw [hsl]; exact k2_hasslot (q4 k hk)) rfl rfl hd fun H' e1 e2 e3 => ?_
  rw [hsl] at e1 ⊢
  have he : va_at w.1 vwCl (a, gO ci ks (upd (M a) k x)) H' := by
    refine ⟨_, hc, t_OB.to (V := updV (vp_V (fO ks (M a))) k (.int x)) ⟨_, e1, q2, q3, t_set q4 hap hk (.int x)⟩ (fun j _ => ?_)⟩
    rw [vp_updV_set (by rw [fO_len]; exact hl)]
    show _ = vp_V (fO ks (upd (M a) k x)) j
    rw [fO_set hks]
  have hM := h1.put hL he e3
  rw [← mst_row] at hM
  exact kk _ hf H' _ ls hM (h2.put e2 e3 (cx.2.2.2.2.2.2.1 a (by rw [hL]; simp))) h3
theorem g_iald (cx : Ok w L E own cc maxL n) {a m : Nat} {i : Int32} {A : OR} (hL : L a = some (gI w m)) (hd : decode cc pc = .ok (.iaload, 1)) (hf : ckd i m A = some R0) (kk : A = some R0 → G l w L E M lv (pc + 1) (.int (M a (ix i)) :: st)) : G l w L E M lv pc (.int i :: .ref a :: st) := by
  intro H locs ls h1 h2 h3
  obtain ⟨hin, hf⟩ := ckd_in hf
  have hlt : i.toNatClampNeg < m := Nat.not_le.mp fun q => hin (Or.inr q)
  have hc : H[a]? = some (arrV w.2.1 m (fun j => .int (M a j))) := h1 a _ hL
  exact W.iald (v := .int (M a (ix i))) cx.1 cx.2.1 hc (cx.2.2.2.2.2.1.i.1 m _) (fun q => by cases q) (by rw [arrV_size]; exact hin) (by rw [arrV_read _ _ hlt]) rfl rfl hd (kk hf H locs ls h1 h2 h3)
theorem g_zald (cx : Ok w L E own cc maxL n) {a m : Nat} {i : Int32} {A : OR} (hL : L a = some (gZ w m)) (hd : decode cc pc = .ok (.baload, 1)) (hf : ckd i m A = some R0) (kk : A = some R0 → G l w L E M lv (pc + 1) (.int (zb (M a (ix i))) :: st)) : G l w L E M lv pc (.int i :: .ref a :: st) := by
  intro H locs ls h1 h2 h3
  obtain ⟨hin, hf⟩ := ckd_in hf
  have hlt : i.toNatClampNeg < m := Nat.not_le.mp fun q => hin (Or.inr q)
  have hc : H[a]? = some (arrV w.2.2.1 m (fun j => .int (zb (M a j)))) := h1 a _ hL
  exact W.zald (v := .int (zb (M a (ix i)))) cx.1 cx.2.1 hc (cx.2.2.2.2.2.1.z.1 m _) (fun q => by cases q) (by rw [arrV_size]; exact hin) (by rw [arrV_read _ _ hlt]) rfl rfl hd (kk hf H locs ls h1 h2 h3)
theorem g_aald (cx : Ok w L E own cc maxL n) {a m : Nat} {i : Int32} {A : OR} (hL : L a = some (gR w m)) (hd : decode cc pc = .ok (.aaload, 1)) (hf : ckd i m A = some R0) (kk : A = some R0 → G l w L E M lv (pc + 1) (.ref (w.2.2.2.2 + 32 * ix (M a (ix i))) :: st)) : G l w L E M lv pc (.int i :: .ref a :: st) := by
  intro H locs ls h1 h2 h3
  obtain ⟨hin, hf⟩ := ckd_in hf
  have hlt : i.toNatClampNeg < m := Nat.not_le.mp fun q => hin (Or.inr q)
  have hc : H[a]? = some (arrV w.2.2.2.1 m (fun j => .ref (w.2.2.2.2 + 32 * ix (M a j)))) := h1 a _ hL
  exact W.aald (v := .ref (w.2.2.2.2 + 32 * ix (M a (ix i)))) (ty := .object RX7) cx.1 cx.2.1 hc (cx.2.2.2.2.2.1.r.1 m _) rfl (fun q => by cases q) (by rw [arrV_size]; exact hin) (by rw [arrV_read _ _ hlt]) rfl rfl hd (kk hf H locs ls h1 h2 h3)
theorem g_iast (cx : Ok w L E own cc maxL n) {a m : Nat} {i x : Int32} {A : Mm → OR} (hL : L a = some (gI w m)) (hd : decode cc pc = .ok (.iastore, 1)) (hf : ckd i m (bnd (mst M a (ix i) x) A) = some R0) (kk : ∀ M1 : Mm, A M1 = some R0 → G l w L E M1 lv (pc + 1) st) : G l w L E M lv pc (.int x :: .int i :: .ref a :: st) := by
  intro H locs ls h1 h2 h3
  obtain ⟨hin, hf⟩ := ckd_in hf
  have hc : H[a]? = some (arrV w.2.1 m (fun j => .int (M a j))) := h1 a _ hL
  refine W.iast cx.1 cx.2.1 hc (cx.2.2.2.2.2.1.i.1 m _) (fun q => by cases q) (by rw [arrV_size]; exact hin) rfl rfl hd fun H1 e z oq => ?_
  have he : va_at w.1 vwCl (a, gI w m (upd (M a) (ix i) x)) H1 := by
    show H1[a]? = some (arrV w.2.1 m (fun j => .int (upd (M a) (ix i) x j)))
    rw [e, arrV_store]
    congr 2
    funext q
    by_cases hq : q = i.toNatClampNeg
    · subst hq; simp [updV, upd]
    · simp [updV, upd, hq]
  have hM := h1.put hL he oq
  rw [← mst_row] at hM
  exact kk _ hf H1 _ ls hM (h2.put z oq (cx.2.2.2.2.2.2.1 a (by rw [hL]; simp))) h3
theorem g_zast (cx : Ok w L E own cc maxL n) {a m : Nat} {i x : Int32} {A : Mm → OR} (hL : L a = some (gZ w m)) (hd : decode cc pc = .ok (.bastore, 1)) (hf : ckd i m (bnd (mst M a (ix i) x) A) = some R0) (kk : ∀ M1 : Mm, A M1 = some R0 → G l w L E M1 lv (pc + 1) st) : G l w L E M lv pc (.int x :: .int i :: .ref a :: st) := by
  intro H locs ls h1 h2 h3
  obtain ⟨hin, hf⟩ := ckd_in hf
  have hc : H[a]? = some (arrV w.2.2.1 m (fun j => .int (zb (M a j)))) := h1 a _ hL
  refine W.zast cx.1 cx.2.1 hc (cx.2.2.2.2.2.1.z.1 m _) (fun q => by cases q) (by rw [arrV_size]; exact hin) rfl rfl hd fun H1 e z oq => ?_
  have he : va_at w.1 vwCl (a, gZ w m (upd (M a) (ix i) x)) H1 := by
    show H1[a]? = some (arrV w.2.2.1 m (fun j => .int (zb (upd (M a) (ix i) x j))))
    rw [e, arrV_store]
    congr 2
    funext q
    by_cases hq : q = i.toNatClampNeg
    · subst hq
      simp [updV, upd, zb]
      try rfl
    · simp [updV, upd, hq]
  have hM := h1.put hL he oq
  rw [← mst_row] at hM
  exact kk _ hf H1 _ ls hM (h2.put z oq (cx.2.2.2.2.2.2.1 a (by rw [hL]; simp))) h3
theorem g_alenZ (cx : Ok w L E own cc maxL n) {a m : Nat} {v : Int32} (hL : L a = some (gZ w m)) (hv : Int32.ofNat m = v) (hd : decode cc pc = .ok (.arraylength, 1)) (kk : G l w L E M lv (pc + 1) (.int v :: st)) : G l w L E M lv pc (.ref a :: st) := by
  intro H locs ls h1 h2 h3
  have hc : H[a]? = some (arrV w.2.2.1 m (fun j => .int (zb (M a j)))) := h1 a _ hL
  exact W.alen cx.1 cx.2.1 hc (cx.2.2.2.2.2.1.z.1 m _) (by rw [arrV_size, ← hv] <;> rfl) rfl rfl hd (kk H locs ls h1 h2 h3)
/-- the store of a wires' address: its number in the pool -/
theorem g_aast (cx : Ok w L E own cc maxL n) {a m : Nat} {i j : Int32} {A : Mm → OR} {ks : List (Option Nat)} (hL : L a = some (gR w m)) (hW : L (w.2.2.2.2 + 32 * ix j) = some (gO 7 ks)) (hd : decode cc pc = .ok (.aastore, 1)) (hf : ckd i m (bnd (mst M a (ix i) j) A) = some R0) (kk : ∀ M1 : Mm, A M1 = some R0 → G l w L E M1 lv (pc + 1) st) : G l w L E M lv pc (.ref (w.2.2.2.2 + 32 * ix j) :: .int i :: .ref a :: st) := by
  intro H locs ls h1 h2 h3
  obtain ⟨hin, hf⟩ := ckd_in hf
  have hlt : i.toNatClampNeg < m := Nat.not_le.mp fun q => hin (Or.inr q)
  have h0 : ¬ i < 0 := fun q => hin (Or.inl q)
  have hc : H[a]? = some (arrV w.2.2.2.1 m (fun j => .ref (w.2.2.2.2 + 32 * ix (M a j)))) := h1 a _ hL
  obtain ⟨r', hr', cellV, g1, g2, g3, -⟩ := h1 _ _ hW
  have hcls := (cx.2.2.2.2.2.1.1.1 7 _ (show vwCl[7]? = some (RX7, TX7, 5) from rfl)).2
  obtain ⟨kA, comp, k1, k2, k3, -⟩ := cx.2.2.2.2.2.1.r.2
  have hcomp : comp = w.1.1 7 := Option.some.inj (k3.symm.trans hcls.1)
  subst hcomp
  obtain ⟨kC, hkC, -⟩ := hcls.2
  refine W.aast cx.1 cx.2.1 hc (fun q h => by cases h) (fun h => by cases h) k1 k2 rfl hkC ⟨h0, by rw [arrV_size]; exact hlt⟩ g1 (fun q h => by rw [g3] at h; cases h) (by rw [g2]; exact hkC) (by rw [g2]; exact va_assign hcls) rfl rfl hd fun H1 e z oq => ?_
  have he : va_at w.1 vwCl (a, gR w m (upd (M a) (ix i) j)) H1 := by
    show H1[a]? = some (arrV w.2.2.2.1 m (fun k => .ref (w.2.2.2.2 + 32 * ix (upd (M a) (ix i) j k))))
    rw [e, arrV_store]
    congr 2
    funext q
    by_cases hq : q = i.toNatClampNeg
    · subst hq; simp [updV, upd]
    · simp [updV, upd, hq]
  have hM := h1.put hL he oq
  rw [← mst_row] at hM
  exact kk _ hf H1 _ ls hM (h2.put z oq (cx.2.2.2.2.2.2.1 a (by rw [hL]; simp))) h3
theorem nn_i (z : Int32) (hz : ¬ z < 0) : z.toInt = (ix z : Int) := by
  have hz0 : (0 : Int) ≤ z.toInt := by
    have := Int32.not_lt.mp hz
    simpa using Int32.le_iff_toInt_le.mp this
  show z.toInt = ((z.toInt.toNat : Nat) : Int)
  omega
theorem cpk_in {sp dp n : Int32} {n0 n1 : Nat} {A : OR} {R0 : Int32 × Mm} (h : cpk sp dp n n0 n1 A = some R0) : ¬ sp < 0 ∧ ¬ dp < 0 ∧ ¬ n < 0 ∧ ix sp + ix n ≤ n0 ∧ ix dp + ix n ≤ n1 ∧ A = some R0 := by
  unfold cpk at h
  split at h
  · cases h
  · rename_i q
    simp only [not_or] at q
    exact ⟨q.1, q.2.1, q.2.2.1, by omega, by omega, h⟩
/-- a row over a row, both of one kind of words -/
theorem g_cpy {ty : FieldType} {cA : ClassId} {mk : Int32 → Value} (cx : Ok w L E own cc maxL n) (hn1 : 1 ≤ n) {index : Nat} (hlink : Cond.methodLink own index arraycopyName ∈ TB) (hnat : Cond.native arraycopyName ∈ TB) (hstat : Cond.static arraycopyName ∈ TB) (hini : Cond.initialized "java/lang/System" ∈ TB)
    {a0 a n0 n1 : Nat} {g0 g1 : (Nat → Int32) → va_E} (hL0 : L a0 = some g0) (hL1 : L a = some g1) (hc0 : ∀ f, va_at w.1 vwCl (a0, g0 f) = fun H => H[a0]? = some (arrV cA n0 (fun j => mk (f j)))) (hc1 : ∀ f, va_at w.1 vwCl (a, g1 f) = fun H => H[a]? = some (arrV cA n1 (fun j => mk (f j)))) (hAr : ArrOfT (xS E) cA ty) (hprim : refKind ty = false) (hfit : ∀ x, fits ty (mk x) = true)
    {sp dp nn : Int32} {A : Mm → OR} (hd : decode cc pc = .ok (.invokestatic index, 3)) (hf : cpk sp dp nn n0 n1 (bnd (mrow M a (va_cpy (M a0) (M a) (ix sp) (ix dp) (ix nn))) A) = some R0) (hst : (st.map fun v => v.category).sum ≤ 8) (kk : ∀ M1 : Mm, A M1 = some R0 → G l w L E M1 lv (pc + 3) st) : G l w L E M lv pc (.int nn :: .int dp :: .ref a :: .int sp :: .ref a0 :: st) := by
  intro H locs ls h1 h2 h3
  obtain ⟨c1, c2, c3, c4, c5, hf⟩ := cpk_in hf
  intro T hT X
  have e0 : H[a0]? = some (arrV cA n0 (fun j => mk (M a0 j))) := by have := h1 a0 _ hL0; rw [hc0] at this; exact this
  have e1 : H[a]? = some (arrV cA n1 (fun j => mk (M a j))) := by have := h1 a _ hL1; rw [hc1] at this; exact this
  obtain ⟨-, k0, hk0, cm0, hkk0⟩ := hAr n0 (fun j => mk (M a0 j))
  obtain ⟨-, k1, hk1, cm1, hkk1⟩ := hAr n1 (fun j => mk (M a j))
  obtain ⟨vm', X', step⟩ := X.arraycopy cx.1 cx.2.2.2.1 (cx.2.2.2.2.1 _ hlink) (cx.2.2.2.2.1 _ hnat) (cx.2.2.2.2.1 _ hstat) (cx.2.2.2.2.1 _ hini) (src := a0) (dst := a) (cs := arrV cA n0 (fun j => mk (M a0 j))) (cd := arrV cA n1 (fun j => mk (M a j))) (srcPos := sp) (destPos := dp) (n := nn) (by rw [hT]; exact e0) (by rw [hT]; exact e1)
    (fun _ h => by cases h) (fun _ h => by cases h) (fun h => by cases h) (fun h => by cases h) hk0 hk1 hkk0 hkk1 (by simp [hprim]) c1 c2 c3
    (by rw [nn_i sp c1, nn_i nn c3, arrV_size]; omega)
    (by rw [nn_i dp c2, nn_i nn c3, arrV_size]; omega)
    (fun vm₁ _ i hi => by
      have hi : i < ix nn := hi
      have e : (arrV cA n0 (fun j => mk (M a0 j))).slots.getD (sp.toNatClampNeg + i) .null = mk (M a0 (sp.toNatClampNeg + i)) := by
        rw [Array.getD_eq_getD_getElem?, arrV_read _ _ (by show ix sp + i < n0; omega)]
        rfl
      refine ⟨?_, ?_⟩
      · rw [e]
        exact hfit _
      · rw [e]
        cases hmk : mk (M a0 (sp.toNatClampNeg + i)) <;> first | exact trivial | (exfalso; have hq := hfit (M a0 (sp.toNatClampNeg + i)); rw [hmk] at hq; cases ty <;> simp [fits, refKind] at hq hprim))
    (g := F0 (xM E) pc ls (.int nn :: .int dp :: .ref a :: .int sp :: .ref a0 :: st)) rfl (by rw [h3.1]) (rest := st) rfl (by rw [cx.2.1]; exact hd) (Nat.le_trans hn1 cx.2.2.2.2.2.2.2.1) (by
      have hw : nativeFrameWords "java/lang/System" "arraycopy" 5 + 11 ≤ 24 := by decide +kernel
      have := cx.2.2.2.2.2.2.2.2.1
      show 2 * 0 + _ + _ ≤ _
      omega)
  have e2 : copied (arrV cA n0 (fun j => mk (M a0 j))) (arrV cA n1 (fun j => mk (M a j))) sp dp nn = arrV cA n1 (fun j => mk (va_cpy (M a0) (M a) (ix sp) (ix dp) (ix nn) j)) := va_copied mk cA cA (M a0) (M a) c4
  rw [e2] at X' step
  have hl : a < H.size := (Array.getElem?_eq_some_iff.mp e1).1
  generalize hH1 : H.setIfInBounds a (arrV cA n1 (fun j => mk (va_cpy (M a0) (M a) (ix sp) (ix dp) (ix nn) j))) = H1
  have hheap : ((T.setVm vm').setCell a (arrV cA n1 (fun j => mk (va_cpy (M a0) (M a) (ix sp) (ix dp) (ix nn) j)))).heap = H1 := by rw [← hH1, ← hT]; rfl
  have oq : ∀ q : Nat, q ≠ a → H1[q]? = H[q]? := fun q hq => by rw [← hH1]; simp [Array.getElem?_setIfInBounds, Ne.symm hq]
  have hz : H1.size = H.size := by rw [← hH1]; simp
  have he : va_at w.1 vwCl (a, g1 (va_cpy (M a0) (M a) (ix sp) (ix dp) (ix nn))) H1 := by
    rw [hc1]
    show H1[a]? = _
    rw [← hH1]
    simp [Array.getElem?_setIfInBounds, hl]
  have hM := h1.put hL1 he oq
  have hA := cx.2.2.2.2.2.2.1 a (by rw [hL1]; simp)
  obtain ⟨t, a1, b1⟩ := kk _ hf H1 _ ls hM ⟨by rw [hz]; exact h2.1, fun q g1 g2 => by
      rw [oq q (fun e => g2 (by rw [e]; exact hA))]
      exact h2.2.1 q g1 g2, fun q hq => by
      rcases List.mem_append.mp hq with h | h
      · exact h2.2.2 q h
      · obtain ⟨z, -, hz⟩ := List.mem_map.mp h
        rw [← hz]
        exact hA⟩ h3 _ hheap X'
  exact ⟨t, step t a1, b1⟩
theorem zb_fits (x : Int32) : fits .boolean (.int (zb x)) = true := by
  have h : zb x = 0 ∨ zb x = 1 := by
    unfold zb
    have := pk_and x (m := 1) 1 (by decide)
    rw [this]
    have h2 : x.toBitVec.toNat % 2 ^ 1 < 2 := Nat.mod_lt _ (by decide)
    rcases (show x.toBitVec.toNat % 2 ^ 1 = 0 ∨ x.toBitVec.toNat % 2 ^ 1 = 1 by omega) with h | h
    · exact Or.inl (by rw [h]; rfl)
    · exact Or.inr (by rw [h]; rfl)
  rcases h with h | h <;> rw [h] <;> rfl
theorem g_cpyI (cx : Ok w L E own cc maxL n) (hn1 : 1 ≤ n) {index : Nat} (hlink : Cond.methodLink own index arraycopyName ∈ TB) {a0 a n0 n1 : Nat} (hL0 : L a0 = some (gI w n0)) (hL1 : L a = some (gI w n1))
    {sp dp nn : Int32} {A : Mm → OR} (hd : decode cc pc = .ok (.invokestatic index, 3)) (hf : cpk sp dp nn n0 n1 (bnd (mrow M a (va_cpy (M a0) (M a) (ix sp) (ix dp) (ix nn))) A) = some R0) (hst : (st.map fun v => v.category).sum ≤ 8) (kk : ∀ M1 : Mm, A M1 = some R0 → G l w L E M1 lv (pc + 3) st) : G l w L E M lv pc (.int nn :: .int dp :: .ref a :: .int sp :: .ref a0 :: st) :=
  g_cpy (mk := fun x => .int x) cx hn1 hlink tb_cpy1 tb_cpy2 tb_cpy3 hL0 hL1 (fun f => rfl) (fun f => rfl) cx.2.2.2.2.2.1.i.1 rfl (fun x => rfl) hd hf hst kk
theorem g_cpyZ (cx : Ok w L E own cc maxL n) (hn1 : 1 ≤ n) {index : Nat} (hlink : Cond.methodLink own index arraycopyName ∈ TB) {a0 a n0 n1 : Nat} (hL0 : L a0 = some (gZ w n0)) (hL1 : L a = some (gZ w n1))
    {sp dp nn : Int32} {A : Mm → OR} (hd : decode cc pc = .ok (.invokestatic index, 3)) (hf : cpk sp dp nn n0 n1 (bnd (mrow M a (va_cpy (M a0) (M a) (ix sp) (ix dp) (ix nn))) A) = some R0) (hst : (st.map fun v => v.category).sum ≤ 8) (kk : ∀ M1 : Mm, A M1 = some R0 → G l w L E M1 lv (pc + 3) st) : G l w L E M lv pc (.int nn :: .int dp :: .ref a :: .int sp :: .ref a0 :: st) :=
  g_cpy (mk := fun x => .int (zb x)) cx hn1 hlink tb_cpy1 tb_cpy2 tb_cpy3 hL0 hL1 (fun f => rfl) (fun f => rfl) cx.2.2.2.2.2.1.z.1 rfl zb_fits hd hf hst kk
theorem g_max (cx : Ok w L E own cc maxL n) (hn1 : 1 ≤ n) {index : Nat} (hlink : Cond.methodLink own index Lib.Math.max.name ∈ TB) {x y : Int32} (hd : decode cc pc = .ok (.invokestatic index, 3)) (hst : (st.map fun v => v.category).sum ≤ 8) (kk : G l w L E M lv (pc + 3) (.int (if x < y then y else x) :: st)) : G l w L E M lv pc (.int y :: .int x :: st) := by
  intro H locs ls h1 h2 h3
  refine va_mmax cx.1 cx.2.1 h3.1.symm cx.2.2.2.1 (cx.2.2.2.2.1 _ hlink) (cx.2.2.2.2.1 _ tb_max1) (cx.2.2.2.2.1 _ tb_max2) (cx.2.2.2.2.1 _ tb_max3) (Nat.le_trans hn1 cx.2.2.2.2.2.2.2.1) ?_ cx.2.2.2.2.2.2.2.2.2.1 cx.2.2.2.2.2.2.2.2.2.2 hd (kk H locs ls h1 h2 h3)
  have := cx.2.2.2.2.2.2.2.2.1
  omega
/-! ends -/
theorem g_iret (cx : Ok w L E own cc maxL n) {rt : FieldType} (en : En w L E (some rt) R0) {x : Int32} (hd : decode cc pc = .ok (.ireturn, 1)) (hn : narrow rt (.int x) = .int x) (hf : some (x, M) = some R0) : G l w L E M lv pc [.int x] := by
  intro H locs ls h1 h2 h3
  cases hf
  obtain ⟨e1, e2, e3, e4⟩ := en
  rw [e1]
  exact W.zret cx.1 cx.2.1 e3 hn (fun t ht hW => ⟨rfl, by rw [ht]; exact h1, by rw [e2] at h2; exact h2.F ht⟩) (by rw [← e2]; exact h2.2.2) hd e4
theorem g_vret (cx : Ok w L E own cc maxL n) (en : En w L E none R0) (hd : decode cc pc = .ok (.return_, 1)) (hf : some (0, M) = some R0) : G l w L E M lv pc [] := by
  intro H locs ls h1 h2 h3
  cases hf
  obtain ⟨e1, e2, e3, e4⟩ := en
  rw [e1]
  exact W.vret cx.1 cx.2.1 e3 (fun t ht hW => ⟨rfl, by rw [ht]; exact h1, by rw [e2] at h2; exact h2.F ht⟩) (by rw [← e2]; exact h2.2.2) hd e4
/-! calls -/
theorem fb_Pc {av : List Value} : FrameBlind (va_Pc av (fun U => HM w L M U.heap ∧ KK w U)) :=
  fun a U g mk q => ⟨q.1, q.2.1, KK.same (u := U) (U := U.calling g mk a) rfl q.2.2⟩
theorem CT_of {y : MethodName} {ret : Option FieldType} {av : List Value} {R1 : Int32 × Mm} (hy : plainName y.cls = true) (hl : (lg_sl av).length ≤ maxL)
    (body : ∀ E : Cx, Ok w L E y.cls cc maxL n → En w L E ret R1 → G l w L E M (lv_args 0 av) 0 []) : CT l w L y cc maxL ret n av M R1 := by
  refine Met.ofW (cc := cc) (maxL := maxL) (ret := ret) hy rfl ?_
  intro p e s m args below meth c s₁ B hml hv
  obtain ⟨rfl, hP, hK⟩ := hv
  have hts := atoms_spec (ws := Cond.code y cc maxL ret :: TB) B.pre
  have hown : s.vm.findClass y.cls = some m.cls := findClass_of_methodNamed B.named
  rw [lg_entry_eq]
  exact body (p, e, rmL n, s, m, av.toArray, below, meth, c, dm L, 0, 0, MQ below (QR w L ret R1) av.toArray s 0 0 (dm L))
    ⟨B.exec, B.bytes, hml, hown, fun w hw => hts w (List.mem_cons_of_mem _ hw), hK, fun q h => h, Nat.le_refl _, Nat.le_refl _, Nat.zero_le _, Nat.zero_le _⟩
    ⟨rfl, rfl, B.returns, B.notSynchronized⟩ s.heap [] _ hP va_S.rf (by show lv_has _ c.maxLocals _; rw [hml]; exact lv_entry av hl)
/-- behind a call -/
theorem g_back {av : List Value} {rt : Option FieldType} {R1 : Int32 × Mm} {H : Heap} {locs : List Loc} {ls : Array Slot} {stk : List Value} (cx : Ok w L E own cc maxL n) (h2 : va_S (xF E) (xS E).heap H locs) (h3 : lv_has ls (xC E).maxLocals lv)
    (hr : va_Run (xP E) l (xE E) (xR E) (xS E) (xM E) (xA E) (xB E) (xY E) (xC E) H locs (xN E) (xT E) 0 0 (F0 (xM E) pc ls stk) st (QR w L rt R1 av.toArray) (dm L))
    (kk : G l w L E R1.2 lv (pc + 3) ((rt.map fun _ => Value.int R1.1).toList ++ st)) : W (xP E) l (xE E) (xR E) (xS E) (xM E) (xA E) (xB E) (xY E) (xC E) H locs (xN E) (xT E) (xQ E) (F0 (xM E) pc ls stk) := by
  intro T hT X
  obtain ⟨v, st₀, t, T', Lw, h0, X', hL, e1, e2, ⟨hv, hb, hz, hk⟩, stp⟩ := hr T hT X
  cases hv
  rw [h0] at hz hk
  have sub := cx.2.2.2.2.2.2.1
  obtain ⟨t2, a1, b1⟩ := kk T'.heap (locs ++ Lw) ls (by rw [e1]; exact hb)
    ⟨Nat.le_trans h2.1 (by rw [e1]; exact hz), fun q h4 h5 => by rw [e1, hk q (Nat.lt_of_lt_of_le h4 h2.1) (fun z => h5 (sub q z))]; exact h2.2.1 q h4 h5, fun q hq => by
      rcases List.mem_append.mp hq with h | h
      · exact h2.2.2 q h
      · exact sub _ (hL q h)⟩ h3 T' rfl X'
  exact ⟨t2, stp t2 a1, b1⟩
/-- the words of a call's callee, n1 its depth -/
theorem rm_fit {n1 maxL1 : Nat} (cx : Ok w L E own cc maxL n) (h : n1 + 1 ≤ n) (hm : maxL1 ≤ 13) : (rmL n1).frames + 1 ≤ (xR E).frames ∧ 8 + (maxL1 + 11) + (rmL n1).locals ≤ (xR E).locals := by
  have h4 := cx.2.2.2.2.2.2.2.1
  have h5 := cx.2.2.2.2.2.2.2.2.1
  refine ⟨?_, ?_⟩
  · show n1 + 1 ≤ _; omega
  · show 8 + (maxL1 + 11) + 32 * n1 ≤ _; omega
theorem pay_tb {y : MethodName} {c1 : ByteArray} {m1 : Nat} {rt : Option FieldType} {s : State} {args : Array Value} (hts : ∀ w ∈ TB, w.before args s = true) (hcode : Cond.code y c1 m1 rt ∈ TB) :
    ∀ w ∈ Cond.code y c1 m1 rt :: TB, ∀ (a' : Array Value) (U : State), s.WarmedH U.vm → w.before a' U = true := by
  intro w hw a' U hW
  have hm : w ∈ TB := by
    rcases List.mem_cons.mp hw with rfl | h
    · exact hcode
    · exact h
  exact word_at hW (good_of_word (tb_g hm)) (hts w hm)
def LkV (own : String) (index : Nat) (C : String) (y : MethodName) (c1 : ByteArray) (m1 : Nat) (rt : Option FieldType) (k : Nat) : Prop :=
  Cond.methodLink own index y ∈ TB ∧ Cond.instanceMethod y ∈ TB ∧ Cond.selects C y y ∈ TB ∧ Cond.initialized y.cls ∈ TB ∧ Cond.code y c1 m1 rt ∈ TB ∧ (y.cls ≠ "java/lang/invoke/MethodHandle" ∧ y.cls ≠ "java/lang/invoke/VarHandle" ∧ (parseMethodDescriptor y.desc).map (fun d => d.parameters.length) = some k) ∧ m1 ≤ 13
theorem g_callV {index : Nat} {C : String} {y : MethodName} {c1 : ByteArray} {m1 n1 ci : Nat} {rt : Option FieldType} {As : List Value} {b : Nat} {R1 : Int32 × Mm} {ks : List (Option Nat)} {T : u_T} {N : Nat} (cx : Ok w L E own cc maxL n) (lk : LkV own index C y c1 m1 rt As.length) (hc : vwCl[ci]? = some (C, T, N)) (hL : L b = some (gO ci ks)) (hn : n1 + 1 ≤ n)
    (hM : CT l w L y c1 m1 rt n1 (.ref b :: As) M R1) (hd : decode cc pc = .ok (.invokevirtual index, 3)) (hst : (st.map fun v => v.category).sum ≤ 8) (kk : G l w L E R1.2 lv (pc + 3) ((rt.map fun _ => Value.int R1.1).toList ++ st)) : G l w L E M lv pc (As.reverse ++ .ref b :: st) := by
  intro H locs ls h1 h2 h3
  obtain ⟨k1, k2, k3, k4, k5, ⟨k6, k7, k8⟩, k9⟩ := lk
  have hts := cx.2.2.2.2.1
  have hfit := rm_fit cx hn k9
  refine g_back cx h2 h3 (va_runV (As := As) (rest := st) (b := b) (nL := maxL) (C := C) (n := As.length) ⟨cx.1, cx.2.1, cx.2.2.1, cx.2.2.2.1, hts⟩ hM ⟨⟨rfl, rfl, hfit.1, hfit.2, pay_tb hts k5, List.mem_cons_self, hts _ k5, hts _ k4, ⟨k6, k7⟩, fun sig h => ?_, hts _ k1⟩, hts _ k2, hts _ k3⟩ ⟨fb_Pc, ?_, fun U hU hW => ⟨rfl, by rw [hU]; exact h1, cx.2.2.2.2.2.1.warm hW⟩⟩ rfl rfl (by rw [← cx.2.2.1]; exact h3.1) rfl (lv_room hst) hd ⟨cx.2.2.2.2.2.2.2.2.2.1, cx.2.2.2.2.2.2.2.2.2.2⟩) kk
  · rw [h] at k8
    exact (Option.some.inj k8).symm
  · obtain ⟨q', g0, cell, g1, g2, g3, -⟩ := h1 b _ hL
    exact ⟨cell, g1, by rw [g3]; rfl, by rw [g2]; exact (cx.2.2.2.2.2.1.1.1 ci _ hc).2.1⟩
def LkS (own : String) (index : Nat) (y : MethodName) (c1 : ByteArray) (m1 : Nat) (rt : Option FieldType) (k : Nat) : Prop :=
  Cond.methodLink own index y ∈ TB ∧ Cond.static y ∈ TB ∧ Cond.initialized y.cls ∈ TB ∧ Cond.code y c1 m1 rt ∈ TB ∧ (y.cls ≠ "java/lang/invoke/MethodHandle" ∧ y.cls ≠ "java/lang/invoke/VarHandle" ∧ (parseMethodDescriptor y.desc).map (fun d => d.parameters.length) = some k) ∧ m1 ≤ 13
theorem g_callS {index : Nat} {y : MethodName} {c1 : ByteArray} {m1 n1 : Nat} {rt : Option FieldType} {As : List Value} {R1 : Int32 × Mm} (cx : Ok w L E own cc maxL n) (lk : LkS own index y c1 m1 rt As.length) (hn : n1 + 1 ≤ n)
    (hM : CT l w L y c1 m1 rt n1 As M R1) (hd : decode cc pc = .ok (.invokestatic index, 3)) (hst : (st.map fun v => v.category).sum ≤ 8) (kk : G l w L E R1.2 lv (pc + 3) ((rt.map fun _ => Value.int R1.1).toList ++ st)) : G l w L E M lv pc (As.reverse ++ st) := by
  intro H locs ls h1 h2 h3
  obtain ⟨k1, k2, k4, k5, ⟨k6, k7, k8⟩, k9⟩ := lk
  have hts := cx.2.2.2.2.1
  have hfit := rm_fit cx hn k9
  refine g_back cx h2 h3 (va_runS (As := As) (rest := st) (nL := maxL) (n := As.length) ⟨cx.1, cx.2.1, cx.2.2.1, cx.2.2.2.1, hts⟩ hM ⟨⟨rfl, rfl, hfit.1, hfit.2, pay_tb hts k5, List.mem_cons_self, hts _ k5, hts _ k4, ⟨k6, k7⟩, fun sig h => ?_, hts _ k1⟩, hts _ k2⟩ ⟨fb_Pc, fun U hU hW => ⟨rfl, by rw [hU]; exact h1, cx.2.2.2.2.2.1.warm hW⟩⟩ rfl rfl (by rw [← cx.2.2.1]; exact h3.1) rfl (lv_room hst) hd ⟨cx.2.2.2.2.2.2.2.2.2.1, cx.2.2.2.2.2.2.2.2.2.2⟩) kk
  rw [h] at k8
  exact (Option.some.inj k8).symm
def LkN (own : String) (index : Nat) (host : String) (y : MethodName) (c1 : ByteArray) (m1 : Nat) (rt : Option FieldType) (k : Nat) : Prop :=
  Cond.methodLinkNest own index y host ∈ nwL ∧ Cond.static y ∈ TB ∧ Cond.initialized y.cls ∈ TB ∧ Cond.code y c1 m1 rt ∈ TB ∧ (y.cls ≠ "java/lang/invoke/MethodHandle" ∧ y.cls ≠ "java/lang/invoke/VarHandle" ∧ (parseMethodDescriptor y.desc).map (fun d => d.parameters.length) = some k) ∧ m1 ≤ 13
theorem g_callN {index : Nat} {host : String} {y : MethodName} {c1 : ByteArray} {m1 n1 : Nat} {rt : Option FieldType} {As : List Value} {R1 : Int32 × Mm} (cx : Ok w L E own cc maxL n) (lk : LkN own index host y c1 m1 rt As.length) (hn : n1 + 1 ≤ n)
    (hM : CT l w L y c1 m1 rt n1 As M R1) (hd : decode cc pc = .ok (.invokestatic index, 3)) (hst : (st.map fun v => v.category).sum ≤ 8) (kk : G l w L E R1.2 lv (pc + 3) ((rt.map fun _ => Value.int R1.1).toList ++ st)) : G l w L E M lv pc (As.reverse ++ st) := by
  intro H locs ls h1 h2 h3
  obtain ⟨k1, k2, k4, k5, ⟨k6, k7, k8⟩, k9⟩ := lk
  have hts := cx.2.2.2.2.1
  have hfit := rm_fit cx hn k9
  refine g_back cx h2 h3 (va_runSN (As := As) (rest := st) (nL := maxL) (n := As.length) (host := host) ⟨cx.1, cx.2.1, cx.2.2.1, cx.2.2.2.1, hts⟩ hM ⟨⟨⟨rfl, rfl, hfit.1, hfit.2, pay_tb hts k5, List.mem_cons_self⟩, hts _ k5, hts _ k4, ⟨k6, k7⟩, fun sig h => ?_, va_Nw.use rfl (cx.2.2.2.2.2.1.2 _ k1)⟩, hts _ k2, trivial⟩ ⟨fb_Pc, fun U hU hW => ⟨rfl, by rw [hU]; exact h1, cx.2.2.2.2.2.1.warm hW⟩⟩ rfl rfl (by rw [← cx.2.2.1]; exact h3.1) rfl (lv_room hst) hd ⟨cx.2.2.2.2.2.2.2.2.2.1, cx.2.2.2.2.2.2.2.2.2.2⟩) kk
  rw [h] at k8
  exact (Option.some.inj k8).symm
end GH

/-! for the walks' programs -/
def wck (e : Int32) (A : OR) : OR := if ix e < 5 then A else none
def zrk (x : Int32) (A : OR) : OR := if zb x = x then A else none
def jrem (x y : Int32) : Int32 := x - x / y * y
def FU : Nat := 4000
theorem obn_some2 {x : OR} {k : Int32 → Mm → OR} {R0 : Int32 × Mm} (h : obn x k = some R0) : ∃ (r : Int32) (M1 : Mm), x = some (r, M1) ∧ k r M1 = some R0 := by
  obtain ⟨⟨r, M1⟩, h1, h2⟩ := obn_some h
  exact ⟨r, M1, h1, h2⟩
theorem wck_in {e : Int32} {A : OR} {R0 : Int32 × Mm} (h : wck e A = some R0) : ix e < 5 ∧ A = some R0 := by
  unfold wck at h
  split at h
  · rename_i q
    exact ⟨q, h⟩
  · cases h
theorem zrk_in {x : Int32} {A : OR} {R0 : Int32 × Mm} (h : zrk x A = some R0) : zb x = x ∧ A = some R0 := by
  unfold zrk at h
  split at h
  · rename_i q
    exact ⟨q, h⟩
  · cases h
section GP
variable {l : Launch} {w : Wp} {L : Ly} {E : Cx} {M : Mm} {lv : List (Nat × Value)} {pc : Nat} {st : List Value} {own : String} {cc : ByteArray} {maxL n : Nat} {R0 : Int32 × Mm} {A B : OR} {off : Int} {tgt : Nat}
theorem g_jrem (cx : Ok w L E own cc maxL n) {x y : Int32} (hd : decode cc pc = .ok (.irem, 1)) (hy : ¬ y = 0) (k : G l w L E M lv (pc + 1) (.int (jrem x y) :: st)) : G l w L E M lv pc (.int y :: .int x :: st) := g_irem cx hd hy k
theorem g_aaldH (cx : Ok w L E own cc maxL n) {a m b0 : Nat} {i : Int32} {F : Int32 → OR} (hL : L a = some (gR w m)) (hb : w.2.2.2.2 = b0) (hd : decode cc pc = .ok (.aaload, 1)) (hf : ckd i m (bnd (M a (ix i)) fun r => wck r (F r)) = some R0) (kk : ∀ r : Int32, ix r < 5 → F r = some R0 → G l w L E M lv (pc + 1) (.ref (b0 + 32 * ix r) :: st)) : G l w L E M lv pc (.int i :: .ref a :: st) := by
  subst hb
  exact g_aald cx hL hd hf fun hf => kk _ (wck_in hf).1 (wck_in hf).2
theorem g_aastH (cx : Ok w L E own cc maxL n) {a m b0 : Nat} {i j : Int32} {F : Mm → OR} {ks : List (Option Nat)} (hL : L a = some (gR w m)) (hb : w.2.2.2.2 = b0) (hW : L (b0 + 32 * ix j) = some (gO 7 ks)) (hd : decode cc pc = .ok (.aastore, 1)) (hf : ckd i m (bnd (mst M a (ix i) j) F) = some R0) (kk : ∀ M1 : Mm, F M1 = some R0 → G l w L E M1 lv (pc + 1) st) : G l w L E M lv pc (.ref (b0 + 32 * ix j) :: .int i :: .ref a :: st) := by
  subst hb
  exact g_aast cx hL hW hd hf kk
theorem g_zret (cx : Ok w L E own cc maxL n) (en : En w L E (some .boolean) R0) {x : Int32} (hd : decode cc pc = .ok (.ireturn, 1)) (hf : zrk x (some (x, M)) = some R0) : G l w L E M lv pc [.int x] := by
  obtain ⟨h1, h2⟩ := zrk_in hf
  exact g_iret cx en hd (show Value.int (zb x) = .int x by rw [h1]) h2
theorem g_swk (cx : Ok w L E own cc maxL n) {dflt lo hi : Int} {offs : Array Int} {len : Nat} {x kx : Int32} (hd : decode cc pc = .ok (.tableswitch dflt lo hi offs, len)) (h1 : ¬ kx.toInt < lo) (h2 : ¬ hi < kx.toInt) (ho : offs[(kx.toInt - lo).toNat]? = some off) (ht : (pc : Int) + off = (tgt : Int)) (hf : (if x = kx then A else B) = some R0) (ka : A = some R0 → G l w L E M lv tgt st) (kb : ¬ x = kx → B = some R0 → G l w L E M lv pc (.int x :: st)) : G l w L E M lv pc (.int x :: st) := by
  by_cases h : x = kx
  · subst h
    intro H locs ls q1 q2 q3
    exact lv_tableIn cx.1 cx.2.1 hd h1 h2 ho ht (ka (if_t hf rfl) H locs ls q1 q2 q3)
  · exact kb h (if_f hf h)
theorem g_swo (cx : Ok w L E own cc maxL n) {dflt lo hi : Int} {offs : Array Int} {len : Nat} {x : Int32} (hd : decode cc pc = .ok (.tableswitch dflt lo hi offs, len)) (h : x.toInt < lo ∨ hi < x.toInt) (ht : (pc : Int) + dflt = (tgt : Int)) (k : G l w L E M lv tgt st) : G l w L E M lv pc (.int x :: st) :=
  fun H locs ls q1 q2 q3 => lv_tableOut cx.1 cx.2.1 hd h ht (k H locs ls q1 q2 q3)
theorem g_lks (cx : Ok w L E own cc maxL n) {dflt : Int} {ps : Array (Int × Int)} {len : Nat} {x kx : Int32} (hd : decode cc pc = .ok (.lookupswitch dflt ps, len)) (hp : (ps.toList.zip (ps.toList.drop 1)).all (fun (a, next) => a.1 < next.1) = true) (ho : Op.lookupswitch.offset ps.toList dflt kx.toInt = off) (ht : (pc : Int) + off = (tgt : Int)) (hf : (if x = kx then A else B) = some R0) (ka : A = some R0 → G l w L E M lv tgt st) (kb : ¬ x = kx → B = some R0 → G l w L E M lv pc (.int x :: st)) : G l w L E M lv pc (.int x :: st) := by
  by_cases h : x = kx
  · subst h
    intro H locs ls q1 q2 q3
    exact lv_lookup cx.1 cx.2.1 hd hp ho ht (ka (if_t hf rfl) H locs ls q1 q2 q3)
  · exact kb h (if_f hf h)
theorem g_lko (cx : Ok w L E own cc maxL n) {dflt : Int} {ps : Array (Int × Int)} {len : Nat} {x : Int32} (hd : decode cc pc = .ok (.lookupswitch dflt ps, len)) (hp : (ps.toList.zip (ps.toList.drop 1)).all (fun (a, next) => a.1 < next.1) = true) (ho : Op.lookupswitch.offset ps.toList dflt x.toInt = off) (ht : (pc : Int) + off = (tgt : Int)) (k : G l w L E M lv tgt st) : G l w L E M lv pc (.int x :: st) :=
  fun H locs ls q1 q2 q3 => lv_lookup cx.1 cx.2.1 hd hp ho ht (k H locs ls q1 q2 q3)
variable {index : Nat} {C : String} {y : MethodName} {c1 : ByteArray} {m1 n1 ci : Nat} {rt : FieldType} {b : Nat} {r : Int32} {M1 : Mm} {ks : List (Option Nat)} {T : u_T} {N : Nat} {host : String}
theorem g_callVi (As : List Value) (st : List Value) (cx : Ok w L E own cc maxL n) (lk : LkV own index C y c1 m1 (some rt) As.length) (hc : vwCl[ci]? = some (C, T, N)) (hL : L b = some (gO ci ks)) (hn : n1 + 1 ≤ n)
    (hM : CT l w L y c1 m1 (some rt) n1 (.ref b :: As) M (r, M1)) (hd : decode cc pc = .ok (.invokevirtual index, 3)) (hst : (st.map fun v => v.category).sum ≤ 8) (kk : G l w L E M1 lv (pc + 3) (.int r :: st)) : G l w L E M lv pc (As.reverse ++ .ref b :: st) := g_callV cx lk hc hL hn hM hd hst kk
theorem g_callVv (As : List Value) (st : List Value) (cx : Ok w L E own cc maxL n) (lk : LkV own index C y c1 m1 none As.length) (hc : vwCl[ci]? = some (C, T, N)) (hL : L b = some (gO ci ks)) (hn : n1 + 1 ≤ n)
    (hM : CT l w L y c1 m1 none n1 (.ref b :: As) M (r, M1)) (hd : decode cc pc = .ok (.invokevirtual index, 3)) (hst : (st.map fun v => v.category).sum ≤ 8) (kk : G l w L E M1 lv (pc + 3) st) : G l w L E M lv pc (As.reverse ++ .ref b :: st) := g_callV cx lk hc hL hn hM hd hst kk
theorem g_callSi (As : List Value) (st : List Value) (cx : Ok w L E own cc maxL n) (lk : LkS own index y c1 m1 (some rt) As.length) (hn : n1 + 1 ≤ n)
    (hM : CT l w L y c1 m1 (some rt) n1 As M (r, M1)) (hd : decode cc pc = .ok (.invokestatic index, 3)) (hst : (st.map fun v => v.category).sum ≤ 8) (kk : G l w L E M1 lv (pc + 3) (.int r :: st)) : G l w L E M lv pc (As.reverse ++ st) := g_callS cx lk hn hM hd hst kk
theorem g_callNi (As : List Value) (st : List Value) (cx : Ok w L E own cc maxL n) (lk : LkN own index host y c1 m1 (some rt) As.length) (hn : n1 + 1 ≤ n)
    (hM : CT l w L y c1 m1 (some rt) n1 As M (r, M1)) (hd : decode cc pc = .ok (.invokestatic index, 3)) (hst : (st.map fun v => v.category).sum ≤ 8) (kk : G l w L E M1 lv (pc + 3) (.int r :: st)) : G l w L E M lv pc (As.reverse ++ st) := g_callN cx lk hn hM hd hst kk
end GP
end
section
def ksNet (a : Nat) : List (Option Nat) := [none, none, some (a + 1), some (a + 2), some (a + 3), some (a + 4), some (a + 5), some (a + 6)]
def LNet (w : Wp) (L : Ly) (a : Nat) : Prop := L a = some (gO 2 (ksNet a)) ∧ L (a + 1) = some (gI w 10) ∧ L (a + 2) = some (gI w 16) ∧ L (a + 3) = some (gI w 16) ∧ L (a + 4) = some (gZ w 16) ∧ L (a + 5) = some (gI w 10) ∧ L (a + 6) = some (gZ w 10)
theorem LNet_o {w : Wp} {L : Ly} {a : Nat} (h : LNet w L a) : L a = some (gO 2 (ksNet a)) := h.1
theorem LNet_feeder {w : Wp} {L : Ly} {a : Nat} (h : LNet w L a) : L (a + 1) = some (gI w 10) := h.2.1
theorem LNet_one {w : Wp} {L : Ly} {a : Nat} (h : LNet w L a) : L (a + 2) = some (gI w 16) := h.2.2.1
theorem LNet_other {w : Wp} {L : Ly} {a : Nat} (h : LNet w L a) : L (a + 3) = some (gI w 16) := h.2.2.2.1
theorem LNet_closed {w : Wp} {L : Ly} {a : Nat} (h : LNet w L a) : L (a + 4) = some (gZ w 16) := h.2.2.2.2.1
theorem LNet_lowest {w : Wp} {L : Ly} {a : Nat} (h : LNet w L a) : L (a + 5) = some (gI w 10) := h.2.2.2.2.2.1
theorem LNet_live {w : Wp} {L : Ly} {a : Nat} (h : LNet w L a) : L (a + 6) = some (gZ w 10) := h.2.2.2.2.2.2
def ksService (a : Nat) : List (Option Nat) := [none, none, none, some (a + 1), some (a + 2), some (a + 3), some (a + 4), some (a + 5), some (a + 6), some (a + 7)]
def LService (w : Wp) (L : Ly) (a : Nat) : Prop := L a = some (gO 5 (ksService a)) ∧ L (a + 1) = some (gI w 10) ∧ L (a + 2) = some (gZ w 10) ∧ L (a + 3) = some (gZ w 10) ∧ L (a + 4) = some (gZ w 10) ∧ L (a + 5) = some (gI w 10) ∧ L (a + 6) = some (gI w 10) ∧ L (a + 7) = some (gI w 10)
theorem LService_o {w : Wp} {L : Ly} {a : Nat} (h : LService w L a) : L a = some (gO 5 (ksService a)) := h.1
theorem LService_needed {w : Wp} {L : Ly} {a : Nat} (h : LService w L a) : L (a + 1) = some (gI w 10) := h.2.1
theorem LService_bridged {w : Wp} {L : Ly} {a : Nat} (h : LService w L a) : L (a + 2) = some (gZ w 10) := h.2.2.1
theorem LService_earthed {w : Wp} {L : Ly} {a : Nat} (h : LService w L a) : L (a + 3) = some (gZ w 10) := h.2.2.2.1
theorem LService_gang {w : Wp} {L : Ly} {a : Nat} (h : LService w L a) : L (a + 4) = some (gZ w 10) := h.2.2.2.2.1
theorem LService_brought {w : Wp} {L : Ly} {a : Nat} (h : LService w L a) : L (a + 5) = some (gI w 10) := h.2.2.2.2.2.1
theorem LService_until {w : Wp} {L : Ly} {a : Nat} (h : LService w L a) : L (a + 6) = some (gI w 10) := h.2.2.2.2.2.2.1
theorem LService_tools {w : Wp} {L : Ly} {a : Nat} (h : LService w L a) : L (a + 7) = some (gI w 10) := h.2.2.2.2.2.2.2
def ksLog (a : Nat) : List (Option Nat) := [none, none, some (a + 1), some (a + 2), some (a + 3), some (a + 4), some (a + 5), some (a + 6), some (a + 7)]
def LLog (w : Wp) (L : Ly) (a : Nat) : Prop := L a = some (gO 1 (ksLog a)) ∧ L (a + 1) = some (gI w 24) ∧ L (a + 2) = some (gI w 24) ∧ L (a + 3) = some (gI w 24) ∧ L (a + 4) = some (gI w 10) ∧ L (a + 5) = some (gZ w 16) ∧ L (a + 6) = some (gI w 10) ∧ L (a + 7) = some (gZ w 16)
theorem LLog_o {w : Wp} {L : Ly} {a : Nat} (h : LLog w L a) : L a = some (gO 1 (ksLog a)) := h.1
theorem LLog_kinds {w : Wp} {L : Ly} {a : Nat} (h : LLog w L a) : L (a + 1) = some (gI w 24) := h.2.1
theorem LLog_places {w : Wp} {L : Ly} {a : Nat} (h : LLog w L a) : L (a + 2) = some (gI w 24) := h.2.2.1
theorem LLog_times {w : Wp} {L : Ly} {a : Nat} (h : LLog w L a) : L (a + 3) = some (gI w 24) := h.2.2.2.1
theorem LLog_feederAhead {w : Wp} {L : Ly} {a : Nat} (h : LLog w L a) : L (a + 4) = some (gI w 10) := h.2.2.2.2.1
theorem LLog_closedAhead {w : Wp} {L : Ly} {a : Nat} (h : LLog w L a) : L (a + 5) = some (gZ w 16) := h.2.2.2.2.2.1
theorem LLog_feederTold {w : Wp} {L : Ly} {a : Nat} (h : LLog w L a) : L (a + 6) = some (gI w 10) := h.2.2.2.2.2.2.1
theorem LLog_closedTold {w : Wp} {L : Ly} {a : Nat} (h : LLog w L a) : L (a + 7) = some (gZ w 16) := h.2.2.2.2.2.2.2
def ksWires (a : Nat) : List (Option Nat) := [some (a + 1), some (a + 8), some (a + 16), some (a + 24), some (a + 31)]
def LWires (w : Wp) (L : Ly) (a : Nat) : Prop := L a = some (gO 7 (ksWires a)) ∧ LNet w L (a + 1) ∧ LService w L (a + 8) ∧ LLog w L (a + 16) ∧ LNet w L (a + 24) ∧ L (a + 31) = some (gZ w 10)
theorem LWires_o {w : Wp} {L : Ly} {a : Nat} (h : LWires w L a) : L a = some (gO 7 (ksWires a)) := h.1
theorem LWires_net {w : Wp} {L : Ly} {a : Nat} (h : LWires w L a) : LNet w L (a + 1) := h.2.1
theorem LWires_service {w : Wp} {L : Ly} {a : Nat} (h : LWires w L a) : LService w L (a + 8) := h.2.2.1
theorem LWires_log {w : Wp} {L : Ly} {a : Nat} (h : LWires w L a) : LLog w L (a + 16) := h.2.2.2.1
theorem LWires_supposed {w : Wp} {L : Ly} {a : Nat} (h : LWires w L a) : LNet w L (a + 24) := h.2.2.2.2.1
theorem LWires_reached {w : Wp} {L : Ly} {a : Nat} (h : LWires w L a) : L (a + 31) = some (gZ w 10) := h.2.2.2.2.2
def ksHistory (a : Nat) : List (Option Nat) := [none, some (a + 1)]
def LHistory (w : Wp) (L : Ly) (a : Nat) : Prop := L a = some (gO 0 (ksHistory a)) ∧ L (a + 1) = some (gR w 5) ∧ w.2.2.2.2 = a + 2 ∧ ∀ j : Nat, j < 5 → LWires w L (a + 2 + 32 * j)
theorem LHistory_o {w : Wp} {L : Ly} {a : Nat} (h : LHistory w L a) : L a = some (gO 0 (ksHistory a)) := h.1
theorem LHistory_states {w : Wp} {L : Ly} {a : Nat} (h : LHistory w L a) : L (a + 1) = some (gR w 5) := h.2.1
theorem LHistory_b {w : Wp} {L : Ly} {a : Nat} (h : LHistory w L a) : w.2.2.2.2 = a + 2 := h.2.2.1
theorem LHistory_w {w : Wp} {L : Ly} {a : Nat} (h : LHistory w L a) : ∀ j : Nat, j < 5 → LWires w L (a + 2 + 32 * j) := h.2.2.2
def ksText (a : Nat) : List (Option Nat) := [none, some (a + 1), none, none, none]
def LText (w : Wp) (L : Ly) (a : Nat) : Prop := L a = some (gO 6 (ksText a)) ∧ L (a + 1) = some (gI w 60)
theorem LText_o {w : Wp} {L : Ly} {a : Nat} (h : LText w L a) : L a = some (gO 6 (ksText a)) := h.1
theorem LText_characters {w : Wp} {L : Ly} {a : Nat} (h : LText w L a) : L (a + 1) = some (gI w 60) := h.2
def ksPlan (a : Nat) : List (Option Nat) := [none, some (a + 1), some (a + 2)]
def LPlan (w : Wp) (L : Ly) (a : Nat) : Prop := L a = some (gO 3 (ksPlan a)) ∧ L (a + 1) = some (gI w 19) ∧ L (a + 2) = some (gI w 19)
theorem LPlan_o {w : Wp} {L : Ly} {a : Nat} (h : LPlan w L a) : L a = some (gO 3 (ksPlan a)) := h.1
theorem LPlan_kinds {w : Wp} {L : Ly} {a : Nat} (h : LPlan w L a) : L (a + 1) = some (gI w 19) := h.2.1
theorem LPlan_places {w : Wp} {L : Ly} {a : Nat} (h : LPlan w L a) : L (a + 2) = some (gI w 19) := h.2.2
def ksRehearsal (a : Nat) : List (Option Nat) := [some (a + 1), none, none, none]
def LRehearsal (w : Wp) (L : Ly) (a : Nat) : Prop := L a = some (gO 4 (ksRehearsal a)) ∧ LWires w L (a + 1)
theorem LRehearsal_o {w : Wp} {L : Ly} {a : Nat} (h : LRehearsal w L a) : L a = some (gO 4 (ksRehearsal a)) := h.1
theorem LRehearsal_wires {w : Wp} {L : Ly} {a : Nat} (h : LRehearsal w L a) : LWires w L (a + 1) := h.2
def ksTramWires (a : Nat) : List (Option Nat) := [some (a + 1), some (a + 33), some (a + 195), some (a + 197), some (a + 200)]
def LTramWires (w : Wp) (L : Ly) (a : Nat) : Prop := L a = some (gO 8 (ksTramWires a)) ∧ LWires w L (a + 1) ∧ LHistory w L (a + 33) ∧ LText w L (a + 195) ∧ LPlan w L (a + 197) ∧ LRehearsal w L (a + 200)
theorem LTramWires_o {w : Wp} {L : Ly} {a : Nat} (h : LTramWires w L a) : L a = some (gO 8 (ksTramWires a)) := h.1
theorem LTramWires_now {w : Wp} {L : Ly} {a : Nat} (h : LTramWires w L a) : LWires w L (a + 1) := h.2.1
theorem LTramWires_history {w : Wp} {L : Ly} {a : Nat} (h : LTramWires w L a) : LHistory w L (a + 33) := h.2.2.1
theorem LTramWires_text {w : Wp} {L : Ly} {a : Nat} (h : LTramWires w L a) : LText w L (a + 195) := h.2.2.2.1
theorem LTramWires_outPlan {w : Wp} {L : Ly} {a : Nat} (h : LTramWires w L a) : LPlan w L (a + 197) := h.2.2.2.2.1
theorem LTramWires_rehearsal {w : Wp} {L : Ly} {a : Nat} (h : LTramWires w L a) : LRehearsal w L (a + 200) := h.2.2.2.2.2
def ksTramWiresModel (a : Nat) : List (Option Nat) := [some (a + 1), some (a + 2), some (a + 3), none, some (a + 4), none, some (a + 5), none, none, none, none, none, none]
def LTramWiresModel (w : Wp) (L : Ly) (a : Nat) : Prop := L a = some (gO 9 (ksTramWiresModel a)) ∧ L (a + 1) = some (gI w 233) ∧ L (a + 2) = some (gI w 1165) ∧ L (a + 3) = some (gI w 233) ∧ L (a + 4) = some (gI w 60) ∧ L (a + 5) = some (gI w 19)
theorem LTramWiresModel_o {w : Wp} {L : Ly} {a : Nat} (h : LTramWiresModel w L a) : L a = some (gO 9 (ksTramWiresModel a)) := h.1
theorem LTramWiresModel_st {w : Wp} {L : Ly} {a : Nat} (h : LTramWiresModel w L a) : L (a + 1) = some (gI w 233) := h.2.1
theorem LTramWiresModel_past {w : Wp} {L : Ly} {a : Nat} (h : LTramWiresModel w L a) : L (a + 2) = some (gI w 1165) := h.2.2.1
theorem LTramWiresModel_aside {w : Wp} {L : Ly} {a : Nat} (h : LTramWiresModel w L a) : L (a + 3) = some (gI w 233) := h.2.2.2.1
theorem LTramWiresModel_text {w : Wp} {L : Ly} {a : Nat} (h : LTramWiresModel w L a) : L (a + 4) = some (gI w 60) := h.2.2.2.2.1
theorem LTramWiresModel_row {w : Wp} {L : Ly} {a : Nat} (h : LTramWiresModel w L a) : L (a + 5) = some (gI w 19) := h.2.2.2.2.2
end
section
theorem pn_X0 : plainName RX0 = true := by decide +kernel
set_option maxRecDepth 100000 in
theorem in_X0 : ∀ q ∈ u_ws RX0 TX0 2, q ∈ TB := by
  intro q hq
  obtain ⟨k, hk, rfl⟩ := List.mem_map.mp hq
  have hk := List.mem_range.mp hk
  match k, hk with
  | 0, _ => exact tb_m (List.mem_of_getElem? (i := 275) (by decide +kernel)) rfl
  | 1, _ => exact tb_m (List.mem_of_getElem? (i := 277) (by decide +kernel)) rfl
  | k + 2, h => omega
set_option maxRecDepth 100000 in
theorem ini_X0 : Cond.initialized RX0 ∈ TB := tb_m (List.mem_of_getElem? (i := 73) (by decide +kernel)) rfl
set_option maxRecDepth 100000 in
theorem ins_X0 : Cond.instantiable RX0 2 ∈ TB := tb_m (List.mem_of_getElem? (i := 264) (by decide +kernel)) rfl
theorem pn_X1 : plainName RX1 = true := by decide +kernel
set_option maxRecDepth 100000 in
theorem in_X1 : ∀ q ∈ u_ws RX1 TX1 9, q ∈ TB := by
  intro q hq
  obtain ⟨k, hk, rfl⟩ := List.mem_map.mp hq
  have hk := List.mem_range.mp hk
  match k, hk with
  | 0, _ => exact tb_m (List.mem_of_getElem? (i := 223) (by decide +kernel)) rfl
  | 1, _ => exact tb_m (List.mem_of_getElem? (i := 225) (by decide +kernel)) rfl
  | 2, _ => exact tb_m (List.mem_of_getElem? (i := 227) (by decide +kernel)) rfl
  | 3, _ => exact tb_m (List.mem_of_getElem? (i := 229) (by decide +kernel)) rfl
  | 4, _ => exact tb_m (List.mem_of_getElem? (i := 231) (by decide +kernel)) rfl
  | 5, _ => exact tb_m (List.mem_of_getElem? (i := 233) (by decide +kernel)) rfl
  | 6, _ => exact tb_m (List.mem_of_getElem? (i := 235) (by decide +kernel)) rfl
  | 7, _ => exact tb_m (List.mem_of_getElem? (i := 237) (by decide +kernel)) rfl
  | 8, _ => exact tb_m (List.mem_of_getElem? (i := 239) (by decide +kernel)) rfl
  | k + 9, h => omega
set_option maxRecDepth 100000 in
theorem ini_X1 : Cond.initialized RX1 ∈ TB := tb_m (List.mem_of_getElem? (i := 72) (by decide +kernel)) rfl
set_option maxRecDepth 100000 in
theorem ins_X1 : Cond.instantiable RX1 9 ∈ TB := tb_m (List.mem_of_getElem? (i := 200) (by decide +kernel)) rfl
theorem pn_X2 : plainName RX2 = true := by decide +kernel
set_option maxRecDepth 100000 in
theorem in_X2 : ∀ q ∈ u_ws RX2 TX2 8, q ∈ TB := by
  intro q hq
  obtain ⟨k, hk, rfl⟩ := List.mem_map.mp hq
  have hk := List.mem_range.mp hk
  match k, hk with
  | 0, _ => exact tb_m (List.mem_of_getElem? (i := 125) (by decide +kernel)) rfl
  | 1, _ => exact tb_m (List.mem_of_getElem? (i := 127) (by decide +kernel)) rfl
  | 2, _ => exact tb_m (List.mem_of_getElem? (i := 129) (by decide +kernel)) rfl
  | 3, _ => exact tb_m (List.mem_of_getElem? (i := 131) (by decide +kernel)) rfl
  | 4, _ => exact tb_m (List.mem_of_getElem? (i := 133) (by decide +kernel)) rfl
  | 5, _ => exact tb_m (List.mem_of_getElem? (i := 135) (by decide +kernel)) rfl
  | 6, _ => exact tb_m (List.mem_of_getElem? (i := 137) (by decide +kernel)) rfl
  | 7, _ => exact tb_m (List.mem_of_getElem? (i := 139) (by decide +kernel)) rfl
  | k + 8, h => omega
set_option maxRecDepth 100000 in
theorem ini_X2 : Cond.initialized RX2 ∈ TB := tb_m (List.mem_of_getElem? (i := 70) (by decide +kernel)) rfl
set_option maxRecDepth 100000 in
theorem ins_X2 : Cond.instantiable RX2 8 ∈ TB := tb_m (List.mem_of_getElem? (i := 95) (by decide +kernel)) rfl
theorem pn_X3 : plainName RX3 = true := by decide +kernel
set_option maxRecDepth 100000 in
theorem in_X3 : ∀ q ∈ u_ws RX3 TX3 3, q ∈ TB := by
  intro q hq
  obtain ⟨k, hk, rfl⟩ := List.mem_map.mp hq
  have hk := List.mem_range.mp hk
  match k, hk with
  | 0, _ => exact tb_m (List.mem_of_getElem? (i := 323) (by decide +kernel)) rfl
  | 1, _ => exact tb_m (List.mem_of_getElem? (i := 325) (by decide +kernel)) rfl
  | 2, _ => exact tb_m (List.mem_of_getElem? (i := 327) (by decide +kernel)) rfl
  | k + 3, h => omega
set_option maxRecDepth 100000 in
theorem ini_X3 : Cond.initialized RX3 ∈ TB := tb_m (List.mem_of_getElem? (i := 75) (by decide +kernel)) rfl
set_option maxRecDepth 100000 in
theorem ins_X3 : Cond.instantiable RX3 3 ∈ TB := tb_m (List.mem_of_getElem? (i := 309) (by decide +kernel)) rfl
theorem pn_X4 : plainName RX4 = true := by decide +kernel
set_option maxRecDepth 100000 in
theorem in_X4 : ∀ q ∈ u_ws RX4 TX4 4, q ∈ TB := by
  intro q hq
  obtain ⟨k, hk, rfl⟩ := List.mem_map.mp hq
  have hk := List.mem_range.mp hk
  match k, hk with
  | 0, _ => exact tb_m (List.mem_of_getElem? (i := 346) (by decide +kernel)) rfl
  | 1, _ => exact tb_m (List.mem_of_getElem? (i := 348) (by decide +kernel)) rfl
  | 2, _ => exact tb_m (List.mem_of_getElem? (i := 350) (by decide +kernel)) rfl
  | 3, _ => exact tb_m (List.mem_of_getElem? (i := 352) (by decide +kernel)) rfl
  | k + 4, h => omega
set_option maxRecDepth 100000 in
theorem ini_X4 : Cond.initialized RX4 ∈ TB := tb_m (List.mem_of_getElem? (i := 76) (by decide +kernel)) rfl
set_option maxRecDepth 100000 in
theorem ins_X4 : Cond.instantiable RX4 4 ∈ TB := tb_m (List.mem_of_getElem? (i := 331) (by decide +kernel)) rfl
theorem pn_X5 : plainName RX5 = true := by decide +kernel
set_option maxRecDepth 100000 in
theorem in_X5 : ∀ q ∈ u_ws RX5 TX5 10, q ∈ TB := by
  intro q hq
  obtain ⟨k, hk, rfl⟩ := List.mem_map.mp hq
  have hk := List.mem_range.mp hk
  match k, hk with
  | 0, _ => exact tb_m (List.mem_of_getElem? (i := 178) (by decide +kernel)) rfl
  | 1, _ => exact tb_m (List.mem_of_getElem? (i := 180) (by decide +kernel)) rfl
  | 2, _ => exact tb_m (List.mem_of_getElem? (i := 182) (by decide +kernel)) rfl
  | 3, _ => exact tb_m (List.mem_of_getElem? (i := 184) (by decide +kernel)) rfl
  | 4, _ => exact tb_m (List.mem_of_getElem? (i := 186) (by decide +kernel)) rfl
  | 5, _ => exact tb_m (List.mem_of_getElem? (i := 188) (by decide +kernel)) rfl
  | 6, _ => exact tb_m (List.mem_of_getElem? (i := 190) (by decide +kernel)) rfl
  | 7, _ => exact tb_m (List.mem_of_getElem? (i := 192) (by decide +kernel)) rfl
  | 8, _ => exact tb_m (List.mem_of_getElem? (i := 194) (by decide +kernel)) rfl
  | 9, _ => exact tb_m (List.mem_of_getElem? (i := 196) (by decide +kernel)) rfl
  | k + 10, h => omega
set_option maxRecDepth 100000 in
theorem ini_X5 : Cond.initialized RX5 ∈ TB := tb_m (List.mem_of_getElem? (i := 71) (by decide +kernel)) rfl
set_option maxRecDepth 100000 in
theorem ins_X5 : Cond.instantiable RX5 10 ∈ TB := tb_m (List.mem_of_getElem? (i := 145) (by decide +kernel)) rfl
theorem pn_X6 : plainName RX6 = true := by decide +kernel
set_option maxRecDepth 100000 in
theorem in_X6 : ∀ q ∈ u_ws RX6 TX6 5, q ∈ TB := by
  intro q hq
  obtain ⟨k, hk, rfl⟩ := List.mem_map.mp hq
  have hk := List.mem_range.mp hk
  match k, hk with
  | 0, _ => exact tb_m (List.mem_of_getElem? (i := 297) (by decide +kernel)) rfl
  | 1, _ => exact tb_m (List.mem_of_getElem? (i := 299) (by decide +kernel)) rfl
  | 2, _ => exact tb_m (List.mem_of_getElem? (i := 301) (by decide +kernel)) rfl
  | 3, _ => exact tb_m (List.mem_of_getElem? (i := 303) (by decide +kernel)) rfl
  | 4, _ => exact tb_m (List.mem_of_getElem? (i := 305) (by decide +kernel)) rfl
  | k + 5, h => omega
set_option maxRecDepth 100000 in
theorem ini_X6 : Cond.initialized RX6 ∈ TB := tb_m (List.mem_of_getElem? (i := 74) (by decide +kernel)) rfl
set_option maxRecDepth 100000 in
theorem ins_X6 : Cond.instantiable RX6 5 ∈ TB := tb_m (List.mem_of_getElem? (i := 281) (by decide +kernel)) rfl
theorem pn_X7 : plainName RX7 = true := by decide +kernel
set_option maxRecDepth 100000 in
theorem in_X7 : ∀ q ∈ u_ws RX7 TX7 5, q ∈ TB := by
  intro q hq
  obtain ⟨k, hk, rfl⟩ := List.mem_map.mp hq
  have hk := List.mem_range.mp hk
  match k, hk with
  | 0, _ => exact tb_m (List.mem_of_getElem? (i := 252) (by decide +kernel)) rfl
  | 1, _ => exact tb_m (List.mem_of_getElem? (i := 254) (by decide +kernel)) rfl
  | 2, _ => exact tb_m (List.mem_of_getElem? (i := 256) (by decide +kernel)) rfl
  | 3, _ => exact tb_m (List.mem_of_getElem? (i := 258) (by decide +kernel)) rfl
  | 4, _ => exact tb_m (List.mem_of_getElem? (i := 260) (by decide +kernel)) rfl
  | k + 5, h => omega
set_option maxRecDepth 100000 in
theorem ini_X7 : Cond.initialized RX7 ∈ TB := tb_m (List.mem_of_getElem? (i := 69) (by decide +kernel)) rfl
set_option maxRecDepth 100000 in
theorem ins_X7 : Cond.instantiable RX7 5 ∈ TB := tb_m (List.mem_of_getElem? (i := 89) (by decide +kernel)) rfl
theorem pn_X8 : plainName RX8 = true := by decide +kernel
set_option maxRecDepth 100000 in
theorem in_X8 : ∀ q ∈ u_ws RX8 TX8 5, q ∈ TB := by
  intro q hq
  obtain ⟨k, hk, rfl⟩ := List.mem_map.mp hq
  have hk := List.mem_range.mp hk
  match k, hk with
  | 0, _ => exact tb_m (List.mem_of_getElem? (i := 360) (by decide +kernel)) rfl
  | 1, _ => exact tb_m (List.mem_of_getElem? (i := 362) (by decide +kernel)) rfl
  | 2, _ => exact tb_m (List.mem_of_getElem? (i := 364) (by decide +kernel)) rfl
  | 3, _ => exact tb_m (List.mem_of_getElem? (i := 366) (by decide +kernel)) rfl
  | 4, _ => exact tb_m (List.mem_of_getElem? (i := 368) (by decide +kernel)) rfl
  | k + 5, h => omega
set_option maxRecDepth 100000 in
theorem ini_X8 : Cond.initialized RX8 ∈ TB := tb_m (List.mem_of_getElem? (i := 68) (by decide +kernel)) rfl
set_option maxRecDepth 100000 in
theorem ins_X8 : Cond.instantiable RX8 5 ∈ TB := tb_m (List.mem_of_getElem? (i := 81) (by decide +kernel)) rfl
theorem pn_X9 : plainName RX9 = true := by decide +kernel
set_option maxRecDepth 100000 in
theorem in_X9 : ∀ q ∈ u_ws RX9 TX9 13, q ∈ TB := by
  intro q hq
  obtain ⟨k, hk, rfl⟩ := List.mem_map.mp hq
  have hk := List.mem_range.mp hk
  match k, hk with
  | 0, _ => exact tb_m (List.mem_of_getElem? (i := 752) (by decide +kernel)) rfl
  | 1, _ => exact tb_m (List.mem_of_getElem? (i := 754) (by decide +kernel)) rfl
  | 2, _ => exact tb_m (List.mem_of_getElem? (i := 756) (by decide +kernel)) rfl
  | 3, _ => exact tb_m (List.mem_of_getElem? (i := 758) (by decide +kernel)) rfl
  | 4, _ => exact tb_m (List.mem_of_getElem? (i := 760) (by decide +kernel)) rfl
  | 5, _ => exact tb_m (List.mem_of_getElem? (i := 762) (by decide +kernel)) rfl
  | 6, _ => exact tb_m (List.mem_of_getElem? (i := 764) (by decide +kernel)) rfl
  | 7, _ => exact tb_m (List.mem_of_getElem? (i := 766) (by decide +kernel)) rfl
  | 8, _ => exact tb_m (List.mem_of_getElem? (i := 768) (by decide +kernel)) rfl
  | 9, _ => exact tb_m (List.mem_of_getElem? (i := 770) (by decide +kernel)) rfl
  | 10, _ => exact tb_m (List.mem_of_getElem? (i := 772) (by decide +kernel)) rfl
  | 11, _ => exact tb_m (List.mem_of_getElem? (i := 774) (by decide +kernel)) rfl
  | 12, _ => exact tb_m (List.mem_of_getElem? (i := 776) (by decide +kernel)) rfl
  | k + 13, h => omega
set_option maxRecDepth 100000 in
theorem ini_X9 : Cond.initialized RX9 ∈ TB := tb_m (List.mem_of_getElem? (i := 77) (by decide +kernel)) rfl
set_option maxRecDepth 100000 in
theorem ins_X9 : Cond.instantiable RX9 13 ∈ TB := tb_m (List.mem_of_getElem? (i := 734) (by decide +kernel)) rfl
set_option maxRecDepth 100000 in
theorem tc_X8_init : Cond.code yX8_init cX8_init 1 none ∈ TB := tb_m (List.mem_of_getElem? (i := 84) (by decide +kernel)) rfl
set_option maxRecDepth 100000 in
theorem ti_X8_init : Cond.instanceMethod yX8_init ∈ TB := tb_m (List.mem_of_getElem? (i := 83) (by decide +kernel)) rfl
set_option maxRecDepth 100000 in
theorem tp_X8_init : yX8_init.cls ≠ "java/lang/invoke/MethodHandle" ∧ yX8_init.cls ≠ "java/lang/invoke/VarHandle" ∧ (parseMethodDescriptor yX8_init.desc).map (fun d => d.parameters.length) = some 0 := by decide +kernel
set_option maxRecDepth 100000 in
theorem tc_X8_asNumber : Cond.code yX8_asNumber cX8_asNumber 1 (some .int) ∈ TB := tb_m (List.mem_of_getElem? (i := 467) (by decide +kernel)) rfl
set_option maxRecDepth 100000 in
theorem ts_X8_asNumber : Cond.static yX8_asNumber ∈ TB := tb_m (List.mem_of_getElem? (i := 466) (by decide +kernel)) rfl
set_option maxRecDepth 100000 in
theorem tp_X8_asNumber : yX8_asNumber.cls ≠ "java/lang/invoke/MethodHandle" ∧ yX8_asNumber.cls ≠ "java/lang/invoke/VarHandle" ∧ (parseMethodDescriptor yX8_asNumber.desc).map (fun d => d.parameters.length) = some 1 := by decide +kernel
set_option maxRecDepth 100000 in
theorem tc_X8_canPlan : Cond.code yX8_canPlan cX8_canPlan 2 (some .int) ∈ TB := tb_m (List.mem_of_getElem? (i := 655) (by decide +kernel)) rfl
set_option maxRecDepth 100000 in
theorem ti_X8_canPlan : Cond.instanceMethod yX8_canPlan ∈ TB := tb_m (List.mem_of_getElem? (i := 653) (by decide +kernel)) rfl
set_option maxRecDepth 100000 in
theorem te_X8_canPlan : Cond.selects RX8 yX8_canPlan yX8_canPlan ∈ TB := tb_m (List.mem_of_getElem? (i := 654) (by decide +kernel)) rfl
set_option maxRecDepth 100000 in
theorem tp_X8_canPlan : yX8_canPlan.cls ≠ "java/lang/invoke/MethodHandle" ∧ yX8_canPlan.cls ≠ "java/lang/invoke/VarHandle" ∧ (parseMethodDescriptor yX8_canPlan.desc).map (fun d => d.parameters.length) = some 1 := by decide +kernel
set_option maxRecDepth 100000 in
theorem tc_X8_clearText : Cond.code yX8_clearText cX8_clearText 2 (some .int) ∈ TB := tb_m (List.mem_of_getElem? (i := 702) (by decide +kernel)) rfl
set_option maxRecDepth 100000 in
theorem ti_X8_clearText : Cond.instanceMethod yX8_clearText ∈ TB := tb_m (List.mem_of_getElem? (i := 700) (by decide +kernel)) rfl
set_option maxRecDepth 100000 in
theorem te_X8_clearText : Cond.selects RX8 yX8_clearText yX8_clearText ∈ TB := tb_m (List.mem_of_getElem? (i := 701) (by decide +kernel)) rfl
set_option maxRecDepth 100000 in
theorem tp_X8_clearText : yX8_clearText.cls ≠ "java/lang/invoke/MethodHandle" ∧ yX8_clearText.cls ≠ "java/lang/invoke/VarHandle" ∧ (parseMethodDescriptor yX8_clearText.desc).map (fun d => d.parameters.length) = some 0 := by decide +kernel
set_option maxRecDepth 100000 in
theorem tc_X8_count : Cond.code yX8_count cX8_count 3 (some .int) ∈ TB := tb_m (List.mem_of_getElem? (i := 532) (by decide +kernel)) rfl
set_option maxRecDepth 100000 in
theorem ti_X8_count : Cond.instanceMethod yX8_count ∈ TB := tb_m (List.mem_of_getElem? (i := 530) (by decide +kernel)) rfl
set_option maxRecDepth 100000 in
theorem te_X8_count : Cond.selects RX8 yX8_count yX8_count ∈ TB := tb_m (List.mem_of_getElem? (i := 531) (by decide +kernel)) rfl
set_option maxRecDepth 100000 in
theorem tp_X8_count : yX8_count.cls ≠ "java/lang/invoke/MethodHandle" ∧ yX8_count.cls ≠ "java/lang/invoke/VarHandle" ∧ (parseMethodDescriptor yX8_count.desc).map (fun d => d.parameters.length) = some 1 := by decide +kernel
set_option maxRecDepth 100000 in
theorem tc_X8_countTrue : Cond.code yX8_countTrue cX8_countTrue 3 (some .int) ∈ TB := tb_m (List.mem_of_getElem? (i := 535) (by decide +kernel)) rfl
set_option maxRecDepth 100000 in
theorem ts_X8_countTrue : Cond.static yX8_countTrue ∈ TB := tb_m (List.mem_of_getElem? (i := 534) (by decide +kernel)) rfl
set_option maxRecDepth 100000 in
theorem tp_X8_countTrue : yX8_countTrue.cls ≠ "java/lang/invoke/MethodHandle" ∧ yX8_countTrue.cls ≠ "java/lang/invoke/VarHandle" ∧ (parseMethodDescriptor yX8_countTrue.desc).map (fun d => d.parameters.length) = some 1 := by decide +kernel
set_option maxRecDepth 100000 in
theorem tc_X8_enter : Cond.code yX8_enter cX8_enter 4 (some .int) ∈ TB := tb_m (List.mem_of_getElem? (i := 670) (by decide +kernel)) rfl
set_option maxRecDepth 100000 in
theorem ti_X8_enter : Cond.instanceMethod yX8_enter ∈ TB := tb_m (List.mem_of_getElem? (i := 668) (by decide +kernel)) rfl
set_option maxRecDepth 100000 in
theorem te_X8_enter : Cond.selects RX8 yX8_enter yX8_enter ∈ TB := tb_m (List.mem_of_getElem? (i := 669) (by decide +kernel)) rfl
set_option maxRecDepth 100000 in
theorem tp_X8_enter : yX8_enter.cls ≠ "java/lang/invoke/MethodHandle" ∧ yX8_enter.cls ≠ "java/lang/invoke/VarHandle" ∧ (parseMethodDescriptor yX8_enter.desc).map (fun d => d.parameters.length) = some 3 := by decide +kernel
set_option maxRecDepth 100000 in
theorem tc_X8_fault : Cond.code yX8_fault cX8_fault 2 (some .int) ∈ TB := tb_m (List.mem_of_getElem? (i := 706) (by decide +kernel)) rfl
set_option maxRecDepth 100000 in
theorem ti_X8_fault : Cond.instanceMethod yX8_fault ∈ TB := tb_m (List.mem_of_getElem? (i := 704) (by decide +kernel)) rfl
set_option maxRecDepth 100000 in
theorem te_X8_fault : Cond.selects RX8 yX8_fault yX8_fault ∈ TB := tb_m (List.mem_of_getElem? (i := 705) (by decide +kernel)) rfl
set_option maxRecDepth 100000 in
theorem tp_X8_fault : yX8_fault.cls ≠ "java/lang/invoke/MethodHandle" ∧ yX8_fault.cls ≠ "java/lang/invoke/VarHandle" ∧ (parseMethodDescriptor yX8_fault.desc).map (fun d => d.parameters.length) = some 1 := by decide +kernel
set_option maxRecDepth 100000 in
theorem tc_X8_fetch : Cond.code yX8_fetch cX8_fetch 3 (some .int) ∈ TB := tb_m (List.mem_of_getElem? (i := 690) (by decide +kernel)) rfl
set_option maxRecDepth 100000 in
theorem ti_X8_fetch : Cond.instanceMethod yX8_fetch ∈ TB := tb_m (List.mem_of_getElem? (i := 688) (by decide +kernel)) rfl
set_option maxRecDepth 100000 in
theorem te_X8_fetch : Cond.selects RX8 yX8_fetch yX8_fetch ∈ TB := tb_m (List.mem_of_getElem? (i := 689) (by decide +kernel)) rfl
set_option maxRecDepth 100000 in
theorem tp_X8_fetch : yX8_fetch.cls ≠ "java/lang/invoke/MethodHandle" ∧ yX8_fetch.cls ≠ "java/lang/invoke/VarHandle" ∧ (parseMethodDescriptor yX8_fetch.desc).map (fun d => d.parameters.length) = some 1 := by decide +kernel
set_option maxRecDepth 100000 in
theorem tc_X8_isOutside : Cond.code yX8_isOutside cX8_isOutside 3 (some .boolean) ∈ TB := tb_m (List.mem_of_getElem? (i := 377) (by decide +kernel)) rfl
set_option maxRecDepth 100000 in
theorem ts_X8_isOutside : Cond.static yX8_isOutside ∈ TB := tb_m (List.mem_of_getElem? (i := 376) (by decide +kernel)) rfl
set_option maxRecDepth 100000 in
theorem tp_X8_isOutside : yX8_isOutside.cls ≠ "java/lang/invoke/MethodHandle" ∧ yX8_isOutside.cls ≠ "java/lang/invoke/VarHandle" ∧ (parseMethodDescriptor yX8_isOutside.desc).map (fun d => d.parameters.length) = some 3 := by decide +kernel
set_option maxRecDepth 100000 in
theorem tc_X8_isolator : Cond.code yX8_isolator cX8_isolator 3 (some .int) ∈ TB := tb_m (List.mem_of_getElem? (i := 422) (by decide +kernel)) rfl
set_option maxRecDepth 100000 in
theorem ti_X8_isolator : Cond.instanceMethod yX8_isolator ∈ TB := tb_m (List.mem_of_getElem? (i := 420) (by decide +kernel)) rfl
set_option maxRecDepth 100000 in
theorem te_X8_isolator : Cond.selects RX8 yX8_isolator yX8_isolator ∈ TB := tb_m (List.mem_of_getElem? (i := 421) (by decide +kernel)) rfl
set_option maxRecDepth 100000 in
theorem tp_X8_isolator : yX8_isolator.cls ≠ "java/lang/invoke/MethodHandle" ∧ yX8_isolator.cls ≠ "java/lang/invoke/VarHandle" ∧ (parseMethodDescriptor yX8_isolator.desc).map (fun d => d.parameters.length) = some 2 := by decide +kernel
set_option maxRecDepth 100000 in
theorem tc_X8_isolatorOf : Cond.code yX8_isolatorOf cX8_isolatorOf 4 (some .int) ∈ TB := tb_m (List.mem_of_getElem? (i := 500) (by decide +kernel)) rfl
set_option maxRecDepth 100000 in
theorem ti_X8_isolatorOf : Cond.instanceMethod yX8_isolatorOf ∈ TB := tb_m (List.mem_of_getElem? (i := 498) (by decide +kernel)) rfl
set_option maxRecDepth 100000 in
theorem te_X8_isolatorOf : Cond.selects RX8 yX8_isolatorOf yX8_isolatorOf ∈ TB := tb_m (List.mem_of_getElem? (i := 499) (by decide +kernel)) rfl
set_option maxRecDepth 100000 in
theorem tp_X8_isolatorOf : yX8_isolatorOf.cls ≠ "java/lang/invoke/MethodHandle" ∧ yX8_isolatorOf.cls ≠ "java/lang/invoke/VarHandle" ∧ (parseMethodDescriptor yX8_isolatorOf.desc).map (fun d => d.parameters.length) = some 2 := by decide +kernel
set_option maxRecDepth 100000 in
theorem tc_X8_leave : Cond.code yX8_leave cX8_leave 3 (some .int) ∈ TB := tb_m (List.mem_of_getElem? (i := 679) (by decide +kernel)) rfl
set_option maxRecDepth 100000 in
theorem ti_X8_leave : Cond.instanceMethod yX8_leave ∈ TB := tb_m (List.mem_of_getElem? (i := 677) (by decide +kernel)) rfl
set_option maxRecDepth 100000 in
theorem te_X8_leave : Cond.selects RX8 yX8_leave yX8_leave ∈ TB := tb_m (List.mem_of_getElem? (i := 678) (by decide +kernel)) rfl
set_option maxRecDepth 100000 in
theorem tp_X8_leave : yX8_leave.cls ≠ "java/lang/invoke/MethodHandle" ∧ yX8_leave.cls ≠ "java/lang/invoke/VarHandle" ∧ (parseMethodDescriptor yX8_leave.desc).map (fun d => d.parameters.length) = some 2 := by decide +kernel
set_option maxRecDepth 100000 in
theorem tc_X8_log : Cond.code yX8_log cX8_log 5 (some .int) ∈ TB := tb_m (List.mem_of_getElem? (i := 638) (by decide +kernel)) rfl
set_option maxRecDepth 100000 in
theorem ti_X8_log : Cond.instanceMethod yX8_log ∈ TB := tb_m (List.mem_of_getElem? (i := 636) (by decide +kernel)) rfl
set_option maxRecDepth 100000 in
theorem te_X8_log : Cond.selects RX8 yX8_log yX8_log ∈ TB := tb_m (List.mem_of_getElem? (i := 637) (by decide +kernel)) rfl
set_option maxRecDepth 100000 in
theorem tp_X8_log : yX8_log.cls ≠ "java/lang/invoke/MethodHandle" ∧ yX8_log.cls ≠ "java/lang/invoke/VarHandle" ∧ (parseMethodDescriptor yX8_log.desc).map (fun d => d.parameters.length) = some 2 := by decide +kernel
set_option maxRecDepth 100000 in
theorem tc_X8_pass : Cond.code yX8_pass cX8_pass 2 (some .int) ∈ TB := tb_m (List.mem_of_getElem? (i := 694) (by decide +kernel)) rfl
set_option maxRecDepth 100000 in
theorem ti_X8_pass : Cond.instanceMethod yX8_pass ∈ TB := tb_m (List.mem_of_getElem? (i := 692) (by decide +kernel)) rfl
set_option maxRecDepth 100000 in
theorem te_X8_pass : Cond.selects RX8 yX8_pass yX8_pass ∈ TB := tb_m (List.mem_of_getElem? (i := 693) (by decide +kernel)) rfl
set_option maxRecDepth 100000 in
theorem tp_X8_pass : yX8_pass.cls ≠ "java/lang/invoke/MethodHandle" ∧ yX8_pass.cls ≠ "java/lang/invoke/VarHandle" ∧ (parseMethodDescriptor yX8_pass.desc).map (fun d => d.parameters.length) = some 1 := by decide +kernel
set_option maxRecDepth 100000 in
theorem tc_X8_plan : Cond.code yX8_plan cX8_plan 3 (some .int) ∈ TB := tb_m (List.mem_of_getElem? (i := 642) (by decide +kernel)) rfl
set_option maxRecDepth 100000 in
theorem ti_X8_plan : Cond.instanceMethod yX8_plan ∈ TB := tb_m (List.mem_of_getElem? (i := 640) (by decide +kernel)) rfl
set_option maxRecDepth 100000 in
theorem te_X8_plan : Cond.selects RX8 yX8_plan yX8_plan ∈ TB := tb_m (List.mem_of_getElem? (i := 641) (by decide +kernel)) rfl
set_option maxRecDepth 100000 in
theorem tp_X8_plan : yX8_plan.cls ≠ "java/lang/invoke/MethodHandle" ∧ yX8_plan.cls ≠ "java/lang/invoke/VarHandle" ∧ (parseMethodDescriptor yX8_plan.desc).map (fun d => d.parameters.length) = some 2 := by decide +kernel
set_option maxRecDepth 100000 in
theorem tc_X8_play : Cond.code yX8_play cX8_play 1 (some .int) ∈ TB := tb_m (List.mem_of_getElem? (i := 731) (by decide +kernel)) rfl
set_option maxRecDepth 100000 in
theorem ti_X8_play : Cond.instanceMethod yX8_play ∈ TB := tb_m (List.mem_of_getElem? (i := 729) (by decide +kernel)) rfl
set_option maxRecDepth 100000 in
theorem te_X8_play : Cond.selects RX8 yX8_play yX8_play ∈ TB := tb_m (List.mem_of_getElem? (i := 730) (by decide +kernel)) rfl
set_option maxRecDepth 100000 in
theorem tp_X8_play : yX8_play.cls ≠ "java/lang/invoke/MethodHandle" ∧ yX8_play.cls ≠ "java/lang/invoke/VarHandle" ∧ (parseMethodDescriptor yX8_play.desc).map (fun d => d.parameters.length) = some 0 := by decide +kernel
set_option maxRecDepth 100000 in
theorem tc_X8_pool : Cond.code yX8_pool cX8_pool 2 (some .int) ∈ TB := tb_m (List.mem_of_getElem? (i := 451) (by decide +kernel)) rfl
set_option maxRecDepth 100000 in
theorem ti_X8_pool : Cond.instanceMethod yX8_pool ∈ TB := tb_m (List.mem_of_getElem? (i := 449) (by decide +kernel)) rfl
set_option maxRecDepth 100000 in
theorem te_X8_pool : Cond.selects RX8 yX8_pool yX8_pool ∈ TB := tb_m (List.mem_of_getElem? (i := 450) (by decide +kernel)) rfl
set_option maxRecDepth 100000 in
theorem tp_X8_pool : yX8_pool.cls ≠ "java/lang/invoke/MethodHandle" ∧ yX8_pool.cls ≠ "java/lang/invoke/VarHandle" ∧ (parseMethodDescriptor yX8_pool.desc).map (fun d => d.parameters.length) = some 1 := by decide +kernel
set_option maxRecDepth 100000 in
theorem tc_X8_refusal : Cond.code yX8_refusal cX8_refusal 3 (some .int) ∈ TB := tb_m (List.mem_of_getElem? (i := 559) (by decide +kernel)) rfl
set_option maxRecDepth 100000 in
theorem ti_X8_refusal : Cond.instanceMethod yX8_refusal ∈ TB := tb_m (List.mem_of_getElem? (i := 557) (by decide +kernel)) rfl
set_option maxRecDepth 100000 in
theorem te_X8_refusal : Cond.selects RX8 yX8_refusal yX8_refusal ∈ TB := tb_m (List.mem_of_getElem? (i := 558) (by decide +kernel)) rfl
set_option maxRecDepth 100000 in
theorem tp_X8_refusal : yX8_refusal.cls ≠ "java/lang/invoke/MethodHandle" ∧ yX8_refusal.cls ≠ "java/lang/invoke/VarHandle" ∧ (parseMethodDescriptor yX8_refusal.desc).map (fun d => d.parameters.length) = some 2 := by decide +kernel
set_option maxRecDepth 100000 in
theorem tc_X8_section : Cond.code yX8_section cX8_section 3 (some .int) ∈ TB := tb_m (List.mem_of_getElem? (i := 374) (by decide +kernel)) rfl
set_option maxRecDepth 100000 in
theorem ti_X8_section : Cond.instanceMethod yX8_section ∈ TB := tb_m (List.mem_of_getElem? (i := 372) (by decide +kernel)) rfl
set_option maxRecDepth 100000 in
theorem te_X8_section : Cond.selects RX8 yX8_section yX8_section ∈ TB := tb_m (List.mem_of_getElem? (i := 373) (by decide +kernel)) rfl
set_option maxRecDepth 100000 in
theorem tp_X8_section : yX8_section.cls ≠ "java/lang/invoke/MethodHandle" ∧ yX8_section.cls ≠ "java/lang/invoke/VarHandle" ∧ (parseMethodDescriptor yX8_section.desc).map (fun d => d.parameters.length) = some 2 := by decide +kernel
set_option maxRecDepth 100000 in
theorem tc_X8_sectionOf : Cond.code yX8_sectionOf cX8_sectionOf 5 (some .int) ∈ TB := tb_m (List.mem_of_getElem? (i := 464) (by decide +kernel)) rfl
set_option maxRecDepth 100000 in
theorem ti_X8_sectionOf : Cond.instanceMethod yX8_sectionOf ∈ TB := tb_m (List.mem_of_getElem? (i := 462) (by decide +kernel)) rfl
set_option maxRecDepth 100000 in
theorem te_X8_sectionOf : Cond.selects RX8 yX8_sectionOf yX8_sectionOf ∈ TB := tb_m (List.mem_of_getElem? (i := 463) (by decide +kernel)) rfl
set_option maxRecDepth 100000 in
theorem tp_X8_sectionOf : yX8_sectionOf.cls ≠ "java/lang/invoke/MethodHandle" ∧ yX8_sectionOf.cls ≠ "java/lang/invoke/VarHandle" ∧ (parseMethodDescriptor yX8_sectionOf.desc).map (fun d => d.parameters.length) = some 2 := by decide +kernel
set_option maxRecDepth 100000 in
theorem tc_X8_step : Cond.code yX8_step cX8_step 3 (some .int) ∈ TB := tb_m (List.mem_of_getElem? (i := 622) (by decide +kernel)) rfl
set_option maxRecDepth 100000 in
theorem ti_X8_step : Cond.instanceMethod yX8_step ∈ TB := tb_m (List.mem_of_getElem? (i := 620) (by decide +kernel)) rfl
set_option maxRecDepth 100000 in
theorem te_X8_step : Cond.selects RX8 yX8_step yX8_step ∈ TB := tb_m (List.mem_of_getElem? (i := 621) (by decide +kernel)) rfl
set_option maxRecDepth 100000 in
theorem tp_X8_step : yX8_step.cls ≠ "java/lang/invoke/MethodHandle" ∧ yX8_step.cls ≠ "java/lang/invoke/VarHandle" ∧ (parseMethodDescriptor yX8_step.desc).map (fun d => d.parameters.length) = some 2 := by decide +kernel
set_option maxRecDepth 100000 in
theorem tc_X8_type : Cond.code yX8_type cX8_type 2 (some .int) ∈ TB := tb_m (List.mem_of_getElem? (i := 698) (by decide +kernel)) rfl
set_option maxRecDepth 100000 in
theorem ti_X8_type : Cond.instanceMethod yX8_type ∈ TB := tb_m (List.mem_of_getElem? (i := 696) (by decide +kernel)) rfl
set_option maxRecDepth 100000 in
theorem te_X8_type : Cond.selects RX8 yX8_type yX8_type ∈ TB := tb_m (List.mem_of_getElem? (i := 697) (by decide +kernel)) rfl
set_option maxRecDepth 100000 in
theorem tp_X8_type : yX8_type.cls ≠ "java/lang/invoke/MethodHandle" ∧ yX8_type.cls ≠ "java/lang/invoke/VarHandle" ∧ (parseMethodDescriptor yX8_type.desc).map (fun d => d.parameters.length) = some 1 := by decide +kernel
set_option maxRecDepth 100000 in
theorem tc_X8_undo : Cond.code yX8_undo cX8_undo 1 (some .int) ∈ TB := tb_m (List.mem_of_getElem? (i := 551) (by decide +kernel)) rfl
set_option maxRecDepth 100000 in
theorem ti_X8_undo : Cond.instanceMethod yX8_undo ∈ TB := tb_m (List.mem_of_getElem? (i := 549) (by decide +kernel)) rfl
set_option maxRecDepth 100000 in
theorem te_X8_undo : Cond.selects RX8 yX8_undo yX8_undo ∈ TB := tb_m (List.mem_of_getElem? (i := 550) (by decide +kernel)) rfl
set_option maxRecDepth 100000 in
theorem tp_X8_undo : yX8_undo.cls ≠ "java/lang/invoke/MethodHandle" ∧ yX8_undo.cls ≠ "java/lang/invoke/VarHandle" ∧ (parseMethodDescriptor yX8_undo.desc).map (fun d => d.parameters.length) = some 0 := by decide +kernel
set_option maxRecDepth 100000 in
theorem tc_X0_init : Cond.code yX0_init cX0_init 2 none ∈ TB := tb_m (List.mem_of_getElem? (i := 267) (by decide +kernel)) rfl
set_option maxRecDepth 100000 in
theorem ti_X0_init : Cond.instanceMethod yX0_init ∈ TB := tb_m (List.mem_of_getElem? (i := 266) (by decide +kernel)) rfl
set_option maxRecDepth 100000 in
theorem tp_X0_init : yX0_init.cls ≠ "java/lang/invoke/MethodHandle" ∧ yX0_init.cls ≠ "java/lang/invoke/VarHandle" ∧ (parseMethodDescriptor yX0_init.desc).map (fun d => d.parameters.length) = some 0 := by decide +kernel
set_option maxRecDepth 100000 in
theorem tc_X0_dropOldest : Cond.code yX0_dropOldest cX0_dropOldest 3 none ∈ TB := tb_m (List.mem_of_getElem? (i := 385) (by decide +kernel)) rfl
set_option maxRecDepth 100000 in
theorem ti_X0_dropOldest : Cond.instanceMethod yX0_dropOldest ∈ TB := tb_m (List.mem_of_getElem? (i := 384) (by decide +kernel)) rfl
set_option maxRecDepth 100000 in
theorem te_X0_dropOldest : Cond.selects RX0 yX0_dropOldest yX0_dropOldest ∈ TB := tb_m (List.mem_of_getElem? (i := 0) (by decide +kernel)) rfl
set_option maxRecDepth 100000 in
theorem tp_X0_dropOldest : yX0_dropOldest.cls ≠ "java/lang/invoke/MethodHandle" ∧ yX0_dropOldest.cls ≠ "java/lang/invoke/VarHandle" ∧ (parseMethodDescriptor yX0_dropOldest.desc).map (fun d => d.parameters.length) = some 0 := by decide +kernel
set_option maxRecDepth 100000 in
theorem tc_X0_keep : Cond.code yX0_keep cX0_keep 2 none ∈ TB := tb_m (List.mem_of_getElem? (i := 381) (by decide +kernel)) rfl
set_option maxRecDepth 100000 in
theorem ti_X0_keep : Cond.instanceMethod yX0_keep ∈ TB := tb_m (List.mem_of_getElem? (i := 379) (by decide +kernel)) rfl
set_option maxRecDepth 100000 in
theorem te_X0_keep : Cond.selects RX0 yX0_keep yX0_keep ∈ TB := tb_m (List.mem_of_getElem? (i := 380) (by decide +kernel)) rfl
set_option maxRecDepth 100000 in
theorem tp_X0_keep : yX0_keep.cls ≠ "java/lang/invoke/MethodHandle" ∧ yX0_keep.cls ≠ "java/lang/invoke/VarHandle" ∧ (parseMethodDescriptor yX0_keep.desc).map (fun d => d.parameters.length) = some 1 := by decide +kernel
set_option maxRecDepth 100000 in
theorem tc_X0_restore : Cond.code yX0_restore cX0_restore 2 none ∈ TB := tb_m (List.mem_of_getElem? (i := 555) (by decide +kernel)) rfl
set_option maxRecDepth 100000 in
theorem ti_X0_restore : Cond.instanceMethod yX0_restore ∈ TB := tb_m (List.mem_of_getElem? (i := 553) (by decide +kernel)) rfl
set_option maxRecDepth 100000 in
theorem te_X0_restore : Cond.selects RX0 yX0_restore yX0_restore ∈ TB := tb_m (List.mem_of_getElem? (i := 554) (by decide +kernel)) rfl
set_option maxRecDepth 100000 in
theorem tp_X0_restore : yX0_restore.cls ≠ "java/lang/invoke/MethodHandle" ∧ yX0_restore.cls ≠ "java/lang/invoke/VarHandle" ∧ (parseMethodDescriptor yX0_restore.desc).map (fun d => d.parameters.length) = some 1 := by decide +kernel
set_option maxRecDepth 100000 in
theorem tc_X1_init : Cond.code yX1_init cX1_init 1 none ∈ TB := tb_m (List.mem_of_getElem? (i := 203) (by decide +kernel)) rfl
set_option maxRecDepth 100000 in
theorem ti_X1_init : Cond.instanceMethod yX1_init ∈ TB := tb_m (List.mem_of_getElem? (i := 202) (by decide +kernel)) rfl
set_option maxRecDepth 100000 in
theorem tp_X1_init : yX1_init.cls ≠ "java/lang/invoke/MethodHandle" ∧ yX1_init.cls ≠ "java/lang/invoke/VarHandle" ∧ (parseMethodDescriptor yX1_init.desc).map (fun d => d.parameters.length) = some 0 := by decide +kernel
set_option maxRecDepth 100000 in
theorem tc_X1_copyFrom : Cond.code yX1_copyFrom cX1_copyFrom 2 none ∈ TB := tb_m (List.mem_of_getElem? (i := 405) (by decide +kernel)) rfl
set_option maxRecDepth 100000 in
theorem ti_X1_copyFrom : Cond.instanceMethod yX1_copyFrom ∈ TB := tb_m (List.mem_of_getElem? (i := 403) (by decide +kernel)) rfl
set_option maxRecDepth 100000 in
theorem te_X1_copyFrom : Cond.selects RX1 yX1_copyFrom yX1_copyFrom ∈ TB := tb_m (List.mem_of_getElem? (i := 404) (by decide +kernel)) rfl
set_option maxRecDepth 100000 in
theorem tp_X1_copyFrom : yX1_copyFrom.cls ≠ "java/lang/invoke/MethodHandle" ∧ yX1_copyFrom.cls ≠ "java/lang/invoke/VarHandle" ∧ (parseMethodDescriptor yX1_copyFrom.desc).map (fun d => d.parameters.length) = some 1 := by decide +kernel
set_option maxRecDepth 100000 in
theorem tc_X1_dropOldest : Cond.code yX1_dropOldest cX1_dropOldest 1 none ∈ TB := tb_m (List.mem_of_getElem? (i := 634) (by decide +kernel)) rfl
set_option maxRecDepth 100000 in
theorem ti_X1_dropOldest : Cond.instanceMethod yX1_dropOldest ∈ TB := tb_m (List.mem_of_getElem? (i := 633) (by decide +kernel)) rfl
set_option maxRecDepth 100000 in
theorem te_X1_dropOldest : Cond.selects RX1 yX1_dropOldest yX1_dropOldest ∈ TB := tb_m (List.mem_of_getElem? (i := 20) (by decide +kernel)) rfl
set_option maxRecDepth 100000 in
theorem tp_X1_dropOldest : yX1_dropOldest.cls ≠ "java/lang/invoke/MethodHandle" ∧ yX1_dropOldest.cls ≠ "java/lang/invoke/VarHandle" ∧ (parseMethodDescriptor yX1_dropOldest.desc).map (fun d => d.parameters.length) = some 0 := by decide +kernel
set_option maxRecDepth 100000 in
theorem tc_X1_setBy : Cond.code yX1_setBy cX1_setBy 5 none ∈ TB := tb_m (List.mem_of_getElem? (i := 479) (by decide +kernel)) rfl
set_option maxRecDepth 100000 in
theorem ti_X1_setBy : Cond.instanceMethod yX1_setBy ∈ TB := tb_m (List.mem_of_getElem? (i := 478) (by decide +kernel)) rfl
set_option maxRecDepth 100000 in
theorem te_X1_setBy : Cond.selects RX1 yX1_setBy yX1_setBy ∈ TB := tb_m (List.mem_of_getElem? (i := 3) (by decide +kernel)) rfl
set_option maxRecDepth 100000 in
theorem tp_X1_setBy : yX1_setBy.cls ≠ "java/lang/invoke/MethodHandle" ∧ yX1_setBy.cls ≠ "java/lang/invoke/VarHandle" ∧ (parseMethodDescriptor yX1_setBy.desc).map (fun d => d.parameters.length) = some 3 := by decide +kernel
set_option maxRecDepth 100000 in
theorem tc_X1_tell : Cond.code yX1_tell cX1_tell 2 none ∈ TB := tb_m (List.mem_of_getElem? (i := 475) (by decide +kernel)) rfl
set_option maxRecDepth 100000 in
theorem ti_X1_tell : Cond.instanceMethod yX1_tell ∈ TB := tb_m (List.mem_of_getElem? (i := 473) (by decide +kernel)) rfl
set_option maxRecDepth 100000 in
theorem te_X1_tell : Cond.selects RX1 yX1_tell yX1_tell ∈ TB := tb_m (List.mem_of_getElem? (i := 474) (by decide +kernel)) rfl
set_option maxRecDepth 100000 in
theorem tp_X1_tell : yX1_tell.cls ≠ "java/lang/invoke/MethodHandle" ∧ yX1_tell.cls ≠ "java/lang/invoke/VarHandle" ∧ (parseMethodDescriptor yX1_tell.desc).map (fun d => d.parameters.length) = some 0 := by decide +kernel
set_option maxRecDepth 100000 in
theorem tc_X1_write : Cond.code yX1_write cX1_write 4 none ∈ TB := tb_m (List.mem_of_getElem? (i := 630) (by decide +kernel)) rfl
set_option maxRecDepth 100000 in
theorem ti_X1_write : Cond.instanceMethod yX1_write ∈ TB := tb_m (List.mem_of_getElem? (i := 628) (by decide +kernel)) rfl
set_option maxRecDepth 100000 in
theorem te_X1_write : Cond.selects RX1 yX1_write yX1_write ∈ TB := tb_m (List.mem_of_getElem? (i := 629) (by decide +kernel)) rfl
set_option maxRecDepth 100000 in
theorem tp_X1_write : yX1_write.cls ≠ "java/lang/invoke/MethodHandle" ∧ yX1_write.cls ≠ "java/lang/invoke/VarHandle" ∧ (parseMethodDescriptor yX1_write.desc).map (fun d => d.parameters.length) = some 3 := by decide +kernel
set_option maxRecDepth 100000 in
theorem tc_X2_init : Cond.code yX2_init cX2_init 1 none ∈ TB := tb_m (List.mem_of_getElem? (i := 98) (by decide +kernel)) rfl
set_option maxRecDepth 100000 in
theorem ti_X2_init : Cond.instanceMethod yX2_init ∈ TB := tb_m (List.mem_of_getElem? (i := 97) (by decide +kernel)) rfl
set_option maxRecDepth 100000 in
theorem tp_X2_init : yX2_init.cls ≠ "java/lang/invoke/MethodHandle" ∧ yX2_init.cls ≠ "java/lang/invoke/VarHandle" ∧ (parseMethodDescriptor yX2_init.desc).map (fun d => d.parameters.length) = some 0 := by decide +kernel
set_option maxRecDepth 100000 in
theorem tc_X2_areTogether : Cond.code yX2_areTogether cX2_areTogether 3 (some .boolean) ∈ TB := tb_m (List.mem_of_getElem? (i := 435) (by decide +kernel)) rfl
set_option maxRecDepth 100000 in
theorem ti_X2_areTogether : Cond.instanceMethod yX2_areTogether ∈ TB := tb_m (List.mem_of_getElem? (i := 433) (by decide +kernel)) rfl
set_option maxRecDepth 100000 in
theorem te_X2_areTogether : Cond.selects RX2 yX2_areTogether yX2_areTogether ∈ TB := tb_m (List.mem_of_getElem? (i := 434) (by decide +kernel)) rfl
set_option maxRecDepth 100000 in
theorem tp_X2_areTogether : yX2_areTogether.cls ≠ "java/lang/invoke/MethodHandle" ∧ yX2_areTogether.cls ≠ "java/lang/invoke/VarHandle" ∧ (parseMethodDescriptor yX2_areTogether.desc).map (fun d => d.parameters.length) = some 2 := by decide +kernel
set_option maxRecDepth 100000 in
theorem tc_X2_closedAt : Cond.code yX2_closedAt cX2_closedAt 4 (some .int) ∈ TB := tb_m (List.mem_of_getElem? (i := 492) (by decide +kernel)) rfl
set_option maxRecDepth 100000 in
theorem ti_X2_closedAt : Cond.instanceMethod yX2_closedAt ∈ TB := tb_m (List.mem_of_getElem? (i := 490) (by decide +kernel)) rfl
set_option maxRecDepth 100000 in
theorem te_X2_closedAt : Cond.selects RX2 yX2_closedAt yX2_closedAt ∈ TB := tb_m (List.mem_of_getElem? (i := 491) (by decide +kernel)) rfl
set_option maxRecDepth 100000 in
theorem tp_X2_closedAt : yX2_closedAt.cls ≠ "java/lang/invoke/MethodHandle" ∧ yX2_closedAt.cls ≠ "java/lang/invoke/VarHandle" ∧ (parseMethodDescriptor yX2_closedAt.desc).map (fun d => d.parameters.length) = some 1 := by decide +kernel
set_option maxRecDepth 100000 in
theorem tc_X2_copyFrom : Cond.code yX2_copyFrom cX2_copyFrom 2 none ∈ TB := tb_m (List.mem_of_getElem? (i := 393) (by decide +kernel)) rfl
set_option maxRecDepth 100000 in
theorem ti_X2_copyFrom : Cond.instanceMethod yX2_copyFrom ∈ TB := tb_m (List.mem_of_getElem? (i := 391) (by decide +kernel)) rfl
set_option maxRecDepth 100000 in
theorem te_X2_copyFrom : Cond.selects RX2 yX2_copyFrom yX2_copyFrom ∈ TB := tb_m (List.mem_of_getElem? (i := 392) (by decide +kernel)) rfl
set_option maxRecDepth 100000 in
theorem tp_X2_copyFrom : yX2_copyFrom.cls ≠ "java/lang/invoke/MethodHandle" ∧ yX2_copyFrom.cls ≠ "java/lang/invoke/VarHandle" ∧ (parseMethodDescriptor yX2_copyFrom.desc).map (fun d => d.parameters.length) = some 1 := by decide +kernel
set_option maxRecDepth 100000 in
theorem tc_X2_feed : Cond.code yX2_feed cX2_feed 2 none ∈ TB := tb_m (List.mem_of_getElem? (i := 418) (by decide +kernel)) rfl
set_option maxRecDepth 100000 in
theorem ti_X2_feed : Cond.instanceMethod yX2_feed ∈ TB := tb_m (List.mem_of_getElem? (i := 417) (by decide +kernel)) rfl
set_option maxRecDepth 100000 in
theorem te_X2_feed : Cond.selects RX2 yX2_feed yX2_feed ∈ TB := tb_m (List.mem_of_getElem? (i := 1) (by decide +kernel)) rfl
set_option maxRecDepth 100000 in
theorem tp_X2_feed : yX2_feed.cls ≠ "java/lang/invoke/MethodHandle" ∧ yX2_feed.cls ≠ "java/lang/invoke/VarHandle" ∧ (parseMethodDescriptor yX2_feed.desc).map (fun d => d.parameters.length) = some 0 := by decide +kernel
set_option maxRecDepth 100000 in
theorem tc_X2_groupSize : Cond.code yX2_groupSize cX2_groupSize 4 (some .int) ∈ TB := tb_m (List.mem_of_getElem? (i := 487) (by decide +kernel)) rfl
set_option maxRecDepth 100000 in
theorem ti_X2_groupSize : Cond.instanceMethod yX2_groupSize ∈ TB := tb_m (List.mem_of_getElem? (i := 485) (by decide +kernel)) rfl
set_option maxRecDepth 100000 in
theorem te_X2_groupSize : Cond.selects RX2 yX2_groupSize yX2_groupSize ∈ TB := tb_m (List.mem_of_getElem? (i := 486) (by decide +kernel)) rfl
set_option maxRecDepth 100000 in
theorem tp_X2_groupSize : yX2_groupSize.cls ≠ "java/lang/invoke/MethodHandle" ∧ yX2_groupSize.cls ≠ "java/lang/invoke/VarHandle" ∧ (parseMethodDescriptor yX2_groupSize.desc).map (fun d => d.parameters.length) = some 1 := by decide +kernel
set_option maxRecDepth 100000 in
theorem tc_X2_groups : Cond.code yX2_groups cX2_groups 3 (some .int) ∈ TB := tb_m (List.mem_of_getElem? (i := 547) (by decide +kernel)) rfl
set_option maxRecDepth 100000 in
theorem ti_X2_groups : Cond.instanceMethod yX2_groups ∈ TB := tb_m (List.mem_of_getElem? (i := 545) (by decide +kernel)) rfl
set_option maxRecDepth 100000 in
theorem te_X2_groups : Cond.selects RX2 yX2_groups yX2_groups ∈ TB := tb_m (List.mem_of_getElem? (i := 546) (by decide +kernel)) rfl
set_option maxRecDepth 100000 in
theorem tp_X2_groups : yX2_groups.cls ≠ "java/lang/invoke/MethodHandle" ∧ yX2_groups.cls ≠ "java/lang/invoke/VarHandle" ∧ (parseMethodDescriptor yX2_groups.desc).map (fun d => d.parameters.length) = some 0 := by decide +kernel
set_option maxRecDepth 100000 in
theorem tc_X2_isClosedAt : Cond.code yX2_isClosedAt cX2_isClosedAt 3 (some .boolean) ∈ TB := tb_m (List.mem_of_getElem? (i := 496) (by decide +kernel)) rfl
set_option maxRecDepth 100000 in
theorem ti_X2_isClosedAt : Cond.instanceMethod yX2_isClosedAt ∈ TB := tb_m (List.mem_of_getElem? (i := 494) (by decide +kernel)) rfl
set_option maxRecDepth 100000 in
theorem te_X2_isClosedAt : Cond.selects RX2 yX2_isClosedAt yX2_isClosedAt ∈ TB := tb_m (List.mem_of_getElem? (i := 495) (by decide +kernel)) rfl
set_option maxRecDepth 100000 in
theorem tp_X2_isClosedAt : yX2_isClosedAt.cls ≠ "java/lang/invoke/MethodHandle" ∧ yX2_isClosedAt.cls ≠ "java/lang/invoke/VarHandle" ∧ (parseMethodDescriptor yX2_isClosedAt.desc).map (fun d => d.parameters.length) = some 2 := by decide +kernel
set_option maxRecDepth 100000 in
theorem tc_X2_setFeeder : Cond.code yX2_setFeeder cX2_setFeeder 3 none ∈ TB := tb_m (List.mem_of_getElem? (i := 414) (by decide +kernel)) rfl
set_option maxRecDepth 100000 in
theorem ti_X2_setFeeder : Cond.instanceMethod yX2_setFeeder ∈ TB := tb_m (List.mem_of_getElem? (i := 412) (by decide +kernel)) rfl
set_option maxRecDepth 100000 in
theorem te_X2_setFeeder : Cond.selects RX2 yX2_setFeeder yX2_setFeeder ∈ TB := tb_m (List.mem_of_getElem? (i := 413) (by decide +kernel)) rfl
set_option maxRecDepth 100000 in
theorem tp_X2_setFeeder : yX2_setFeeder.cls ≠ "java/lang/invoke/MethodHandle" ∧ yX2_setFeeder.cls ≠ "java/lang/invoke/VarHandle" ∧ (parseMethodDescriptor yX2_setFeeder.desc).map (fun d => d.parameters.length) = some 2 := by decide +kernel
set_option maxRecDepth 100000 in
theorem tc_X2_setIsolator : Cond.code yX2_setIsolator cX2_setIsolator 4 none ∈ TB := tb_m (List.mem_of_getElem? (i := 443) (by decide +kernel)) rfl
set_option maxRecDepth 100000 in
theorem ti_X2_setIsolator : Cond.instanceMethod yX2_setIsolator ∈ TB := tb_m (List.mem_of_getElem? (i := 441) (by decide +kernel)) rfl
set_option maxRecDepth 100000 in
theorem te_X2_setIsolator : Cond.selects RX2 yX2_setIsolator yX2_setIsolator ∈ TB := tb_m (List.mem_of_getElem? (i := 442) (by decide +kernel)) rfl
set_option maxRecDepth 100000 in
theorem tp_X2_setIsolator : yX2_setIsolator.cls ≠ "java/lang/invoke/MethodHandle" ∧ yX2_setIsolator.cls ≠ "java/lang/invoke/VarHandle" ∧ (parseMethodDescriptor yX2_setIsolator.desc).map (fun d => d.parameters.length) = some 2 := by decide +kernel
set_option maxRecDepth 100000 in
theorem tc_X2_shareLowest : Cond.code yX2_shareLowest cX2_shareLowest 4 none ∈ TB := tb_m (List.mem_of_getElem? (i := 447) (by decide +kernel)) rfl
set_option maxRecDepth 100000 in
theorem ti_X2_shareLowest : Cond.instanceMethod yX2_shareLowest ∈ TB := tb_m (List.mem_of_getElem? (i := 446) (by decide +kernel)) rfl
set_option maxRecDepth 100000 in
theorem te_X2_shareLowest : Cond.selects RX2 yX2_shareLowest yX2_shareLowest ∈ TB := tb_m (List.mem_of_getElem? (i := 2) (by decide +kernel)) rfl
set_option maxRecDepth 100000 in
theorem tp_X2_shareLowest : yX2_shareLowest.cls ≠ "java/lang/invoke/MethodHandle" ∧ yX2_shareLowest.cls ≠ "java/lang/invoke/VarHandle" ∧ (parseMethodDescriptor yX2_shareLowest.desc).map (fun d => d.parameters.length) = some 0 := by decide +kernel
set_option maxRecDepth 100000 in
theorem tc_X3_init : Cond.code yX3_init cX3_init 1 none ∈ TB := tb_m (List.mem_of_getElem? (i := 312) (by decide +kernel)) rfl
set_option maxRecDepth 100000 in
theorem ti_X3_init : Cond.instanceMethod yX3_init ∈ TB := tb_m (List.mem_of_getElem? (i := 311) (by decide +kernel)) rfl
set_option maxRecDepth 100000 in
theorem tp_X3_init : yX3_init.cls ≠ "java/lang/invoke/MethodHandle" ∧ yX3_init.cls ≠ "java/lang/invoke/VarHandle" ∧ (parseMethodDescriptor yX3_init.desc).map (fun d => d.parameters.length) = some 0 := by decide +kernel
set_option maxRecDepth 100000 in
theorem tc_X3_add : Cond.code yX3_add cX3_add 3 none ∈ TB := tb_m (List.mem_of_getElem? (i := 650) (by decide +kernel)) rfl
set_option maxRecDepth 100000 in
theorem ti_X3_add : Cond.instanceMethod yX3_add ∈ TB := tb_m (List.mem_of_getElem? (i := 649) (by decide +kernel)) rfl
set_option maxRecDepth 100000 in
theorem te_X3_add : Cond.selects RX3 yX3_add yX3_add ∈ TB := tb_m (List.mem_of_getElem? (i := 21) (by decide +kernel)) rfl
set_option maxRecDepth 100000 in
theorem tp_X3_add : yX3_add.cls ≠ "java/lang/invoke/MethodHandle" ∧ yX3_add.cls ≠ "java/lang/invoke/VarHandle" ∧ (parseMethodDescriptor yX3_add.desc).map (fun d => d.parameters.length) = some 2 := by decide +kernel
set_option maxRecDepth 100000 in
theorem tc_X3_drawUp : Cond.code yX3_drawUp cX3_drawUp 4 none ∈ TB := tb_m (List.mem_of_getElem? (i := 646) (by decide +kernel)) rfl
set_option maxRecDepth 100000 in
theorem ti_X3_drawUp : Cond.instanceMethod yX3_drawUp ∈ TB := tb_m (List.mem_of_getElem? (i := 644) (by decide +kernel)) rfl
set_option maxRecDepth 100000 in
theorem te_X3_drawUp : Cond.selects RX3 yX3_drawUp yX3_drawUp ∈ TB := tb_m (List.mem_of_getElem? (i := 645) (by decide +kernel)) rfl
set_option maxRecDepth 100000 in
theorem tp_X3_drawUp : yX3_drawUp.cls ≠ "java/lang/invoke/MethodHandle" ∧ yX3_drawUp.cls ≠ "java/lang/invoke/VarHandle" ∧ (parseMethodDescriptor yX3_drawUp.desc).map (fun d => d.parameters.length) = some 2 := by decide +kernel
set_option maxRecDepth 100000 in
theorem tc_X4_init : Cond.code yX4_init cX4_init 1 none ∈ TB := tb_m (List.mem_of_getElem? (i := 334) (by decide +kernel)) rfl
set_option maxRecDepth 100000 in
theorem ti_X4_init : Cond.instanceMethod yX4_init ∈ TB := tb_m (List.mem_of_getElem? (i := 333) (by decide +kernel)) rfl
set_option maxRecDepth 100000 in
theorem tp_X4_init : yX4_init.cls ≠ "java/lang/invoke/MethodHandle" ∧ yX4_init.cls ≠ "java/lang/invoke/VarHandle" ∧ (parseMethodDescriptor yX4_init.desc).map (fun d => d.parameters.length) = some 0 := by decide +kernel
set_option maxRecDepth 100000 in
theorem tc_X4_begin : Cond.code yX4_begin cX4_begin 2 none ∈ TB := tb_m (List.mem_of_getElem? (i := 663) (by decide +kernel)) rfl
set_option maxRecDepth 100000 in
theorem ti_X4_begin : Cond.instanceMethod yX4_begin ∈ TB := tb_m (List.mem_of_getElem? (i := 662) (by decide +kernel)) rfl
set_option maxRecDepth 100000 in
theorem te_X4_begin : Cond.selects RX4 yX4_begin yX4_begin ∈ TB := tb_m (List.mem_of_getElem? (i := 22) (by decide +kernel)) rfl
set_option maxRecDepth 100000 in
theorem tp_X4_begin : yX4_begin.cls ≠ "java/lang/invoke/MethodHandle" ∧ yX4_begin.cls ≠ "java/lang/invoke/VarHandle" ∧ (parseMethodDescriptor yX4_begin.desc).map (fun d => d.parameters.length) = some 1 := by decide +kernel
set_option maxRecDepth 100000 in
theorem tc_X4_tryPlan : Cond.code yX4_tryPlan cX4_tryPlan 4 none ∈ TB := tb_m (List.mem_of_getElem? (i := 659) (by decide +kernel)) rfl
set_option maxRecDepth 100000 in
theorem ti_X4_tryPlan : Cond.instanceMethod yX4_tryPlan ∈ TB := tb_m (List.mem_of_getElem? (i := 657) (by decide +kernel)) rfl
set_option maxRecDepth 100000 in
theorem te_X4_tryPlan : Cond.selects RX4 yX4_tryPlan yX4_tryPlan ∈ TB := tb_m (List.mem_of_getElem? (i := 658) (by decide +kernel)) rfl
set_option maxRecDepth 100000 in
theorem tp_X4_tryPlan : yX4_tryPlan.cls ≠ "java/lang/invoke/MethodHandle" ∧ yX4_tryPlan.cls ≠ "java/lang/invoke/VarHandle" ∧ (parseMethodDescriptor yX4_tryPlan.desc).map (fun d => d.parameters.length) = some 2 := by decide +kernel
set_option maxRecDepth 100000 in
theorem tc_X4_tryText : Cond.code yX4_tryText cX4_tryText 4 none ∈ TB := tb_m (List.mem_of_getElem? (i := 710) (by decide +kernel)) rfl
set_option maxRecDepth 100000 in
theorem ti_X4_tryText : Cond.instanceMethod yX4_tryText ∈ TB := tb_m (List.mem_of_getElem? (i := 708) (by decide +kernel)) rfl
set_option maxRecDepth 100000 in
theorem te_X4_tryText : Cond.selects RX4 yX4_tryText yX4_tryText ∈ TB := tb_m (List.mem_of_getElem? (i := 709) (by decide +kernel)) rfl
set_option maxRecDepth 100000 in
theorem tp_X4_tryText : yX4_tryText.cls ≠ "java/lang/invoke/MethodHandle" ∧ yX4_tryText.cls ≠ "java/lang/invoke/VarHandle" ∧ (parseMethodDescriptor yX4_tryText.desc).map (fun d => d.parameters.length) = some 2 := by decide +kernel
set_option maxRecDepth 100000 in
theorem tc_X5_init : Cond.code yX5_init cX5_init 1 none ∈ TB := tb_m (List.mem_of_getElem? (i := 148) (by decide +kernel)) rfl
set_option maxRecDepth 100000 in
theorem ti_X5_init : Cond.instanceMethod yX5_init ∈ TB := tb_m (List.mem_of_getElem? (i := 147) (by decide +kernel)) rfl
set_option maxRecDepth 100000 in
theorem tp_X5_init : yX5_init.cls ≠ "java/lang/invoke/MethodHandle" ∧ yX5_init.cls ≠ "java/lang/invoke/VarHandle" ∧ (parseMethodDescriptor yX5_init.desc).map (fun d => d.parameters.length) = some 0 := by decide +kernel
set_option maxRecDepth 100000 in
theorem tc_X5_allTools : Cond.code yX5_allTools cX5_allTools 3 (some .int) ∈ TB := tb_m (List.mem_of_getElem? (i := 539) (by decide +kernel)) rfl
set_option maxRecDepth 100000 in
theorem ti_X5_allTools : Cond.instanceMethod yX5_allTools ∈ TB := tb_m (List.mem_of_getElem? (i := 537) (by decide +kernel)) rfl
set_option maxRecDepth 100000 in
theorem te_X5_allTools : Cond.selects RX5 yX5_allTools yX5_allTools ∈ TB := tb_m (List.mem_of_getElem? (i := 538) (by decide +kernel)) rfl
set_option maxRecDepth 100000 in
theorem tp_X5_allTools : yX5_allTools.cls ≠ "java/lang/invoke/MethodHandle" ∧ yX5_allTools.cls ≠ "java/lang/invoke/VarHandle" ∧ (parseMethodDescriptor yX5_allTools.desc).map (fun d => d.parameters.length) = some 0 := by decide +kernel
set_option maxRecDepth 100000 in
theorem tc_X5_bridgingBuses : Cond.code yX5_bridgingBuses cX5_bridgingBuses 3 (some .int) ∈ TB := tb_m (List.mem_of_getElem? (i := 455) (by decide +kernel)) rfl
set_option maxRecDepth 100000 in
theorem ti_X5_bridgingBuses : Cond.instanceMethod yX5_bridgingBuses ∈ TB := tb_m (List.mem_of_getElem? (i := 453) (by decide +kernel)) rfl
set_option maxRecDepth 100000 in
theorem te_X5_bridgingBuses : Cond.selects RX5 yX5_bridgingBuses yX5_bridgingBuses ∈ TB := tb_m (List.mem_of_getElem? (i := 454) (by decide +kernel)) rfl
set_option maxRecDepth 100000 in
theorem tp_X5_bridgingBuses : yX5_bridgingBuses.cls ≠ "java/lang/invoke/MethodHandle" ∧ yX5_bridgingBuses.cls ≠ "java/lang/invoke/VarHandle" ∧ (parseMethodDescriptor yX5_bridgingBuses.desc).map (fun d => d.parameters.length) = some 0 := by decide +kernel
set_option maxRecDepth 100000 in
theorem tc_X5_bringGang : Cond.code yX5_bringGang cX5_bringGang 4 none ∈ TB := tb_m (List.mem_of_getElem? (i := 675) (by decide +kernel)) rfl
set_option maxRecDepth 100000 in
theorem ti_X5_bringGang : Cond.instanceMethod yX5_bringGang ∈ TB := tb_m (List.mem_of_getElem? (i := 673) (by decide +kernel)) rfl
set_option maxRecDepth 100000 in
theorem te_X5_bringGang : Cond.selects RX5 yX5_bringGang yX5_bringGang ∈ TB := tb_m (List.mem_of_getElem? (i := 674) (by decide +kernel)) rfl
set_option maxRecDepth 100000 in
theorem tp_X5_bringGang : yX5_bringGang.cls ≠ "java/lang/invoke/MethodHandle" ∧ yX5_bringGang.cls ≠ "java/lang/invoke/VarHandle" ∧ (parseMethodDescriptor yX5_bringGang.desc).map (fun d => d.parameters.length) = some 3 := by decide +kernel
set_option maxRecDepth 100000 in
theorem tc_X5_copyFrom : Cond.code yX5_copyFrom cX5_copyFrom 2 none ∈ TB := tb_m (List.mem_of_getElem? (i := 400) (by decide +kernel)) rfl
set_option maxRecDepth 100000 in
theorem ti_X5_copyFrom : Cond.instanceMethod yX5_copyFrom ∈ TB := tb_m (List.mem_of_getElem? (i := 398) (by decide +kernel)) rfl
set_option maxRecDepth 100000 in
theorem te_X5_copyFrom : Cond.selects RX5 yX5_copyFrom yX5_copyFrom ∈ TB := tb_m (List.mem_of_getElem? (i := 399) (by decide +kernel)) rfl
set_option maxRecDepth 100000 in
theorem tp_X5_copyFrom : yX5_copyFrom.cls ≠ "java/lang/invoke/MethodHandle" ∧ yX5_copyFrom.cls ≠ "java/lang/invoke/VarHandle" ∧ (parseMethodDescriptor yX5_copyFrom.desc).map (fun d => d.parameters.length) = some 1 := by decide +kernel
set_option maxRecDepth 100000 in
theorem tc_X5_freeBuses : Cond.code yX5_freeBuses cX5_freeBuses 1 (some .int) ∈ TB := tb_m (List.mem_of_getElem? (i := 459) (by decide +kernel)) rfl
set_option maxRecDepth 100000 in
theorem ti_X5_freeBuses : Cond.instanceMethod yX5_freeBuses ∈ TB := tb_m (List.mem_of_getElem? (i := 457) (by decide +kernel)) rfl
set_option maxRecDepth 100000 in
theorem te_X5_freeBuses : Cond.selects RX5 yX5_freeBuses yX5_freeBuses ∈ TB := tb_m (List.mem_of_getElem? (i := 458) (by decide +kernel)) rfl
set_option maxRecDepth 100000 in
theorem tp_X5_freeBuses : yX5_freeBuses.cls ≠ "java/lang/invoke/MethodHandle" ∧ yX5_freeBuses.cls ≠ "java/lang/invoke/VarHandle" ∧ (parseMethodDescriptor yX5_freeBuses.desc).map (fun d => d.parameters.length) = some 0 := by decide +kernel
set_option maxRecDepth 100000 in
theorem tc_X5_lateGangs : Cond.code yX5_lateGangs cX5_lateGangs 3 (some .int) ∈ TB := tb_m (List.mem_of_getElem? (i := 543) (by decide +kernel)) rfl
set_option maxRecDepth 100000 in
theorem ti_X5_lateGangs : Cond.instanceMethod yX5_lateGangs ∈ TB := tb_m (List.mem_of_getElem? (i := 541) (by decide +kernel)) rfl
set_option maxRecDepth 100000 in
theorem te_X5_lateGangs : Cond.selects RX5 yX5_lateGangs yX5_lateGangs ∈ TB := tb_m (List.mem_of_getElem? (i := 542) (by decide +kernel)) rfl
set_option maxRecDepth 100000 in
theorem tp_X5_lateGangs : yX5_lateGangs.cls ≠ "java/lang/invoke/MethodHandle" ∧ yX5_lateGangs.cls ≠ "java/lang/invoke/VarHandle" ∧ (parseMethodDescriptor yX5_lateGangs.desc).map (fun d => d.parameters.length) = some 0 := by decide +kernel
set_option maxRecDepth 100000 in
theorem tc_X5_sendGangOff : Cond.code yX5_sendGangOff cX5_sendGangOff 4 (some .int) ∈ TB := tb_m (List.mem_of_getElem? (i := 683) (by decide +kernel)) rfl
set_option maxRecDepth 100000 in
theorem ti_X5_sendGangOff : Cond.instanceMethod yX5_sendGangOff ∈ TB := tb_m (List.mem_of_getElem? (i := 681) (by decide +kernel)) rfl
set_option maxRecDepth 100000 in
theorem te_X5_sendGangOff : Cond.selects RX5 yX5_sendGangOff yX5_sendGangOff ∈ TB := tb_m (List.mem_of_getElem? (i := 682) (by decide +kernel)) rfl
set_option maxRecDepth 100000 in
theorem tp_X5_sendGangOff : yX5_sendGangOff.cls ≠ "java/lang/invoke/MethodHandle" ∧ yX5_sendGangOff.cls ≠ "java/lang/invoke/VarHandle" ∧ (parseMethodDescriptor yX5_sendGangOff.desc).map (fun d => d.parameters.length) = some 2 := by decide +kernel
set_option maxRecDepth 100000 in
theorem tc_X6_init : Cond.code yX6_init cX6_init 1 none ∈ TB := tb_m (List.mem_of_getElem? (i := 284) (by decide +kernel)) rfl
set_option maxRecDepth 100000 in
theorem ti_X6_init : Cond.instanceMethod yX6_init ∈ TB := tb_m (List.mem_of_getElem? (i := 283) (by decide +kernel)) rfl
set_option maxRecDepth 100000 in
theorem tp_X6_init : yX6_init.cls ≠ "java/lang/invoke/MethodHandle" ∧ yX6_init.cls ≠ "java/lang/invoke/VarHandle" ∧ (parseMethodDescriptor yX6_init.desc).map (fun d => d.parameters.length) = some 0 := by decide +kernel
set_option maxRecDepth 100000 in
theorem tc_X6_characterAt : Cond.code yX6_characterAt cX6_characterAt 2 (some .int) ∈ TB := tb_m (List.mem_of_getElem? (i := 718) (by decide +kernel)) rfl
set_option maxRecDepth 100000 in
theorem ti_X6_characterAt : Cond.instanceMethod yX6_characterAt ∈ TB := tb_m (List.mem_of_getElem? (i := 717) (by decide +kernel)) rfl
set_option maxRecDepth 100000 in
theorem te_X6_characterAt : Cond.selects RX6 yX6_characterAt yX6_characterAt ∈ TB := tb_m (List.mem_of_getElem? (i := 23) (by decide +kernel)) rfl
set_option maxRecDepth 100000 in
theorem tp_X6_characterAt : yX6_characterAt.cls ≠ "java/lang/invoke/MethodHandle" ∧ yX6_characterAt.cls ≠ "java/lang/invoke/VarHandle" ∧ (parseMethodDescriptor yX6_characterAt.desc).map (fun d => d.parameters.length) = some 1 := by decide +kernel
set_option maxRecDepth 100000 in
theorem tc_X6_digitAt : Cond.code yX6_digitAt cX6_digitAt 3 (some .int) ∈ TB := tb_m (List.mem_of_getElem? (i := 726) (by decide +kernel)) rfl
set_option maxRecDepth 100000 in
theorem ti_X6_digitAt : Cond.instanceMethod yX6_digitAt ∈ TB := tb_m (List.mem_of_getElem? (i := 725) (by decide +kernel)) rfl
set_option maxRecDepth 100000 in
theorem te_X6_digitAt : Cond.selects RX6 yX6_digitAt yX6_digitAt ∈ TB := tb_m (List.mem_of_getElem? (i := 24) (by decide +kernel)) rfl
set_option maxRecDepth 100000 in
theorem tp_X6_digitAt : yX6_digitAt.cls ≠ "java/lang/invoke/MethodHandle" ∧ yX6_digitAt.cls ≠ "java/lang/invoke/VarHandle" ∧ (parseMethodDescriptor yX6_digitAt.desc).map (fun d => d.parameters.length) = some 1 := by decide +kernel
set_option maxRecDepth 100000 in
theorem tc_X6_kindOf : Cond.code yX6_kindOf cX6_kindOf 1 (some .int) ∈ TB := tb_m (List.mem_of_getElem? (i := 722) (by decide +kernel)) rfl
set_option maxRecDepth 100000 in
theorem ts_X6_kindOf : Cond.static yX6_kindOf ∈ TB := tb_m (List.mem_of_getElem? (i := 721) (by decide +kernel)) rfl
set_option maxRecDepth 100000 in
theorem tp_X6_kindOf : yX6_kindOf.cls ≠ "java/lang/invoke/MethodHandle" ∧ yX6_kindOf.cls ≠ "java/lang/invoke/VarHandle" ∧ (parseMethodDescriptor yX6_kindOf.desc).map (fun d => d.parameters.length) = some 1 := by decide +kernel
set_option maxRecDepth 100000 in
theorem tc_X6_readStep : Cond.code yX6_readStep cX6_readStep 5 (some .boolean) ∈ TB := tb_m (List.mem_of_getElem? (i := 714) (by decide +kernel)) rfl
set_option maxRecDepth 100000 in
theorem ti_X6_readStep : Cond.instanceMethod yX6_readStep ∈ TB := tb_m (List.mem_of_getElem? (i := 712) (by decide +kernel)) rfl
set_option maxRecDepth 100000 in
theorem te_X6_readStep : Cond.selects RX6 yX6_readStep yX6_readStep ∈ TB := tb_m (List.mem_of_getElem? (i := 713) (by decide +kernel)) rfl
set_option maxRecDepth 100000 in
theorem tp_X6_readStep : yX6_readStep.cls ≠ "java/lang/invoke/MethodHandle" ∧ yX6_readStep.cls ≠ "java/lang/invoke/VarHandle" ∧ (parseMethodDescriptor yX6_readStep.desc).map (fun d => d.parameters.length) = some 1 := by decide +kernel
set_option maxRecDepth 100000 in
theorem tc_X7_init : Cond.code yX7_init cX7_init 1 none ∈ TB := tb_m (List.mem_of_getElem? (i := 92) (by decide +kernel)) rfl
set_option maxRecDepth 100000 in
theorem ti_X7_init : Cond.instanceMethod yX7_init ∈ TB := tb_m (List.mem_of_getElem? (i := 91) (by decide +kernel)) rfl
set_option maxRecDepth 100000 in
theorem tp_X7_init : yX7_init.cls ≠ "java/lang/invoke/MethodHandle" ∧ yX7_init.cls ≠ "java/lang/invoke/VarHandle" ∧ (parseMethodDescriptor yX7_init.desc).map (fun d => d.parameters.length) = some 0 := by decide +kernel
set_option maxRecDepth 100000 in
theorem tc_X7_addIsolator : Cond.code yX7_addIsolator cX7_addIsolator 4 (some .int) ∈ TB := tb_m (List.mem_of_getElem? (i := 439) (by decide +kernel)) rfl
set_option maxRecDepth 100000 in
theorem ti_X7_addIsolator : Cond.instanceMethod yX7_addIsolator ∈ TB := tb_m (List.mem_of_getElem? (i := 437) (by decide +kernel)) rfl
set_option maxRecDepth 100000 in
theorem te_X7_addIsolator : Cond.selects RX7 yX7_addIsolator yX7_addIsolator ∈ TB := tb_m (List.mem_of_getElem? (i := 438) (by decide +kernel)) rfl
set_option maxRecDepth 100000 in
theorem tp_X7_addIsolator : yX7_addIsolator.cls ≠ "java/lang/invoke/MethodHandle" ∧ yX7_addIsolator.cls ≠ "java/lang/invoke/VarHandle" ∧ (parseMethodDescriptor yX7_addIsolator.desc).map (fun d => d.parameters.length) = some 2 := by decide +kernel
set_option maxRecDepth 100000 in
theorem tc_X7_addSection : Cond.code yX7_addSection cX7_addSection 4 (some .int) ∈ TB := tb_m (List.mem_of_getElem? (i := 410) (by decide +kernel)) rfl
set_option maxRecDepth 100000 in
theorem ti_X7_addSection : Cond.instanceMethod yX7_addSection ∈ TB := tb_m (List.mem_of_getElem? (i := 408) (by decide +kernel)) rfl
set_option maxRecDepth 100000 in
theorem te_X7_addSection : Cond.selects RX7 yX7_addSection yX7_addSection ∈ TB := tb_m (List.mem_of_getElem? (i := 409) (by decide +kernel)) rfl
set_option maxRecDepth 100000 in
theorem tp_X7_addSection : yX7_addSection.cls ≠ "java/lang/invoke/MethodHandle" ∧ yX7_addSection.cls ≠ "java/lang/invoke/VarHandle" ∧ (parseMethodDescriptor yX7_addSection.desc).map (fun d => d.parameters.length) = some 2 := by decide +kernel
set_option maxRecDepth 100000 in
theorem tc_X7_againstBridging : Cond.code yX7_againstBridging cX7_againstBridging 2 (some .int) ∈ TB := tb_m (List.mem_of_getElem? (i := 573) (by decide +kernel)) rfl
set_option maxRecDepth 100000 in
theorem ti_X7_againstBridging : Cond.instanceMethod yX7_againstBridging ∈ TB := tb_m (List.mem_of_getElem? (i := 572) (by decide +kernel)) rfl
set_option maxRecDepth 100000 in
theorem te_X7_againstBridging : Cond.selects RX7 yX7_againstBridging yX7_againstBridging ∈ TB := tb_m (List.mem_of_getElem? (i := 8) (by decide +kernel)) rfl
set_option maxRecDepth 100000 in
theorem tp_X7_againstBridging : yX7_againstBridging.cls ≠ "java/lang/invoke/MethodHandle" ∧ yX7_againstBridging.cls ≠ "java/lang/invoke/VarHandle" ∧ (parseMethodDescriptor yX7_againstBridging.desc).map (fun d => d.parameters.length) = some 1 := by decide +kernel
set_option maxRecDepth 100000 in
theorem tc_X7_againstClosing : Cond.code yX7_againstClosing cX7_againstClosing 2 (some .int) ∈ TB := tb_m (List.mem_of_getElem? (i := 590) (by decide +kernel)) rfl
set_option maxRecDepth 100000 in
theorem ti_X7_againstClosing : Cond.instanceMethod yX7_againstClosing ∈ TB := tb_m (List.mem_of_getElem? (i := 589) (by decide +kernel)) rfl
set_option maxRecDepth 100000 in
theorem te_X7_againstClosing : Cond.selects RX7 yX7_againstClosing yX7_againstClosing ∈ TB := tb_m (List.mem_of_getElem? (i := 12) (by decide +kernel)) rfl
set_option maxRecDepth 100000 in
theorem tp_X7_againstClosing : yX7_againstClosing.cls ≠ "java/lang/invoke/MethodHandle" ∧ yX7_againstClosing.cls ≠ "java/lang/invoke/VarHandle" ∧ (parseMethodDescriptor yX7_againstClosing.desc).map (fun d => d.parameters.length) = some 1 := by decide +kernel
set_option maxRecDepth 100000 in
theorem tc_X7_againstEarthing : Cond.code yX7_againstEarthing cX7_againstEarthing 2 (some .int) ∈ TB := tb_m (List.mem_of_getElem? (i := 614) (by decide +kernel)) rfl
set_option maxRecDepth 100000 in
theorem ti_X7_againstEarthing : Cond.instanceMethod yX7_againstEarthing ∈ TB := tb_m (List.mem_of_getElem? (i := 613) (by decide +kernel)) rfl
set_option maxRecDepth 100000 in
theorem te_X7_againstEarthing : Cond.selects RX7 yX7_againstEarthing yX7_againstEarthing ∈ TB := tb_m (List.mem_of_getElem? (i := 18) (by decide +kernel)) rfl
set_option maxRecDepth 100000 in
theorem tp_X7_againstEarthing : yX7_againstEarthing.cls ≠ "java/lang/invoke/MethodHandle" ∧ yX7_againstEarthing.cls ≠ "java/lang/invoke/VarHandle" ∧ (parseMethodDescriptor yX7_againstEarthing.desc).map (fun d => d.parameters.length) = some 1 := by decide +kernel
set_option maxRecDepth 100000 in
theorem tc_X7_againstOpening : Cond.code yX7_againstOpening cX7_againstOpening 2 (some .int) ∈ TB := tb_m (List.mem_of_getElem? (i := 582) (by decide +kernel)) rfl
set_option maxRecDepth 100000 in
theorem ti_X7_againstOpening : Cond.instanceMethod yX7_againstOpening ∈ TB := tb_m (List.mem_of_getElem? (i := 581) (by decide +kernel)) rfl
set_option maxRecDepth 100000 in
theorem te_X7_againstOpening : Cond.selects RX7 yX7_againstOpening yX7_againstOpening ∈ TB := tb_m (List.mem_of_getElem? (i := 10) (by decide +kernel)) rfl
set_option maxRecDepth 100000 in
theorem tp_X7_againstOpening : yX7_againstOpening.cls ≠ "java/lang/invoke/MethodHandle" ∧ yX7_againstOpening.cls ≠ "java/lang/invoke/VarHandle" ∧ (parseMethodDescriptor yX7_againstOpening.desc).map (fun d => d.parameters.length) = some 1 := by decide +kernel
set_option maxRecDepth 100000 in
theorem tc_X7_againstTakingEarth : Cond.code yX7_againstTakingEarth cX7_againstTakingEarth 2 (some .int) ∈ TB := tb_m (List.mem_of_getElem? (i := 618) (by decide +kernel)) rfl
set_option maxRecDepth 100000 in
theorem ti_X7_againstTakingEarth : Cond.instanceMethod yX7_againstTakingEarth ∈ TB := tb_m (List.mem_of_getElem? (i := 617) (by decide +kernel)) rfl
set_option maxRecDepth 100000 in
theorem te_X7_againstTakingEarth : Cond.selects RX7 yX7_againstTakingEarth yX7_againstTakingEarth ∈ TB := tb_m (List.mem_of_getElem? (i := 19) (by decide +kernel)) rfl
set_option maxRecDepth 100000 in
theorem tp_X7_againstTakingEarth : yX7_againstTakingEarth.cls ≠ "java/lang/invoke/MethodHandle" ∧ yX7_againstTakingEarth.cls ≠ "java/lang/invoke/VarHandle" ∧ (parseMethodDescriptor yX7_againstTakingEarth.desc).map (fun d => d.parameters.length) = some 1 := by decide +kernel
set_option maxRecDepth 100000 in
theorem tc_X7_againstTrams : Cond.code yX7_againstTrams cX7_againstTrams 2 (some .int) ∈ TB := tb_m (List.mem_of_getElem? (i := 578) (by decide +kernel)) rfl
set_option maxRecDepth 100000 in
theorem ti_X7_againstTrams : Cond.instanceMethod yX7_againstTrams ∈ TB := tb_m (List.mem_of_getElem? (i := 577) (by decide +kernel)) rfl
set_option maxRecDepth 100000 in
theorem te_X7_againstTrams : Cond.selects RX7 yX7_againstTrams yX7_againstTrams ∈ TB := tb_m (List.mem_of_getElem? (i := 9) (by decide +kernel)) rfl
set_option maxRecDepth 100000 in
theorem tp_X7_againstTrams : yX7_againstTrams.cls ≠ "java/lang/invoke/MethodHandle" ∧ yX7_againstTrams.cls ≠ "java/lang/invoke/VarHandle" ∧ (parseMethodDescriptor yX7_againstTrams.desc).map (fun d => d.parameters.length) = some 1 := by decide +kernel
set_option maxRecDepth 100000 in
theorem tc_X7_againstTurningOff : Cond.code yX7_againstTurningOff cX7_againstTurningOff 2 (some .int) ∈ TB := tb_m (List.mem_of_getElem? (i := 602) (by decide +kernel)) rfl
set_option maxRecDepth 100000 in
theorem ti_X7_againstTurningOff : Cond.instanceMethod yX7_againstTurningOff ∈ TB := tb_m (List.mem_of_getElem? (i := 601) (by decide +kernel)) rfl
set_option maxRecDepth 100000 in
theorem te_X7_againstTurningOff : Cond.selects RX7 yX7_againstTurningOff yX7_againstTurningOff ∈ TB := tb_m (List.mem_of_getElem? (i := 15) (by decide +kernel)) rfl
set_option maxRecDepth 100000 in
theorem tp_X7_againstTurningOff : yX7_againstTurningOff.cls ≠ "java/lang/invoke/MethodHandle" ∧ yX7_againstTurningOff.cls ≠ "java/lang/invoke/VarHandle" ∧ (parseMethodDescriptor yX7_againstTurningOff.desc).map (fun d => d.parameters.length) = some 1 := by decide +kernel
set_option maxRecDepth 100000 in
theorem tc_X7_againstTurningOn : Cond.code yX7_againstTurningOn cX7_againstTurningOn 2 (some .int) ∈ TB := tb_m (List.mem_of_getElem? (i := 610) (by decide +kernel)) rfl
set_option maxRecDepth 100000 in
theorem ti_X7_againstTurningOn : Cond.instanceMethod yX7_againstTurningOn ∈ TB := tb_m (List.mem_of_getElem? (i := 609) (by decide +kernel)) rfl
set_option maxRecDepth 100000 in
theorem te_X7_againstTurningOn : Cond.selects RX7 yX7_againstTurningOn yX7_againstTurningOn ∈ TB := tb_m (List.mem_of_getElem? (i := 17) (by decide +kernel)) rfl
set_option maxRecDepth 100000 in
theorem tp_X7_againstTurningOn : yX7_againstTurningOn.cls ≠ "java/lang/invoke/MethodHandle" ∧ yX7_againstTurningOn.cls ≠ "java/lang/invoke/VarHandle" ∧ (parseMethodDescriptor yX7_againstTurningOn.desc).map (fun d => d.parameters.length) = some 1 := by decide +kernel
set_option maxRecDepth 100000 in
theorem tc_X7_copyFrom : Cond.code yX7_copyFrom cX7_copyFrom 2 none ∈ TB := tb_m (List.mem_of_getElem? (i := 389) (by decide +kernel)) rfl
set_option maxRecDepth 100000 in
theorem ti_X7_copyFrom : Cond.instanceMethod yX7_copyFrom ∈ TB := tb_m (List.mem_of_getElem? (i := 387) (by decide +kernel)) rfl
set_option maxRecDepth 100000 in
theorem te_X7_copyFrom : Cond.selects RX7 yX7_copyFrom yX7_copyFrom ∈ TB := tb_m (List.mem_of_getElem? (i := 388) (by decide +kernel)) rfl
set_option maxRecDepth 100000 in
theorem tp_X7_copyFrom : yX7_copyFrom.cls ≠ "java/lang/invoke/MethodHandle" ∧ yX7_copyFrom.cls ≠ "java/lang/invoke/VarHandle" ∧ (parseMethodDescriptor yX7_copyFrom.desc).map (fun d => d.parameters.length) = some 1 := by decide +kernel
set_option maxRecDepth 100000 in
theorem tc_X7_darkenedByOpening : Cond.code yX7_darkenedByOpening cX7_darkenedByOpening 4 (some .int) ∈ TB := tb_m (List.mem_of_getElem? (i := 512) (by decide +kernel)) rfl
set_option maxRecDepth 100000 in
theorem ti_X7_darkenedByOpening : Cond.instanceMethod yX7_darkenedByOpening ∈ TB := tb_m (List.mem_of_getElem? (i := 510) (by decide +kernel)) rfl
set_option maxRecDepth 100000 in
theorem te_X7_darkenedByOpening : Cond.selects RX7 yX7_darkenedByOpening yX7_darkenedByOpening ∈ TB := tb_m (List.mem_of_getElem? (i := 511) (by decide +kernel)) rfl
set_option maxRecDepth 100000 in
theorem tp_X7_darkenedByOpening : yX7_darkenedByOpening.cls ≠ "java/lang/invoke/MethodHandle" ∧ yX7_darkenedByOpening.cls ≠ "java/lang/invoke/VarHandle" ∧ (parseMethodDescriptor yX7_darkenedByOpening.desc).map (fun d => d.parameters.length) = some 1 := by decide +kernel
set_option maxRecDepth 100000 in
theorem tc_X7_goOutward : Cond.code yX7_goOutward cX7_goOutward 4 none ∈ TB := tb_m (List.mem_of_getElem? (i := 483) (by decide +kernel)) rfl
set_option maxRecDepth 100000 in
theorem ti_X7_goOutward : Cond.instanceMethod yX7_goOutward ∈ TB := tb_m (List.mem_of_getElem? (i := 482) (by decide +kernel)) rfl
set_option maxRecDepth 100000 in
theorem te_X7_goOutward : Cond.selects RX7 yX7_goOutward yX7_goOutward ∈ TB := tb_m (List.mem_of_getElem? (i := 4) (by decide +kernel)) rfl
set_option maxRecDepth 100000 in
theorem tp_X7_goOutward : yX7_goOutward.cls ≠ "java/lang/invoke/MethodHandle" ∧ yX7_goOutward.cls ≠ "java/lang/invoke/VarHandle" ∧ (parseMethodDescriptor yX7_goOutward.desc).map (fun d => d.parameters.length) = some 0 := by decide +kernel
set_option maxRecDepth 100000 in
theorem tc_X7_hasIsolator : Cond.code yX7_hasIsolator cX7_hasIsolator 2 (some .boolean) ∈ TB := tb_m (List.mem_of_getElem? (i := 504) (by decide +kernel)) rfl
set_option maxRecDepth 100000 in
theorem ti_X7_hasIsolator : Cond.instanceMethod yX7_hasIsolator ∈ TB := tb_m (List.mem_of_getElem? (i := 502) (by decide +kernel)) rfl
set_option maxRecDepth 100000 in
theorem te_X7_hasIsolator : Cond.selects RX7 yX7_hasIsolator yX7_hasIsolator ∈ TB := tb_m (List.mem_of_getElem? (i := 503) (by decide +kernel)) rfl
set_option maxRecDepth 100000 in
theorem tp_X7_hasIsolator : yX7_hasIsolator.cls ≠ "java/lang/invoke/MethodHandle" ∧ yX7_hasIsolator.cls ≠ "java/lang/invoke/VarHandle" ∧ (parseMethodDescriptor yX7_hasIsolator.desc).map (fun d => d.parameters.length) = some 1 := by decide +kernel
set_option maxRecDepth 100000 in
theorem tc_X7_hasPlace : Cond.code yX7_hasPlace cX7_hasPlace 3 (some .boolean) ∈ TB := tb_m (List.mem_of_getElem? (i := 563) (by decide +kernel)) rfl
set_option maxRecDepth 100000 in
theorem ti_X7_hasPlace : Cond.instanceMethod yX7_hasPlace ∈ TB := tb_m (List.mem_of_getElem? (i := 561) (by decide +kernel)) rfl
set_option maxRecDepth 100000 in
theorem te_X7_hasPlace : Cond.selects RX7 yX7_hasPlace yX7_hasPlace ∈ TB := tb_m (List.mem_of_getElem? (i := 562) (by decide +kernel)) rfl
set_option maxRecDepth 100000 in
theorem tp_X7_hasPlace : yX7_hasPlace.cls ≠ "java/lang/invoke/MethodHandle" ∧ yX7_hasPlace.cls ≠ "java/lang/invoke/VarHandle" ∧ (parseMethodDescriptor yX7_hasPlace.desc).map (fun d => d.parameters.length) = some 2 := by decide +kernel
set_option maxRecDepth 100000 in
theorem tc_X7_hasSection : Cond.code yX7_hasSection cX7_hasSection 2 (some .boolean) ∈ TB := tb_m (List.mem_of_getElem? (i := 426) (by decide +kernel)) rfl
set_option maxRecDepth 100000 in
theorem ti_X7_hasSection : Cond.instanceMethod yX7_hasSection ∈ TB := tb_m (List.mem_of_getElem? (i := 424) (by decide +kernel)) rfl
set_option maxRecDepth 100000 in
theorem te_X7_hasSection : Cond.selects RX7 yX7_hasSection yX7_hasSection ∈ TB := tb_m (List.mem_of_getElem? (i := 425) (by decide +kernel)) rfl
set_option maxRecDepth 100000 in
theorem tp_X7_hasSection : yX7_hasSection.cls ≠ "java/lang/invoke/MethodHandle" ∧ yX7_hasSection.cls ≠ "java/lang/invoke/VarHandle" ∧ (parseMethodDescriptor yX7_hasSection.desc).map (fun d => d.parameters.length) = some 1 := by decide +kernel
set_option maxRecDepth 100000 in
theorem tc_X7_isClosedByLog : Cond.code yX7_isClosedByLog cX7_isClosedByLog 2 (some .boolean) ∈ TB := tb_m (List.mem_of_getElem? (i := 508) (by decide +kernel)) rfl
set_option maxRecDepth 100000 in
theorem ti_X7_isClosedByLog : Cond.instanceMethod yX7_isClosedByLog ∈ TB := tb_m (List.mem_of_getElem? (i := 506) (by decide +kernel)) rfl
set_option maxRecDepth 100000 in
theorem te_X7_isClosedByLog : Cond.selects RX7 yX7_isClosedByLog yX7_isClosedByLog ∈ TB := tb_m (List.mem_of_getElem? (i := 507) (by decide +kernel)) rfl
set_option maxRecDepth 100000 in
theorem tp_X7_isClosedByLog : yX7_isClosedByLog.cls ≠ "java/lang/invoke/MethodHandle" ∧ yX7_isClosedByLog.cls ≠ "java/lang/invoke/VarHandle" ∧ (parseMethodDescriptor yX7_isClosedByLog.desc).map (fun d => d.parameters.length) = some 1 := by decide +kernel
set_option maxRecDepth 100000 in
theorem tc_X7_isLiveByLog : Cond.code yX7_isLiveByLog cX7_isLiveByLog 3 (some .boolean) ∈ TB := tb_m (List.mem_of_getElem? (i := 471) (by decide +kernel)) rfl
set_option maxRecDepth 100000 in
theorem ti_X7_isLiveByLog : Cond.instanceMethod yX7_isLiveByLog ∈ TB := tb_m (List.mem_of_getElem? (i := 469) (by decide +kernel)) rfl
set_option maxRecDepth 100000 in
theorem te_X7_isLiveByLog : Cond.selects RX7 yX7_isLiveByLog yX7_isLiveByLog ∈ TB := tb_m (List.mem_of_getElem? (i := 470) (by decide +kernel)) rfl
set_option maxRecDepth 100000 in
theorem tp_X7_isLiveByLog : yX7_isLiveByLog.cls ≠ "java/lang/invoke/MethodHandle" ∧ yX7_isLiveByLog.cls ≠ "java/lang/invoke/VarHandle" ∧ (parseMethodDescriptor yX7_isLiveByLog.desc).map (fun d => d.parameters.length) = some 1 := by decide +kernel
set_option maxRecDepth 100000 in
theorem tc_X7_joiningEndangers : Cond.code yX7_joiningEndangers cX7_joiningEndangers 7 (some .boolean) ∈ TB := tb_m (List.mem_of_getElem? (i := 431) (by decide +kernel)) rfl
set_option maxRecDepth 100000 in
theorem ti_X7_joiningEndangers : Cond.instanceMethod yX7_joiningEndangers ∈ TB := tb_m (List.mem_of_getElem? (i := 429) (by decide +kernel)) rfl
set_option maxRecDepth 100000 in
theorem te_X7_joiningEndangers : Cond.selects RX7 yX7_joiningEndangers yX7_joiningEndangers ∈ TB := tb_m (List.mem_of_getElem? (i := 430) (by decide +kernel)) rfl
set_option maxRecDepth 100000 in
theorem tp_X7_joiningEndangers : yX7_joiningEndangers.cls ≠ "java/lang/invoke/MethodHandle" ∧ yX7_joiningEndangers.cls ≠ "java/lang/invoke/VarHandle" ∧ (parseMethodDescriptor yX7_joiningEndangers.desc).map (fun d => d.parameters.length) = some 2 := by decide +kernel
set_option maxRecDepth 100000 in
theorem tc_X7_litByClosing : Cond.code yX7_litByClosing cX7_litByClosing 4 (some .int) ∈ TB := tb_m (List.mem_of_getElem? (i := 524) (by decide +kernel)) rfl
set_option maxRecDepth 100000 in
theorem ti_X7_litByClosing : Cond.instanceMethod yX7_litByClosing ∈ TB := tb_m (List.mem_of_getElem? (i := 522) (by decide +kernel)) rfl
set_option maxRecDepth 100000 in
theorem te_X7_litByClosing : Cond.selects RX7 yX7_litByClosing yX7_litByClosing ∈ TB := tb_m (List.mem_of_getElem? (i := 523) (by decide +kernel)) rfl
set_option maxRecDepth 100000 in
theorem tp_X7_litByClosing : yX7_litByClosing.cls ≠ "java/lang/invoke/MethodHandle" ∧ yX7_litByClosing.cls ≠ "java/lang/invoke/VarHandle" ∧ (parseMethodDescriptor yX7_litByClosing.desc).map (fun d => d.parameters.length) = some 1 := by decide +kernel
set_option maxRecDepth 100000 in
theorem tc_X7_make : Cond.code yX7_make cX7_make 3 none ∈ TB := tb_m (List.mem_of_getElem? (i := 626) (by decide +kernel)) rfl
set_option maxRecDepth 100000 in
theorem ti_X7_make : Cond.instanceMethod yX7_make ∈ TB := tb_m (List.mem_of_getElem? (i := 624) (by decide +kernel)) rfl
set_option maxRecDepth 100000 in
theorem te_X7_make : Cond.selects RX7 yX7_make yX7_make ∈ TB := tb_m (List.mem_of_getElem? (i := 625) (by decide +kernel)) rfl
set_option maxRecDepth 100000 in
theorem tp_X7_make : yX7_make.cls ≠ "java/lang/invoke/MethodHandle" ∧ yX7_make.cls ≠ "java/lang/invoke/VarHandle" ∧ (parseMethodDescriptor yX7_make.desc).map (fun d => d.parameters.length) = some 2 := by decide +kernel
set_option maxRecDepth 100000 in
theorem tc_X7_reasonAgainst : Cond.code yX7_reasonAgainst cX7_reasonAgainst 3 (some .int) ∈ TB := tb_m (List.mem_of_getElem? (i := 569) (by decide +kernel)) rfl
set_option maxRecDepth 100000 in
theorem ti_X7_reasonAgainst : Cond.instanceMethod yX7_reasonAgainst ∈ TB := tb_m (List.mem_of_getElem? (i := 567) (by decide +kernel)) rfl
set_option maxRecDepth 100000 in
theorem te_X7_reasonAgainst : Cond.selects RX7 yX7_reasonAgainst yX7_reasonAgainst ∈ TB := tb_m (List.mem_of_getElem? (i := 568) (by decide +kernel)) rfl
set_option maxRecDepth 100000 in
theorem tp_X7_reasonAgainst : yX7_reasonAgainst.cls ≠ "java/lang/invoke/MethodHandle" ∧ yX7_reasonAgainst.cls ≠ "java/lang/invoke/VarHandle" ∧ (parseMethodDescriptor yX7_reasonAgainst.desc).map (fun d => d.parameters.length) = some 2 := by decide +kernel
set_option maxRecDepth 100000 in
theorem tc_X7_supposeFeeder : Cond.code yX7_supposeFeeder cX7_supposeFeeder 3 none ∈ TB := tb_m (List.mem_of_getElem? (i := 606) (by decide +kernel)) rfl
set_option maxRecDepth 100000 in
theorem ti_X7_supposeFeeder : Cond.instanceMethod yX7_supposeFeeder ∈ TB := tb_m (List.mem_of_getElem? (i := 605) (by decide +kernel)) rfl
set_option maxRecDepth 100000 in
theorem te_X7_supposeFeeder : Cond.selects RX7 yX7_supposeFeeder yX7_supposeFeeder ∈ TB := tb_m (List.mem_of_getElem? (i := 16) (by decide +kernel)) rfl
set_option maxRecDepth 100000 in
theorem tp_X7_supposeFeeder : yX7_supposeFeeder.cls ≠ "java/lang/invoke/MethodHandle" ∧ yX7_supposeFeeder.cls ≠ "java/lang/invoke/VarHandle" ∧ (parseMethodDescriptor yX7_supposeFeeder.desc).map (fun d => d.parameters.length) = some 2 := by decide +kernel
set_option maxRecDepth 100000 in
theorem tc_X7_supposeIsolator : Cond.code yX7_supposeIsolator cX7_supposeIsolator 3 none ∈ TB := tb_m (List.mem_of_getElem? (i := 516) (by decide +kernel)) rfl
set_option maxRecDepth 100000 in
theorem ti_X7_supposeIsolator : Cond.instanceMethod yX7_supposeIsolator ∈ TB := tb_m (List.mem_of_getElem? (i := 515) (by decide +kernel)) rfl
set_option maxRecDepth 100000 in
theorem te_X7_supposeIsolator : Cond.selects RX7 yX7_supposeIsolator yX7_supposeIsolator ∈ TB := tb_m (List.mem_of_getElem? (i := 5) (by decide +kernel)) rfl
set_option maxRecDepth 100000 in
theorem tp_X7_supposeIsolator : yX7_supposeIsolator.cls ≠ "java/lang/invoke/MethodHandle" ∧ yX7_supposeIsolator.cls ≠ "java/lang/invoke/VarHandle" ∧ (parseMethodDescriptor yX7_supposeIsolator.desc).map (fun d => d.parameters.length) = some 2 := by decide +kernel
set_option maxRecDepth 100000 in
theorem tc_X7_wouldDarken : Cond.code yX7_wouldDarken cX7_wouldDarken 2 (some .boolean) ∈ TB := tb_m (List.mem_of_getElem? (i := 520) (by decide +kernel)) rfl
set_option maxRecDepth 100000 in
theorem ti_X7_wouldDarken : Cond.instanceMethod yX7_wouldDarken ∈ TB := tb_m (List.mem_of_getElem? (i := 519) (by decide +kernel)) rfl
set_option maxRecDepth 100000 in
theorem te_X7_wouldDarken : Cond.selects RX7 yX7_wouldDarken yX7_wouldDarken ∈ TB := tb_m (List.mem_of_getElem? (i := 6) (by decide +kernel)) rfl
set_option maxRecDepth 100000 in
theorem tp_X7_wouldDarken : yX7_wouldDarken.cls ≠ "java/lang/invoke/MethodHandle" ∧ yX7_wouldDarken.cls ≠ "java/lang/invoke/VarHandle" ∧ (parseMethodDescriptor yX7_wouldDarken.desc).map (fun d => d.parameters.length) = some 1 := by decide +kernel
set_option maxRecDepth 100000 in
theorem tc_X7_wouldDarkenTrams : Cond.code yX7_wouldDarkenTrams cX7_wouldDarkenTrams 2 (some .boolean) ∈ TB := tb_m (List.mem_of_getElem? (i := 586) (by decide +kernel)) rfl
set_option maxRecDepth 100000 in
theorem ti_X7_wouldDarkenTrams : Cond.instanceMethod yX7_wouldDarkenTrams ∈ TB := tb_m (List.mem_of_getElem? (i := 585) (by decide +kernel)) rfl
set_option maxRecDepth 100000 in
theorem te_X7_wouldDarkenTrams : Cond.selects RX7 yX7_wouldDarkenTrams yX7_wouldDarkenTrams ∈ TB := tb_m (List.mem_of_getElem? (i := 11) (by decide +kernel)) rfl
set_option maxRecDepth 100000 in
theorem tp_X7_wouldDarkenTrams : yX7_wouldDarkenTrams.cls ≠ "java/lang/invoke/MethodHandle" ∧ yX7_wouldDarkenTrams.cls ≠ "java/lang/invoke/VarHandle" ∧ (parseMethodDescriptor yX7_wouldDarkenTrams.desc).map (fun d => d.parameters.length) = some 0 := by decide +kernel
set_option maxRecDepth 100000 in
theorem tc_X7_wouldLight : Cond.code yX7_wouldLight cX7_wouldLight 2 (some .boolean) ∈ TB := tb_m (List.mem_of_getElem? (i := 528) (by decide +kernel)) rfl
set_option maxRecDepth 100000 in
theorem ti_X7_wouldLight : Cond.instanceMethod yX7_wouldLight ∈ TB := tb_m (List.mem_of_getElem? (i := 527) (by decide +kernel)) rfl
set_option maxRecDepth 100000 in
theorem te_X7_wouldLight : Cond.selects RX7 yX7_wouldLight yX7_wouldLight ∈ TB := tb_m (List.mem_of_getElem? (i := 7) (by decide +kernel)) rfl
set_option maxRecDepth 100000 in
theorem tp_X7_wouldLight : yX7_wouldLight.cls ≠ "java/lang/invoke/MethodHandle" ∧ yX7_wouldLight.cls ≠ "java/lang/invoke/VarHandle" ∧ (parseMethodDescriptor yX7_wouldLight.desc).map (fun d => d.parameters.length) = some 1 := by decide +kernel
set_option maxRecDepth 100000 in
theorem tc_X7_wouldLightEarth : Cond.code yX7_wouldLightEarth cX7_wouldLightEarth 2 (some .boolean) ∈ TB := tb_m (List.mem_of_getElem? (i := 594) (by decide +kernel)) rfl
set_option maxRecDepth 100000 in
theorem ti_X7_wouldLightEarth : Cond.instanceMethod yX7_wouldLightEarth ∈ TB := tb_m (List.mem_of_getElem? (i := 593) (by decide +kernel)) rfl
set_option maxRecDepth 100000 in
theorem te_X7_wouldLightEarth : Cond.selects RX7 yX7_wouldLightEarth yX7_wouldLightEarth ∈ TB := tb_m (List.mem_of_getElem? (i := 13) (by decide +kernel)) rfl
set_option maxRecDepth 100000 in
theorem tp_X7_wouldLightEarth : yX7_wouldLightEarth.cls ≠ "java/lang/invoke/MethodHandle" ∧ yX7_wouldLightEarth.cls ≠ "java/lang/invoke/VarHandle" ∧ (parseMethodDescriptor yX7_wouldLightEarth.desc).map (fun d => d.parameters.length) = some 0 := by decide +kernel
set_option maxRecDepth 100000 in
theorem tc_X7_wouldLightTools : Cond.code yX7_wouldLightTools cX7_wouldLightTools 2 (some .boolean) ∈ TB := tb_m (List.mem_of_getElem? (i := 598) (by decide +kernel)) rfl
set_option maxRecDepth 100000 in
theorem ti_X7_wouldLightTools : Cond.instanceMethod yX7_wouldLightTools ∈ TB := tb_m (List.mem_of_getElem? (i := 597) (by decide +kernel)) rfl
set_option maxRecDepth 100000 in
theorem te_X7_wouldLightTools : Cond.selects RX7 yX7_wouldLightTools yX7_wouldLightTools ∈ TB := tb_m (List.mem_of_getElem? (i := 14) (by decide +kernel)) rfl
set_option maxRecDepth 100000 in
theorem tp_X7_wouldLightTools : yX7_wouldLightTools.cls ≠ "java/lang/invoke/MethodHandle" ∧ yX7_wouldLightTools.cls ≠ "java/lang/invoke/VarHandle" ∧ (parseMethodDescriptor yX7_wouldLightTools.desc).map (fun d => d.parameters.length) = some 0 := by decide +kernel
set_option maxRecDepth 100000 in
theorem tc_X9_init : Cond.code yX9_init cX9_init 1 none ∈ TB := tb_m (List.mem_of_getElem? (i := 737) (by decide +kernel)) rfl
set_option maxRecDepth 100000 in
theorem ti_X9_init : Cond.instanceMethod yX9_init ∈ TB := tb_m (List.mem_of_getElem? (i := 736) (by decide +kernel)) rfl
set_option maxRecDepth 100000 in
theorem tp_X9_init : yX9_init.cls ≠ "java/lang/invoke/MethodHandle" ∧ yX9_init.cls ≠ "java/lang/invoke/VarHandle" ∧ (parseMethodDescriptor yX9_init.desc).map (fun d => d.parameters.length) = some 0 := by decide +kernel
set_option maxRecDepth 100000 in
theorem tc_X9_against : Cond.code yX9_against cX9_against 4 (some .int) ∈ TB := tb_m (List.mem_of_getElem? (i := 841) (by decide +kernel)) rfl
set_option maxRecDepth 100000 in
theorem ti_X9_against : Cond.instanceMethod yX9_against ∈ TB := tb_m (List.mem_of_getElem? (i := 840) (by decide +kernel)) rfl
set_option maxRecDepth 100000 in
theorem te_X9_against : Cond.selects RX9 yX9_against yX9_against ∈ TB := tb_m (List.mem_of_getElem? (i := 36) (by decide +kernel)) rfl
set_option maxRecDepth 100000 in
theorem tp_X9_against : yX9_against.cls ≠ "java/lang/invoke/MethodHandle" ∧ yX9_against.cls ≠ "java/lang/invoke/VarHandle" ∧ (parseMethodDescriptor yX9_against.desc).map (fun d => d.parameters.length) = some 2 := by decide +kernel
set_option maxRecDepth 100000 in
theorem tc_X9_at : Cond.code yX9_at cX9_at 3 (some .int) ∈ TB := tb_m (List.mem_of_getElem? (i := 829) (by decide +kernel)) rfl
set_option maxRecDepth 100000 in
theorem ti_X9_at : Cond.instanceMethod yX9_at ∈ TB := tb_m (List.mem_of_getElem? (i := 828) (by decide +kernel)) rfl
set_option maxRecDepth 100000 in
theorem te_X9_at : Cond.selects RX9 yX9_at yX9_at ∈ TB := tb_m (List.mem_of_getElem? (i := 33) (by decide +kernel)) rfl
set_option maxRecDepth 100000 in
theorem tp_X9_at : yX9_at.cls ≠ "java/lang/invoke/MethodHandle" ∧ yX9_at.cls ≠ "java/lang/invoke/VarHandle" ∧ (parseMethodDescriptor yX9_at.desc).map (fun d => d.parameters.length) = some 2 := by decide +kernel
set_option maxRecDepth 100000 in
theorem tc_X9_bits : Cond.code yX9_bits cX9_bits 3 (some .int) ∈ TB := tb_m (List.mem_of_getElem? (i := 896) (by decide +kernel)) rfl
set_option maxRecDepth 100000 in
theorem ts_X9_bits : Cond.static yX9_bits ∈ TB := tb_m (List.mem_of_getElem? (i := 895) (by decide +kernel)) rfl
set_option maxRecDepth 100000 in
theorem tp_X9_bits : yX9_bits.cls ≠ "java/lang/invoke/MethodHandle" ∧ yX9_bits.cls ≠ "java/lang/invoke/VarHandle" ∧ (parseMethodDescriptor yX9_bits.desc).map (fun d => d.parameters.length) = some 1 := by decide +kernel
set_option maxRecDepth 100000 in
theorem tc_X9_bringsBack : Cond.code yX9_bringsBack cX9_bringsBack 2 none ∈ TB := tb_m (List.mem_of_getElem? (i := 992) (by decide +kernel)) rfl
set_option maxRecDepth 100000 in
theorem ti_X9_bringsBack : Cond.instanceMethod yX9_bringsBack ∈ TB := tb_m (List.mem_of_getElem? (i := 991) (by decide +kernel)) rfl
set_option maxRecDepth 100000 in
theorem te_X9_bringsBack : Cond.selects RX9 yX9_bringsBack yX9_bringsBack ∈ TB := tb_m (List.mem_of_getElem? (i := 64) (by decide +kernel)) rfl
set_option maxRecDepth 100000 in
theorem tp_X9_bringsBack : yX9_bringsBack.cls ≠ "java/lang/invoke/MethodHandle" ∧ yX9_bringsBack.cls ≠ "java/lang/invoke/VarHandle" ∧ (parseMethodDescriptor yX9_bringsBack.desc).map (fun d => d.parameters.length) = some 0 := by decide +kernel
set_option maxRecDepth 100000 in
theorem tc_X9_busesOut : Cond.code yX9_busesOut cX9_busesOut 3 (some .int) ∈ TB := tb_m (List.mem_of_getElem? (i := 861) (by decide +kernel)) rfl
set_option maxRecDepth 100000 in
theorem ti_X9_busesOut : Cond.instanceMethod yX9_busesOut ∈ TB := tb_m (List.mem_of_getElem? (i := 860) (by decide +kernel)) rfl
set_option maxRecDepth 100000 in
theorem te_X9_busesOut : Cond.selects RX9 yX9_busesOut yX9_busesOut ∈ TB := tb_m (List.mem_of_getElem? (i := 40) (by decide +kernel)) rfl
set_option maxRecDepth 100000 in
theorem tp_X9_busesOut : yX9_busesOut.cls ≠ "java/lang/invoke/MethodHandle" ∧ yX9_busesOut.cls ≠ "java/lang/invoke/VarHandle" ∧ (parseMethodDescriptor yX9_busesOut.desc).map (fun d => d.parameters.length) = some 0 := by decide +kernel
set_option maxRecDepth 100000 in
theorem tc_X9_canPlan : Cond.code yX9_canPlan cX9_canPlan 3 (some .int) ∈ TB := tb_m (List.mem_of_getElem? (i := 984) (by decide +kernel)) rfl
set_option maxRecDepth 100000 in
theorem ti_X9_canPlan : Cond.instanceMethod yX9_canPlan ∈ TB := tb_m (List.mem_of_getElem? (i := 982) (by decide +kernel)) rfl
set_option maxRecDepth 100000 in
theorem te_X9_canPlan : Cond.selects RX9 yX9_canPlan yX9_canPlan ∈ TB := tb_m (List.mem_of_getElem? (i := 983) (by decide +kernel)) rfl
set_option maxRecDepth 100000 in
theorem tp_X9_canPlan : yX9_canPlan.cls ≠ "java/lang/invoke/MethodHandle" ∧ yX9_canPlan.cls ≠ "java/lang/invoke/VarHandle" ∧ (parseMethodDescriptor yX9_canPlan.desc).map (fun d => d.parameters.length) = some 1 := by decide +kernel
set_option maxRecDepth 100000 in
theorem tc_X9_clearText : Cond.code yX9_clearText cX9_clearText 2 (some .int) ∈ TB := tb_m (List.mem_of_getElem? (i := 1017) (by decide +kernel)) rfl
set_option maxRecDepth 100000 in
theorem ti_X9_clearText : Cond.instanceMethod yX9_clearText ∈ TB := tb_m (List.mem_of_getElem? (i := 1015) (by decide +kernel)) rfl
set_option maxRecDepth 100000 in
theorem te_X9_clearText : Cond.selects RX9 yX9_clearText yX9_clearText ∈ TB := tb_m (List.mem_of_getElem? (i := 1016) (by decide +kernel)) rfl
set_option maxRecDepth 100000 in
theorem tp_X9_clearText : yX9_clearText.cls ≠ "java/lang/invoke/MethodHandle" ∧ yX9_clearText.cls ≠ "java/lang/invoke/VarHandle" ∧ (parseMethodDescriptor yX9_clearText.desc).map (fun d => d.parameters.length) = some 0 := by decide +kernel
set_option maxRecDepth 100000 in
theorem tc_X9_closedAgain : Cond.code yX9_closedAgain cX9_closedAgain 3 (some .int) ∈ TB := tb_m (List.mem_of_getElem? (i := 893) (by decide +kernel)) rfl
set_option maxRecDepth 100000 in
theorem ti_X9_closedAgain : Cond.instanceMethod yX9_closedAgain ∈ TB := tb_m (List.mem_of_getElem? (i := 892) (by decide +kernel)) rfl
set_option maxRecDepth 100000 in
theorem te_X9_closedAgain : Cond.selects RX9 yX9_closedAgain yX9_closedAgain ∈ TB := tb_m (List.mem_of_getElem? (i := 47) (by decide +kernel)) rfl
set_option maxRecDepth 100000 in
theorem tp_X9_closedAgain : yX9_closedAgain.cls ≠ "java/lang/invoke/MethodHandle" ∧ yX9_closedAgain.cls ≠ "java/lang/invoke/VarHandle" ∧ (parseMethodDescriptor yX9_closedAgain.desc).map (fun d => d.parameters.length) = some 1 := by decide +kernel
set_option maxRecDepth 100000 in
theorem tc_X9_closedAt : Cond.code yX9_closedAt cX9_closedAt 4 (some .int) ∈ TB := tb_m (List.mem_of_getElem? (i := 900) (by decide +kernel)) rfl
set_option maxRecDepth 100000 in
theorem ti_X9_closedAt : Cond.instanceMethod yX9_closedAt ∈ TB := tb_m (List.mem_of_getElem? (i := 899) (by decide +kernel)) rfl
set_option maxRecDepth 100000 in
theorem te_X9_closedAt : Cond.selects RX9 yX9_closedAt yX9_closedAt ∈ TB := tb_m (List.mem_of_getElem? (i := 48) (by decide +kernel)) rfl
set_option maxRecDepth 100000 in
theorem tp_X9_closedAt : yX9_closedAt.cls ≠ "java/lang/invoke/MethodHandle" ∧ yX9_closedAt.cls ≠ "java/lang/invoke/VarHandle" ∧ (parseMethodDescriptor yX9_closedAt.desc).map (fun d => d.parameters.length) = some 1 := by decide +kernel
set_option maxRecDepth 100000 in
theorem tc_X9_closedOnes : Cond.code yX9_closedOnes cX9_closedOnes 3 (some .int) ∈ TB := tb_m (List.mem_of_getElem? (i := 825) (by decide +kernel)) rfl
set_option maxRecDepth 100000 in
theorem ti_X9_closedOnes : Cond.instanceMethod yX9_closedOnes ∈ TB := tb_m (List.mem_of_getElem? (i := 824) (by decide +kernel)) rfl
set_option maxRecDepth 100000 in
theorem te_X9_closedOnes : Cond.selects RX9 yX9_closedOnes yX9_closedOnes ∈ TB := tb_m (List.mem_of_getElem? (i := 32) (by decide +kernel)) rfl
set_option maxRecDepth 100000 in
theorem tp_X9_closedOnes : yX9_closedOnes.cls ≠ "java/lang/invoke/MethodHandle" ∧ yX9_closedOnes.cls ≠ "java/lang/invoke/VarHandle" ∧ (parseMethodDescriptor yX9_closedOnes.desc).map (fun d => d.parameters.length) = some 0 := by decide +kernel
set_option maxRecDepth 100000 in
theorem tc_X9_count : Cond.code yX9_count cX9_count 2 (some .int) ∈ TB := tb_m (List.mem_of_getElem? (i := 916) (by decide +kernel)) rfl
set_option maxRecDepth 100000 in
theorem ti_X9_count : Cond.instanceMethod yX9_count ∈ TB := tb_m (List.mem_of_getElem? (i := 914) (by decide +kernel)) rfl
set_option maxRecDepth 100000 in
theorem te_X9_count : Cond.selects RX9 yX9_count yX9_count ∈ TB := tb_m (List.mem_of_getElem? (i := 915) (by decide +kernel)) rfl
set_option maxRecDepth 100000 in
theorem tp_X9_count : yX9_count.cls ≠ "java/lang/invoke/MethodHandle" ∧ yX9_count.cls ≠ "java/lang/invoke/VarHandle" ∧ (parseMethodDescriptor yX9_count.desc).map (fun d => d.parameters.length) = some 1 := by decide +kernel
set_option maxRecDepth 100000 in
theorem tc_X9_darkens : Cond.code yX9_darkens cX9_darkens 3 (some .int) ∈ TB := tb_m (List.mem_of_getElem? (i := 944) (by decide +kernel)) rfl
set_option maxRecDepth 100000 in
theorem ti_X9_darkens : Cond.instanceMethod yX9_darkens ∈ TB := tb_m (List.mem_of_getElem? (i := 943) (by decide +kernel)) rfl
set_option maxRecDepth 100000 in
theorem te_X9_darkens : Cond.selects RX9 yX9_darkens yX9_darkens ∈ TB := tb_m (List.mem_of_getElem? (i := 56) (by decide +kernel)) rfl
set_option maxRecDepth 100000 in
theorem tp_X9_darkens : yX9_darkens.cls ≠ "java/lang/invoke/MethodHandle" ∧ yX9_darkens.cls ≠ "java/lang/invoke/VarHandle" ∧ (parseMethodDescriptor yX9_darkens.desc).map (fun d => d.parameters.length) = some 2 := by decide +kernel
set_option maxRecDepth 100000 in
theorem tc_X9_enter : Cond.code yX9_enter cX9_enter 4 (some .int) ∈ TB := tb_m (List.mem_of_getElem? (i := 996) (by decide +kernel)) rfl
set_option maxRecDepth 100000 in
theorem ti_X9_enter : Cond.instanceMethod yX9_enter ∈ TB := tb_m (List.mem_of_getElem? (i := 994) (by decide +kernel)) rfl
set_option maxRecDepth 100000 in
theorem te_X9_enter : Cond.selects RX9 yX9_enter yX9_enter ∈ TB := tb_m (List.mem_of_getElem? (i := 995) (by decide +kernel)) rfl
set_option maxRecDepth 100000 in
theorem tp_X9_enter : yX9_enter.cls ≠ "java/lang/invoke/MethodHandle" ∧ yX9_enter.cls ≠ "java/lang/invoke/VarHandle" ∧ (parseMethodDescriptor yX9_enter.desc).map (fun d => d.parameters.length) = some 3 := by decide +kernel
set_option maxRecDepth 100000 in
theorem tc_X9_fault : Cond.code yX9_fault cX9_fault 3 (some .int) ∈ TB := tb_m (List.mem_of_getElem? (i := 1021) (by decide +kernel)) rfl
set_option maxRecDepth 100000 in
theorem ti_X9_fault : Cond.instanceMethod yX9_fault ∈ TB := tb_m (List.mem_of_getElem? (i := 1019) (by decide +kernel)) rfl
set_option maxRecDepth 100000 in
theorem te_X9_fault : Cond.selects RX9 yX9_fault yX9_fault ∈ TB := tb_m (List.mem_of_getElem? (i := 1020) (by decide +kernel)) rfl
set_option maxRecDepth 100000 in
theorem tp_X9_fault : yX9_fault.cls ≠ "java/lang/invoke/MethodHandle" ∧ yX9_fault.cls ≠ "java/lang/invoke/VarHandle" ∧ (parseMethodDescriptor yX9_fault.desc).map (fun d => d.parameters.length) = some 1 := by decide +kernel
set_option maxRecDepth 100000 in
theorem tc_X9_fetch : Cond.code yX9_fetch cX9_fetch 3 (some .int) ∈ TB := tb_m (List.mem_of_getElem? (i := 1005) (by decide +kernel)) rfl
set_option maxRecDepth 100000 in
theorem ti_X9_fetch : Cond.instanceMethod yX9_fetch ∈ TB := tb_m (List.mem_of_getElem? (i := 1003) (by decide +kernel)) rfl
set_option maxRecDepth 100000 in
theorem te_X9_fetch : Cond.selects RX9 yX9_fetch yX9_fetch ∈ TB := tb_m (List.mem_of_getElem? (i := 1004) (by decide +kernel)) rfl
set_option maxRecDepth 100000 in
theorem tp_X9_fetch : yX9_fetch.cls ≠ "java/lang/invoke/MethodHandle" ∧ yX9_fetch.cls ≠ "java/lang/invoke/VarHandle" ∧ (parseMethodDescriptor yX9_fetch.desc).map (fun d => d.parameters.length) = some 1 := by decide +kernel
set_option maxRecDepth 100000 in
theorem tc_X9_forgets : Cond.code yX9_forgets cX9_forgets 4 none ∈ TB := tb_m (List.mem_of_getElem? (i := 964) (by decide +kernel)) rfl
set_option maxRecDepth 100000 in
theorem ti_X9_forgets : Cond.instanceMethod yX9_forgets ∈ TB := tb_m (List.mem_of_getElem? (i := 963) (by decide +kernel)) rfl
set_option maxRecDepth 100000 in
theorem te_X9_forgets : Cond.selects RX9 yX9_forgets yX9_forgets ∈ TB := tb_m (List.mem_of_getElem? (i := 60) (by decide +kernel)) rfl
set_option maxRecDepth 100000 in
theorem tp_X9_forgets : yX9_forgets.cls ≠ "java/lang/invoke/MethodHandle" ∧ yX9_forgets.cls ≠ "java/lang/invoke/VarHandle" ∧ (parseMethodDescriptor yX9_forgets.desc).map (fun d => d.parameters.length) = some 0 := by decide +kernel
set_option maxRecDepth 100000 in
theorem tc_X9_free : Cond.code yX9_free cX9_free 1 (some .int) ∈ TB := tb_m (List.mem_of_getElem? (i := 865) (by decide +kernel)) rfl
set_option maxRecDepth 100000 in
theorem ti_X9_free : Cond.instanceMethod yX9_free ∈ TB := tb_m (List.mem_of_getElem? (i := 864) (by decide +kernel)) rfl
set_option maxRecDepth 100000 in
theorem te_X9_free : Cond.selects RX9 yX9_free yX9_free ∈ TB := tb_m (List.mem_of_getElem? (i := 41) (by decide +kernel)) rfl
set_option maxRecDepth 100000 in
theorem tp_X9_free : yX9_free.cls ≠ "java/lang/invoke/MethodHandle" ∧ yX9_free.cls ≠ "java/lang/invoke/VarHandle" ∧ (parseMethodDescriptor yX9_free.desc).map (fun d => d.parameters.length) = some 0 := by decide +kernel
set_option maxRecDepth 100000 in
theorem tc_X9_groups : Cond.code yX9_groups cX9_groups 4 (some .int) ∈ TB := tb_m (List.mem_of_getElem? (i := 928) (by decide +kernel)) rfl
set_option maxRecDepth 100000 in
theorem ti_X9_groups : Cond.instanceMethod yX9_groups ∈ TB := tb_m (List.mem_of_getElem? (i := 927) (by decide +kernel)) rfl
set_option maxRecDepth 100000 in
theorem te_X9_groups : Cond.selects RX9 yX9_groups yX9_groups ∈ TB := tb_m (List.mem_of_getElem? (i := 53) (by decide +kernel)) rfl
set_option maxRecDepth 100000 in
theorem tp_X9_groups : yX9_groups.cls ≠ "java/lang/invoke/MethodHandle" ∧ yX9_groups.cls ≠ "java/lang/invoke/VarHandle" ∧ (parseMethodDescriptor yX9_groups.desc).map (fun d => d.parameters.length) = some 0 := by decide +kernel
set_option maxRecDepth 100000 in
theorem tc_X9_hanging : Cond.code yX9_hanging cX9_hanging 7 (some .int) ∈ TB := tb_m (List.mem_of_getElem? (i := 837) (by decide +kernel)) rfl
set_option maxRecDepth 100000 in
theorem ti_X9_hanging : Cond.instanceMethod yX9_hanging ∈ TB := tb_m (List.mem_of_getElem? (i := 836) (by decide +kernel)) rfl
set_option maxRecDepth 100000 in
theorem te_X9_hanging : Cond.selects RX9 yX9_hanging yX9_hanging ∈ TB := tb_m (List.mem_of_getElem? (i := 35) (by decide +kernel)) rfl
set_option maxRecDepth 100000 in
theorem tp_X9_hanging : yX9_hanging.cls ≠ "java/lang/invoke/MethodHandle" ∧ yX9_hanging.cls ≠ "java/lang/invoke/VarHandle" ∧ (parseMethodDescriptor yX9_hanging.desc).map (fun d => d.parameters.length) = some 2 := by decide +kernel
set_option maxRecDepth 100000 in
theorem tc_X9_in : Cond.code yX9_in cX9_in 3 (some .boolean) ∈ TB := tb_m (List.mem_of_getElem? (i := 789) (by decide +kernel)) rfl
set_option maxRecDepth 100000 in
theorem ts_X9_in : Cond.static yX9_in ∈ TB := tb_m (List.mem_of_getElem? (i := 788) (by decide +kernel)) rfl
set_option maxRecDepth 100000 in
theorem tp_X9_in : yX9_in.cls ≠ "java/lang/invoke/MethodHandle" ∧ yX9_in.cls ≠ "java/lang/invoke/VarHandle" ∧ (parseMethodDescriptor yX9_in.desc).map (fun d => d.parameters.length) = some 3 := by decide +kernel
set_option maxRecDepth 100000 in
theorem tc_X9_isFormed : Cond.code yX9_isFormed cX9_isFormed 3 (some .boolean) ∈ TB := tb_m (List.mem_of_getElem? (i := 1029) (by decide +kernel)) rfl
set_option maxRecDepth 100000 in
theorem ti_X9_isFormed : Cond.instanceMethod yX9_isFormed ∈ TB := tb_m (List.mem_of_getElem? (i := 1028) (by decide +kernel)) rfl
set_option maxRecDepth 100000 in
theorem te_X9_isFormed : Cond.selects RX9 yX9_isFormed yX9_isFormed ∈ TB := tb_m (List.mem_of_getElem? (i := 66) (by decide +kernel)) rfl
set_option maxRecDepth 100000 in
theorem tp_X9_isFormed : yX9_isFormed.cls ≠ "java/lang/invoke/MethodHandle" ∧ yX9_isFormed.cls ≠ "java/lang/invoke/VarHandle" ∧ (parseMethodDescriptor yX9_isFormed.desc).map (fun d => d.parameters.length) = some 0 := by decide +kernel
set_option maxRecDepth 100000 in
theorem tc_X9_isIsolator : Cond.code yX9_isIsolator cX9_isIsolator 2 (some .boolean) ∈ TB := tb_m (List.mem_of_getElem? (i := 908) (by decide +kernel)) rfl
set_option maxRecDepth 100000 in
theorem ti_X9_isIsolator : Cond.instanceMethod yX9_isIsolator ∈ TB := tb_m (List.mem_of_getElem? (i := 907) (by decide +kernel)) rfl
set_option maxRecDepth 100000 in
theorem te_X9_isIsolator : Cond.selects RX9 yX9_isIsolator yX9_isIsolator ∈ TB := tb_m (List.mem_of_getElem? (i := 49) (by decide +kernel)) rfl
set_option maxRecDepth 100000 in
theorem tp_X9_isIsolator : yX9_isIsolator.cls ≠ "java/lang/invoke/MethodHandle" ∧ yX9_isIsolator.cls ≠ "java/lang/invoke/VarHandle" ∧ (parseMethodDescriptor yX9_isIsolator.desc).map (fun d => d.parameters.length) = some 1 := by decide +kernel
set_option maxRecDepth 100000 in
theorem tc_X9_isLive : Cond.code yX9_isLive cX9_isLive 2 (some .boolean) ∈ TB := tb_m (List.mem_of_getElem? (i := 873) (by decide +kernel)) rfl
set_option maxRecDepth 100000 in
theorem ti_X9_isLive : Cond.instanceMethod yX9_isLive ∈ TB := tb_m (List.mem_of_getElem? (i := 872) (by decide +kernel)) rfl
set_option maxRecDepth 100000 in
theorem te_X9_isLive : Cond.selects RX9 yX9_isLive yX9_isLive ∈ TB := tb_m (List.mem_of_getElem? (i := 42) (by decide +kernel)) rfl
set_option maxRecDepth 100000 in
theorem tp_X9_isLive : yX9_isLive.cls ≠ "java/lang/invoke/MethodHandle" ∧ yX9_isLive.cls ≠ "java/lang/invoke/VarHandle" ∧ (parseMethodDescriptor yX9_isLive.desc).map (fun d => d.parameters.length) = some 1 := by decide +kernel
set_option maxRecDepth 100000 in
theorem tc_X9_isPlace : Cond.code yX9_isPlace cX9_isPlace 3 (some .boolean) ∈ TB := tb_m (List.mem_of_getElem? (i := 936) (by decide +kernel)) rfl
set_option maxRecDepth 100000 in
theorem ti_X9_isPlace : Cond.instanceMethod yX9_isPlace ∈ TB := tb_m (List.mem_of_getElem? (i := 935) (by decide +kernel)) rfl
set_option maxRecDepth 100000 in
theorem te_X9_isPlace : Cond.selects RX9 yX9_isPlace yX9_isPlace ∈ TB := tb_m (List.mem_of_getElem? (i := 54) (by decide +kernel)) rfl
set_option maxRecDepth 100000 in
theorem tp_X9_isPlace : yX9_isPlace.cls ≠ "java/lang/invoke/MethodHandle" ∧ yX9_isPlace.cls ≠ "java/lang/invoke/VarHandle" ∧ (parseMethodDescriptor yX9_isPlace.desc).map (fun d => d.parameters.length) = some 2 := by decide +kernel
set_option maxRecDepth 100000 in
theorem tc_X9_isSection : Cond.code yX9_isSection cX9_isSection 2 (some .boolean) ∈ TB := tb_m (List.mem_of_getElem? (i := 805) (by decide +kernel)) rfl
set_option maxRecDepth 100000 in
theorem ti_X9_isSection : Cond.instanceMethod yX9_isSection ∈ TB := tb_m (List.mem_of_getElem? (i := 804) (by decide +kernel)) rfl
set_option maxRecDepth 100000 in
theorem te_X9_isSection : Cond.selects RX9 yX9_isSection yX9_isSection ∈ TB := tb_m (List.mem_of_getElem? (i := 27) (by decide +kernel)) rfl
set_option maxRecDepth 100000 in
theorem tp_X9_isSection : yX9_isSection.cls ≠ "java/lang/invoke/MethodHandle" ∧ yX9_isSection.cls ≠ "java/lang/invoke/VarHandle" ∧ (parseMethodDescriptor yX9_isSection.desc).map (fun d => d.parameters.length) = some 1 := by decide +kernel
set_option maxRecDepth 100000 in
theorem tc_X9_isolator : Cond.code yX9_isolator cX9_isolator 3 (some .int) ∈ TB := tb_m (List.mem_of_getElem? (i := 801) (by decide +kernel)) rfl
set_option maxRecDepth 100000 in
theorem ti_X9_isolator : Cond.instanceMethod yX9_isolator ∈ TB := tb_m (List.mem_of_getElem? (i := 799) (by decide +kernel)) rfl
set_option maxRecDepth 100000 in
theorem te_X9_isolator : Cond.selects RX9 yX9_isolator yX9_isolator ∈ TB := tb_m (List.mem_of_getElem? (i := 800) (by decide +kernel)) rfl
set_option maxRecDepth 100000 in
theorem tp_X9_isolator : yX9_isolator.cls ≠ "java/lang/invoke/MethodHandle" ∧ yX9_isolator.cls ≠ "java/lang/invoke/VarHandle" ∧ (parseMethodDescriptor yX9_isolator.desc).map (fun d => d.parameters.length) = some 2 := by decide +kernel
set_option maxRecDepth 100000 in
theorem tc_X9_isolatorOf : Cond.code yX9_isolatorOf cX9_isolatorOf 3 (some .int) ∈ TB := tb_m (List.mem_of_getElem? (i := 904) (by decide +kernel)) rfl
set_option maxRecDepth 100000 in
theorem ti_X9_isolatorOf : Cond.instanceMethod yX9_isolatorOf ∈ TB := tb_m (List.mem_of_getElem? (i := 902) (by decide +kernel)) rfl
set_option maxRecDepth 100000 in
theorem te_X9_isolatorOf : Cond.selects RX9 yX9_isolatorOf yX9_isolatorOf ∈ TB := tb_m (List.mem_of_getElem? (i := 903) (by decide +kernel)) rfl
set_option maxRecDepth 100000 in
theorem tp_X9_isolatorOf : yX9_isolatorOf.cls ≠ "java/lang/invoke/MethodHandle" ∧ yX9_isolatorOf.cls ≠ "java/lang/invoke/VarHandle" ∧ (parseMethodDescriptor yX9_isolatorOf.desc).map (fun d => d.parameters.length) = some 2 := by decide +kernel
set_option maxRecDepth 100000 in
theorem tc_X9_kindOf : Cond.code yX9_kindOf cX9_kindOf 1 (some .int) ∈ TB := tb_m (List.mem_of_getElem? (i := 1032) (by decide +kernel)) rfl
set_option maxRecDepth 100000 in
theorem ts_X9_kindOf : Cond.static yX9_kindOf ∈ TB := tb_m (List.mem_of_getElem? (i := 1031) (by decide +kernel)) rfl
set_option maxRecDepth 100000 in
theorem tp_X9_kindOf : yX9_kindOf.cls ≠ "java/lang/invoke/MethodHandle" ∧ yX9_kindOf.cls ≠ "java/lang/invoke/VarHandle" ∧ (parseMethodDescriptor yX9_kindOf.desc).map (fun d => d.parameters.length) = some 1 := by decide +kernel
set_option maxRecDepth 100000 in
theorem tc_X9_lateOnes : Cond.code yX9_lateOnes cX9_lateOnes 3 (some .int) ∈ TB := tb_m (List.mem_of_getElem? (i := 924) (by decide +kernel)) rfl
set_option maxRecDepth 100000 in
theorem ti_X9_lateOnes : Cond.instanceMethod yX9_lateOnes ∈ TB := tb_m (List.mem_of_getElem? (i := 923) (by decide +kernel)) rfl
set_option maxRecDepth 100000 in
theorem te_X9_lateOnes : Cond.selects RX9 yX9_lateOnes yX9_lateOnes ∈ TB := tb_m (List.mem_of_getElem? (i := 52) (by decide +kernel)) rfl
set_option maxRecDepth 100000 in
theorem tp_X9_lateOnes : yX9_lateOnes.cls ≠ "java/lang/invoke/MethodHandle" ∧ yX9_lateOnes.cls ≠ "java/lang/invoke/VarHandle" ∧ (parseMethodDescriptor yX9_lateOnes.desc).map (fun d => d.parameters.length) = some 0 := by decide +kernel
set_option maxRecDepth 100000 in
theorem tc_X9_lay : Cond.code yX9_lay cX9_lay 4 none ∈ TB := tb_m (List.mem_of_getElem? (i := 853) (by decide +kernel)) rfl
set_option maxRecDepth 100000 in
theorem ti_X9_lay : Cond.instanceMethod yX9_lay ∈ TB := tb_m (List.mem_of_getElem? (i := 852) (by decide +kernel)) rfl
set_option maxRecDepth 100000 in
theorem te_X9_lay : Cond.selects RX9 yX9_lay yX9_lay ∈ TB := tb_m (List.mem_of_getElem? (i := 39) (by decide +kernel)) rfl
set_option maxRecDepth 100000 in
theorem tp_X9_lay : yX9_lay.cls ≠ "java/lang/invoke/MethodHandle" ∧ yX9_lay.cls ≠ "java/lang/invoke/VarHandle" ∧ (parseMethodDescriptor yX9_lay.desc).map (fun d => d.parameters.length) = some 3 := by decide +kernel
set_option maxRecDepth 100000 in
theorem tc_X9_laysAside : Cond.code yX9_laysAside cX9_laysAside 2 none ∈ TB := tb_m (List.mem_of_getElem? (i := 988) (by decide +kernel)) rfl
set_option maxRecDepth 100000 in
theorem ti_X9_laysAside : Cond.instanceMethod yX9_laysAside ∈ TB := tb_m (List.mem_of_getElem? (i := 987) (by decide +kernel)) rfl
set_option maxRecDepth 100000 in
theorem te_X9_laysAside : Cond.selects RX9 yX9_laysAside yX9_laysAside ∈ TB := tb_m (List.mem_of_getElem? (i := 63) (by decide +kernel)) rfl
set_option maxRecDepth 100000 in
theorem tp_X9_laysAside : yX9_laysAside.cls ≠ "java/lang/invoke/MethodHandle" ∧ yX9_laysAside.cls ≠ "java/lang/invoke/VarHandle" ∧ (parseMethodDescriptor yX9_laysAside.desc).map (fun d => d.parameters.length) = some 0 := by decide +kernel
set_option maxRecDepth 100000 in
theorem tc_X9_laysPlan : Cond.code yX9_laysPlan cX9_laysPlan 3 none ∈ TB := tb_m (List.mem_of_getElem? (i := 976) (by decide +kernel)) rfl
set_option maxRecDepth 100000 in
theorem ti_X9_laysPlan : Cond.instanceMethod yX9_laysPlan ∈ TB := tb_m (List.mem_of_getElem? (i := 975) (by decide +kernel)) rfl
set_option maxRecDepth 100000 in
theorem te_X9_laysPlan : Cond.selects RX9 yX9_laysPlan yX9_laysPlan ∈ TB := tb_m (List.mem_of_getElem? (i := 61) (by decide +kernel)) rfl
set_option maxRecDepth 100000 in
theorem tp_X9_laysPlan : yX9_laysPlan.cls ≠ "java/lang/invoke/MethodHandle" ∧ yX9_laysPlan.cls ≠ "java/lang/invoke/VarHandle" ∧ (parseMethodDescriptor yX9_laysPlan.desc).map (fun d => d.parameters.length) = some 1 := by decide +kernel
set_option maxRecDepth 100000 in
theorem tc_X9_leave : Cond.code yX9_leave cX9_leave 4 (some .int) ∈ TB := tb_m (List.mem_of_getElem? (i := 1001) (by decide +kernel)) rfl
set_option maxRecDepth 100000 in
theorem ti_X9_leave : Cond.instanceMethod yX9_leave ∈ TB := tb_m (List.mem_of_getElem? (i := 999) (by decide +kernel)) rfl
set_option maxRecDepth 100000 in
theorem te_X9_leave : Cond.selects RX9 yX9_leave yX9_leave ∈ TB := tb_m (List.mem_of_getElem? (i := 1000) (by decide +kernel)) rfl
set_option maxRecDepth 100000 in
theorem tp_X9_leave : yX9_leave.cls ≠ "java/lang/invoke/MethodHandle" ∧ yX9_leave.cls ≠ "java/lang/invoke/VarHandle" ∧ (parseMethodDescriptor yX9_leave.desc).map (fun d => d.parameters.length) = some 2 := by decide +kernel
set_option maxRecDepth 100000 in
theorem tc_X9_lights : Cond.code yX9_lights cX9_lights 4 (some .int) ∈ TB := tb_m (List.mem_of_getElem? (i := 952) (by decide +kernel)) rfl
set_option maxRecDepth 100000 in
theorem ti_X9_lights : Cond.instanceMethod yX9_lights ∈ TB := tb_m (List.mem_of_getElem? (i := 951) (by decide +kernel)) rfl
set_option maxRecDepth 100000 in
theorem te_X9_lights : Cond.selects RX9 yX9_lights yX9_lights ∈ TB := tb_m (List.mem_of_getElem? (i := 58) (by decide +kernel)) rfl
set_option maxRecDepth 100000 in
theorem tp_X9_lights : yX9_lights.cls ≠ "java/lang/invoke/MethodHandle" ∧ yX9_lights.cls ≠ "java/lang/invoke/VarHandle" ∧ (parseMethodDescriptor yX9_lights.desc).map (fun d => d.parameters.length) = some 2 := by decide +kernel
set_option maxRecDepth 100000 in
theorem tc_X9_live : Cond.code yX9_live cX9_live 5 (some .int) ∈ TB := tb_m (List.mem_of_getElem? (i := 833) (by decide +kernel)) rfl
set_option maxRecDepth 100000 in
theorem ti_X9_live : Cond.instanceMethod yX9_live ∈ TB := tb_m (List.mem_of_getElem? (i := 832) (by decide +kernel)) rfl
set_option maxRecDepth 100000 in
theorem te_X9_live : Cond.selects RX9 yX9_live yX9_live ∈ TB := tb_m (List.mem_of_getElem? (i := 34) (by decide +kernel)) rfl
set_option maxRecDepth 100000 in
theorem tp_X9_live : yX9_live.cls ≠ "java/lang/invoke/MethodHandle" ∧ yX9_live.cls ≠ "java/lang/invoke/VarHandle" ∧ (parseMethodDescriptor yX9_live.desc).map (fun d => d.parameters.length) = some 2 := by decide +kernel
set_option maxRecDepth 100000 in
theorem tc_X9_liveAgain : Cond.code yX9_liveAgain cX9_liveAgain 4 (some .int) ∈ TB := tb_m (List.mem_of_getElem? (i := 877) (by decide +kernel)) rfl
set_option maxRecDepth 100000 in
theorem ti_X9_liveAgain : Cond.instanceMethod yX9_liveAgain ∈ TB := tb_m (List.mem_of_getElem? (i := 876) (by decide +kernel)) rfl
set_option maxRecDepth 100000 in
theorem te_X9_liveAgain : Cond.selects RX9 yX9_liveAgain yX9_liveAgain ∈ TB := tb_m (List.mem_of_getElem? (i := 43) (by decide +kernel)) rfl
set_option maxRecDepth 100000 in
theorem tp_X9_liveAgain : yX9_liveAgain.cls ≠ "java/lang/invoke/MethodHandle" ∧ yX9_liveAgain.cls ≠ "java/lang/invoke/VarHandle" ∧ (parseMethodDescriptor yX9_liveAgain.desc).map (fun d => d.parameters.length) = some 0 := by decide +kernel
set_option maxRecDepth 100000 in
theorem tc_X9_liveNow : Cond.code yX9_liveNow cX9_liveNow 1 (some .int) ∈ TB := tb_m (List.mem_of_getElem? (i := 813) (by decide +kernel)) rfl
set_option maxRecDepth 100000 in
theorem ti_X9_liveNow : Cond.instanceMethod yX9_liveNow ∈ TB := tb_m (List.mem_of_getElem? (i := 812) (by decide +kernel)) rfl
set_option maxRecDepth 100000 in
theorem te_X9_liveNow : Cond.selects RX9 yX9_liveNow yX9_liveNow ∈ TB := tb_m (List.mem_of_getElem? (i := 29) (by decide +kernel)) rfl
set_option maxRecDepth 100000 in
theorem tp_X9_liveNow : yX9_liveNow.cls ≠ "java/lang/invoke/MethodHandle" ∧ yX9_liveNow.cls ≠ "java/lang/invoke/VarHandle" ∧ (parseMethodDescriptor yX9_liveNow.desc).map (fun d => d.parameters.length) = some 0 := by decide +kernel
set_option maxRecDepth 100000 in
theorem tc_X9_liveWith : Cond.code yX9_liveWith cX9_liveWith 4 (some .int) ∈ TB := tb_m (List.mem_of_getElem? (i := 912) (by decide +kernel)) rfl
set_option maxRecDepth 100000 in
theorem ti_X9_liveWith : Cond.instanceMethod yX9_liveWith ∈ TB := tb_m (List.mem_of_getElem? (i := 911) (by decide +kernel)) rfl
set_option maxRecDepth 100000 in
theorem te_X9_liveWith : Cond.selects RX9 yX9_liveWith yX9_liveWith ∈ TB := tb_m (List.mem_of_getElem? (i := 50) (by decide +kernel)) rfl
set_option maxRecDepth 100000 in
theorem tp_X9_liveWith : yX9_liveWith.cls ≠ "java/lang/invoke/MethodHandle" ∧ yX9_liveWith.cls ≠ "java/lang/invoke/VarHandle" ∧ (parseMethodDescriptor yX9_liveWith.desc).map (fun d => d.parameters.length) = some 2 := by decide +kernel
set_option maxRecDepth 100000 in
theorem tc_X9_log : Cond.code yX9_log cX9_log 3 (some .int) ∈ TB := tb_m (List.mem_of_getElem? (i := 968) (by decide +kernel)) rfl
set_option maxRecDepth 100000 in
theorem ti_X9_log : Cond.instanceMethod yX9_log ∈ TB := tb_m (List.mem_of_getElem? (i := 966) (by decide +kernel)) rfl
set_option maxRecDepth 100000 in
theorem te_X9_log : Cond.selects RX9 yX9_log yX9_log ∈ TB := tb_m (List.mem_of_getElem? (i := 967) (by decide +kernel)) rfl
set_option maxRecDepth 100000 in
theorem tp_X9_log : yX9_log.cls ≠ "java/lang/invoke/MethodHandle" ∧ yX9_log.cls ≠ "java/lang/invoke/VarHandle" ∧ (parseMethodDescriptor yX9_log.desc).map (fun d => d.parameters.length) = some 2 := by decide +kernel
set_option maxRecDepth 100000 in
theorem tc_X9_logged : Cond.code yX9_logged cX9_logged 3 (some .int) ∈ TB := tb_m (List.mem_of_getElem? (i := 889) (by decide +kernel)) rfl
set_option maxRecDepth 100000 in
theorem ti_X9_logged : Cond.instanceMethod yX9_logged ∈ TB := tb_m (List.mem_of_getElem? (i := 888) (by decide +kernel)) rfl
set_option maxRecDepth 100000 in
theorem te_X9_logged : Cond.selects RX9 yX9_logged yX9_logged ∈ TB := tb_m (List.mem_of_getElem? (i := 46) (by decide +kernel)) rfl
set_option maxRecDepth 100000 in
theorem tp_X9_logged : yX9_logged.cls ≠ "java/lang/invoke/MethodHandle" ∧ yX9_logged.cls ≠ "java/lang/invoke/VarHandle" ∧ (parseMethodDescriptor yX9_logged.desc).map (fun d => d.parameters.length) = some 2 := by decide +kernel
set_option maxRecDepth 100000 in
theorem tc_X9_makes : Cond.code yX9_makes cX9_makes 4 none ∈ TB := tb_m (List.mem_of_getElem? (i := 960) (by decide +kernel)) rfl
set_option maxRecDepth 100000 in
theorem ti_X9_makes : Cond.instanceMethod yX9_makes ∈ TB := tb_m (List.mem_of_getElem? (i := 959) (by decide +kernel)) rfl
set_option maxRecDepth 100000 in
theorem te_X9_makes : Cond.selects RX9 yX9_makes yX9_makes ∈ TB := tb_m (List.mem_of_getElem? (i := 59) (by decide +kernel)) rfl
set_option maxRecDepth 100000 in
theorem tp_X9_makes : yX9_makes.cls ≠ "java/lang/invoke/MethodHandle" ∧ yX9_makes.cls ≠ "java/lang/invoke/VarHandle" ∧ (parseMethodDescriptor yX9_makes.desc).map (fun d => d.parameters.length) = some 2 := by decide +kernel
set_option maxRecDepth 100000 in
theorem tc_X9_mayJoin : Cond.code yX9_mayJoin cX9_mayJoin 5 (some .boolean) ∈ TB := tb_m (List.mem_of_getElem? (i := 809) (by decide +kernel)) rfl
set_option maxRecDepth 100000 in
theorem ti_X9_mayJoin : Cond.instanceMethod yX9_mayJoin ∈ TB := tb_m (List.mem_of_getElem? (i := 808) (by decide +kernel)) rfl
set_option maxRecDepth 100000 in
theorem te_X9_mayJoin : Cond.selects RX9 yX9_mayJoin yX9_mayJoin ∈ TB := tb_m (List.mem_of_getElem? (i := 28) (by decide +kernel)) rfl
set_option maxRecDepth 100000 in
theorem tp_X9_mayJoin : yX9_mayJoin.cls ≠ "java/lang/invoke/MethodHandle" ∧ yX9_mayJoin.cls ≠ "java/lang/invoke/VarHandle" ∧ (parseMethodDescriptor yX9_mayJoin.desc).map (fun d => d.parameters.length) = some 2 := by decide +kernel
set_option maxRecDepth 100000 in
theorem tc_X9_newIsolator : Cond.code yX9_newIsolator cX9_newIsolator 4 none ∈ TB := tb_m (List.mem_of_getElem? (i := 849) (by decide +kernel)) rfl
set_option maxRecDepth 100000 in
theorem ti_X9_newIsolator : Cond.instanceMethod yX9_newIsolator ∈ TB := tb_m (List.mem_of_getElem? (i := 848) (by decide +kernel)) rfl
set_option maxRecDepth 100000 in
theorem te_X9_newIsolator : Cond.selects RX9 yX9_newIsolator yX9_newIsolator ∈ TB := tb_m (List.mem_of_getElem? (i := 38) (by decide +kernel)) rfl
set_option maxRecDepth 100000 in
theorem tp_X9_newIsolator : yX9_newIsolator.cls ≠ "java/lang/invoke/MethodHandle" ∧ yX9_newIsolator.cls ≠ "java/lang/invoke/VarHandle" ∧ (parseMethodDescriptor yX9_newIsolator.desc).map (fun d => d.parameters.length) = some 2 := by decide +kernel
set_option maxRecDepth 100000 in
theorem tc_X9_of : Cond.code yX9_of cX9_of 3 (some .int) ∈ TB := tb_m (List.mem_of_getElem? (i := 821) (by decide +kernel)) rfl
set_option maxRecDepth 100000 in
theorem ti_X9_of : Cond.instanceMethod yX9_of ∈ TB := tb_m (List.mem_of_getElem? (i := 820) (by decide +kernel)) rfl
set_option maxRecDepth 100000 in
theorem te_X9_of : Cond.selects RX9 yX9_of yX9_of ∈ TB := tb_m (List.mem_of_getElem? (i := 31) (by decide +kernel)) rfl
set_option maxRecDepth 100000 in
theorem tp_X9_of : yX9_of.cls ≠ "java/lang/invoke/MethodHandle" ∧ yX9_of.cls ≠ "java/lang/invoke/VarHandle" ∧ (parseMethodDescriptor yX9_of.desc).map (fun d => d.parameters.length) = some 2 := by decide +kernel
set_option maxRecDepth 100000 in
theorem tc_X9_onAgain : Cond.code yX9_onAgain cX9_onAgain 3 (some .int) ∈ TB := tb_m (List.mem_of_getElem? (i := 881) (by decide +kernel)) rfl
set_option maxRecDepth 100000 in
theorem ti_X9_onAgain : Cond.instanceMethod yX9_onAgain ∈ TB := tb_m (List.mem_of_getElem? (i := 880) (by decide +kernel)) rfl
set_option maxRecDepth 100000 in
theorem te_X9_onAgain : Cond.selects RX9 yX9_onAgain yX9_onAgain ∈ TB := tb_m (List.mem_of_getElem? (i := 44) (by decide +kernel)) rfl
set_option maxRecDepth 100000 in
theorem tp_X9_onAgain : yX9_onAgain.cls ≠ "java/lang/invoke/MethodHandle" ∧ yX9_onAgain.cls ≠ "java/lang/invoke/VarHandle" ∧ (parseMethodDescriptor yX9_onAgain.desc).map (fun d => d.parameters.length) = some 1 := by decide +kernel
set_option maxRecDepth 100000 in
theorem tc_X9_onOnes : Cond.code yX9_onOnes cX9_onOnes 3 (some .int) ∈ TB := tb_m (List.mem_of_getElem? (i := 817) (by decide +kernel)) rfl
set_option maxRecDepth 100000 in
theorem ti_X9_onOnes : Cond.instanceMethod yX9_onOnes ∈ TB := tb_m (List.mem_of_getElem? (i := 816) (by decide +kernel)) rfl
set_option maxRecDepth 100000 in
theorem te_X9_onOnes : Cond.selects RX9 yX9_onOnes yX9_onOnes ∈ TB := tb_m (List.mem_of_getElem? (i := 30) (by decide +kernel)) rfl
set_option maxRecDepth 100000 in
theorem tp_X9_onOnes : yX9_onOnes.cls ≠ "java/lang/invoke/MethodHandle" ∧ yX9_onOnes.cls ≠ "java/lang/invoke/VarHandle" ∧ (parseMethodDescriptor yX9_onOnes.desc).map (fun d => d.parameters.length) = some 0 := by decide +kernel
set_option maxRecDepth 100000 in
theorem tc_X9_pass : Cond.code yX9_pass cX9_pass 2 (some .int) ∈ TB := tb_m (List.mem_of_getElem? (i := 1009) (by decide +kernel)) rfl
set_option maxRecDepth 100000 in
theorem ti_X9_pass : Cond.instanceMethod yX9_pass ∈ TB := tb_m (List.mem_of_getElem? (i := 1007) (by decide +kernel)) rfl
set_option maxRecDepth 100000 in
theorem te_X9_pass : Cond.selects RX9 yX9_pass yX9_pass ∈ TB := tb_m (List.mem_of_getElem? (i := 1008) (by decide +kernel)) rfl
set_option maxRecDepth 100000 in
theorem tp_X9_pass : yX9_pass.cls ≠ "java/lang/invoke/MethodHandle" ∧ yX9_pass.cls ≠ "java/lang/invoke/VarHandle" ∧ (parseMethodDescriptor yX9_pass.desc).map (fun d => d.parameters.length) = some 1 := by decide +kernel
set_option maxRecDepth 100000 in
theorem tc_X9_plan : Cond.code yX9_plan cX9_plan 3 (some .int) ∈ TB := tb_m (List.mem_of_getElem? (i := 972) (by decide +kernel)) rfl
set_option maxRecDepth 100000 in
theorem ti_X9_plan : Cond.instanceMethod yX9_plan ∈ TB := tb_m (List.mem_of_getElem? (i := 970) (by decide +kernel)) rfl
set_option maxRecDepth 100000 in
theorem te_X9_plan : Cond.selects RX9 yX9_plan yX9_plan ∈ TB := tb_m (List.mem_of_getElem? (i := 971) (by decide +kernel)) rfl
set_option maxRecDepth 100000 in
theorem tp_X9_plan : yX9_plan.cls ≠ "java/lang/invoke/MethodHandle" ∧ yX9_plan.cls ≠ "java/lang/invoke/VarHandle" ∧ (parseMethodDescriptor yX9_plan.desc).map (fun d => d.parameters.length) = some 2 := by decide +kernel
set_option maxRecDepth 100000 in
theorem tc_X9_plans : Cond.code yX9_plans cX9_plans 3 none ∈ TB := tb_m (List.mem_of_getElem? (i := 980) (by decide +kernel)) rfl
set_option maxRecDepth 100000 in
theorem ti_X9_plans : Cond.instanceMethod yX9_plans ∈ TB := tb_m (List.mem_of_getElem? (i := 979) (by decide +kernel)) rfl
set_option maxRecDepth 100000 in
theorem te_X9_plans : Cond.selects RX9 yX9_plans yX9_plans ∈ TB := tb_m (List.mem_of_getElem? (i := 62) (by decide +kernel)) rfl
set_option maxRecDepth 100000 in
theorem tp_X9_plans : yX9_plans.cls ≠ "java/lang/invoke/MethodHandle" ∧ yX9_plans.cls ≠ "java/lang/invoke/VarHandle" ∧ (parseMethodDescriptor yX9_plans.desc).map (fun d => d.parameters.length) = some 2 := by decide +kernel
set_option maxRecDepth 100000 in
theorem tc_X9_play : Cond.code yX9_play cX9_play 3 (some .int) ∈ TB := tb_m (List.mem_of_getElem? (i := 1036) (by decide +kernel)) rfl
set_option maxRecDepth 100000 in
theorem ti_X9_play : Cond.instanceMethod yX9_play ∈ TB := tb_m (List.mem_of_getElem? (i := 1034) (by decide +kernel)) rfl
set_option maxRecDepth 100000 in
theorem te_X9_play : Cond.selects RX9 yX9_play yX9_play ∈ TB := tb_m (List.mem_of_getElem? (i := 1035) (by decide +kernel)) rfl
set_option maxRecDepth 100000 in
theorem tp_X9_play : yX9_play.cls ≠ "java/lang/invoke/MethodHandle" ∧ yX9_play.cls ≠ "java/lang/invoke/VarHandle" ∧ (parseMethodDescriptor yX9_play.desc).map (fun d => d.parameters.length) = some 0 := by decide +kernel
set_option maxRecDepth 100000 in
theorem tc_X9_pool : Cond.code yX9_pool cX9_pool 2 (some .int) ∈ TB := tb_m (List.mem_of_getElem? (i := 857) (by decide +kernel)) rfl
set_option maxRecDepth 100000 in
theorem ti_X9_pool : Cond.instanceMethod yX9_pool ∈ TB := tb_m (List.mem_of_getElem? (i := 855) (by decide +kernel)) rfl
set_option maxRecDepth 100000 in
theorem te_X9_pool : Cond.selects RX9 yX9_pool yX9_pool ∈ TB := tb_m (List.mem_of_getElem? (i := 856) (by decide +kernel)) rfl
set_option maxRecDepth 100000 in
theorem tp_X9_pool : yX9_pool.cls ≠ "java/lang/invoke/MethodHandle" ∧ yX9_pool.cls ≠ "java/lang/invoke/VarHandle" ∧ (parseMethodDescriptor yX9_pool.desc).map (fun d => d.parameters.length) = some 1 := by decide +kernel
set_option maxRecDepth 100000 in
theorem tc_X9_put : Cond.code yX9_put cX9_put 4 none ∈ TB := tb_m (List.mem_of_getElem? (i := 797) (by decide +kernel)) rfl
set_option maxRecDepth 100000 in
theorem ti_X9_put : Cond.instanceMethod yX9_put ∈ TB := tb_m (List.mem_of_getElem? (i := 796) (by decide +kernel)) rfl
set_option maxRecDepth 100000 in
theorem te_X9_put : Cond.selects RX9 yX9_put yX9_put ∈ TB := tb_m (List.mem_of_getElem? (i := 26) (by decide +kernel)) rfl
set_option maxRecDepth 100000 in
theorem tp_X9_put : yX9_put.cls ≠ "java/lang/invoke/MethodHandle" ∧ yX9_put.cls ≠ "java/lang/invoke/VarHandle" ∧ (parseMethodDescriptor yX9_put.desc).map (fun d => d.parameters.length) = some 3 := by decide +kernel
set_option maxRecDepth 100000 in
theorem tc_X9_reasonOfText : Cond.code yX9_reasonOfText cX9_reasonOfText 2 (some .int) ∈ TB := tb_m (List.mem_of_getElem? (i := 1025) (by decide +kernel)) rfl
set_option maxRecDepth 100000 in
theorem ti_X9_reasonOfText : Cond.instanceMethod yX9_reasonOfText ∈ TB := tb_m (List.mem_of_getElem? (i := 1024) (by decide +kernel)) rfl
set_option maxRecDepth 100000 in
theorem te_X9_reasonOfText : Cond.selects RX9 yX9_reasonOfText yX9_reasonOfText ∈ TB := tb_m (List.mem_of_getElem? (i := 65) (by decide +kernel)) rfl
set_option maxRecDepth 100000 in
theorem tp_X9_reasonOfText : yX9_reasonOfText.cls ≠ "java/lang/invoke/MethodHandle" ∧ yX9_reasonOfText.cls ≠ "java/lang/invoke/VarHandle" ∧ (parseMethodDescriptor yX9_reasonOfText.desc).map (fun d => d.parameters.length) = some 0 := by decide +kernel
set_option maxRecDepth 100000 in
theorem tc_X9_records : Cond.code yX9_records cX9_records 2 none ∈ TB := tb_m (List.mem_of_getElem? (i := 793) (by decide +kernel)) rfl
set_option maxRecDepth 100000 in
theorem ti_X9_records : Cond.instanceMethod yX9_records ∈ TB := tb_m (List.mem_of_getElem? (i := 792) (by decide +kernel)) rfl
set_option maxRecDepth 100000 in
theorem te_X9_records : Cond.selects RX9 yX9_records yX9_records ∈ TB := tb_m (List.mem_of_getElem? (i := 25) (by decide +kernel)) rfl
set_option maxRecDepth 100000 in
theorem tp_X9_records : yX9_records.cls ≠ "java/lang/invoke/MethodHandle" ∧ yX9_records.cls ≠ "java/lang/invoke/VarHandle" ∧ (parseMethodDescriptor yX9_records.desc).map (fun d => d.parameters.length) = some 0 := by decide +kernel
set_option maxRecDepth 100000 in
theorem tc_X9_refusal : Cond.code yX9_refusal cX9_refusal 3 (some .int) ∈ TB := tb_m (List.mem_of_getElem? (i := 932) (by decide +kernel)) rfl
set_option maxRecDepth 100000 in
theorem ti_X9_refusal : Cond.instanceMethod yX9_refusal ∈ TB := tb_m (List.mem_of_getElem? (i := 930) (by decide +kernel)) rfl
set_option maxRecDepth 100000 in
theorem te_X9_refusal : Cond.selects RX9 yX9_refusal yX9_refusal ∈ TB := tb_m (List.mem_of_getElem? (i := 931) (by decide +kernel)) rfl
set_option maxRecDepth 100000 in
theorem tp_X9_refusal : yX9_refusal.cls ≠ "java/lang/invoke/MethodHandle" ∧ yX9_refusal.cls ≠ "java/lang/invoke/VarHandle" ∧ (parseMethodDescriptor yX9_refusal.desc).map (fun d => d.parameters.length) = some 2 := by decide +kernel
set_option maxRecDepth 100000 in
theorem tc_X9_refuses : Cond.code yX9_refuses cX9_refuses 3 (some .int) ∈ TB := tb_m (List.mem_of_getElem? (i := 940) (by decide +kernel)) rfl
set_option maxRecDepth 100000 in
theorem ti_X9_refuses : Cond.instanceMethod yX9_refuses ∈ TB := tb_m (List.mem_of_getElem? (i := 939) (by decide +kernel)) rfl
set_option maxRecDepth 100000 in
theorem te_X9_refuses : Cond.selects RX9 yX9_refuses yX9_refuses ∈ TB := tb_m (List.mem_of_getElem? (i := 55) (by decide +kernel)) rfl
set_option maxRecDepth 100000 in
theorem tp_X9_refuses : yX9_refuses.cls ≠ "java/lang/invoke/MethodHandle" ∧ yX9_refuses.cls ≠ "java/lang/invoke/VarHandle" ∧ (parseMethodDescriptor yX9_refuses.desc).map (fun d => d.parameters.length) = some 2 := by decide +kernel
set_option maxRecDepth 100000 in
theorem tc_X9_section : Cond.code yX9_section cX9_section 5 (some .int) ∈ TB := tb_m (List.mem_of_getElem? (i := 786) (by decide +kernel)) rfl
set_option maxRecDepth 100000 in
theorem ti_X9_section : Cond.instanceMethod yX9_section ∈ TB := tb_m (List.mem_of_getElem? (i := 784) (by decide +kernel)) rfl
set_option maxRecDepth 100000 in
theorem te_X9_section : Cond.selects RX9 yX9_section yX9_section ∈ TB := tb_m (List.mem_of_getElem? (i := 785) (by decide +kernel)) rfl
set_option maxRecDepth 100000 in
theorem tp_X9_section : yX9_section.cls ≠ "java/lang/invoke/MethodHandle" ∧ yX9_section.cls ≠ "java/lang/invoke/VarHandle" ∧ (parseMethodDescriptor yX9_section.desc).map (fun d => d.parameters.length) = some 2 := by decide +kernel
set_option maxRecDepth 100000 in
theorem tc_X9_sectionOf : Cond.code yX9_sectionOf cX9_sectionOf 3 (some .int) ∈ TB := tb_m (List.mem_of_getElem? (i := 869) (by decide +kernel)) rfl
set_option maxRecDepth 100000 in
theorem ti_X9_sectionOf : Cond.instanceMethod yX9_sectionOf ∈ TB := tb_m (List.mem_of_getElem? (i := 867) (by decide +kernel)) rfl
set_option maxRecDepth 100000 in
theorem te_X9_sectionOf : Cond.selects RX9 yX9_sectionOf yX9_sectionOf ∈ TB := tb_m (List.mem_of_getElem? (i := 868) (by decide +kernel)) rfl
set_option maxRecDepth 100000 in
theorem tp_X9_sectionOf : yX9_sectionOf.cls ≠ "java/lang/invoke/MethodHandle" ∧ yX9_sectionOf.cls ≠ "java/lang/invoke/VarHandle" ∧ (parseMethodDescriptor yX9_sectionOf.desc).map (fun d => d.parameters.length) = some 2 := by decide +kernel
set_option maxRecDepth 100000 in
theorem tc_X9_step : Cond.code yX9_step cX9_step 3 (some .int) ∈ TB := tb_m (List.mem_of_getElem? (i := 956) (by decide +kernel)) rfl
set_option maxRecDepth 100000 in
theorem ti_X9_step : Cond.instanceMethod yX9_step ∈ TB := tb_m (List.mem_of_getElem? (i := 954) (by decide +kernel)) rfl
set_option maxRecDepth 100000 in
theorem te_X9_step : Cond.selects RX9 yX9_step yX9_step ∈ TB := tb_m (List.mem_of_getElem? (i := 955) (by decide +kernel)) rfl
set_option maxRecDepth 100000 in
theorem tp_X9_step : yX9_step.cls ≠ "java/lang/invoke/MethodHandle" ∧ yX9_step.cls ≠ "java/lang/invoke/VarHandle" ∧ (parseMethodDescriptor yX9_step.desc).map (fun d => d.parameters.length) = some 2 := by decide +kernel
set_option maxRecDepth 100000 in
theorem tc_X9_toldBy : Cond.code yX9_toldBy cX9_toldBy 7 (some .int) ∈ TB := tb_m (List.mem_of_getElem? (i := 885) (by decide +kernel)) rfl
set_option maxRecDepth 100000 in
theorem ti_X9_toldBy : Cond.instanceMethod yX9_toldBy ∈ TB := tb_m (List.mem_of_getElem? (i := 884) (by decide +kernel)) rfl
set_option maxRecDepth 100000 in
theorem te_X9_toldBy : Cond.selects RX9 yX9_toldBy yX9_toldBy ∈ TB := tb_m (List.mem_of_getElem? (i := 45) (by decide +kernel)) rfl
set_option maxRecDepth 100000 in
theorem tp_X9_toldBy : yX9_toldBy.cls ≠ "java/lang/invoke/MethodHandle" ∧ yX9_toldBy.cls ≠ "java/lang/invoke/VarHandle" ∧ (parseMethodDescriptor yX9_toldBy.desc).map (fun d => d.parameters.length) = some 3 := by decide +kernel
set_option maxRecDepth 100000 in
theorem tc_X9_toolsLeft : Cond.code yX9_toolsLeft cX9_toolsLeft 3 (some .int) ∈ TB := tb_m (List.mem_of_getElem? (i := 920) (by decide +kernel)) rfl
set_option maxRecDepth 100000 in
theorem ti_X9_toolsLeft : Cond.instanceMethod yX9_toolsLeft ∈ TB := tb_m (List.mem_of_getElem? (i := 919) (by decide +kernel)) rfl
set_option maxRecDepth 100000 in
theorem te_X9_toolsLeft : Cond.selects RX9 yX9_toolsLeft yX9_toolsLeft ∈ TB := tb_m (List.mem_of_getElem? (i := 51) (by decide +kernel)) rfl
set_option maxRecDepth 100000 in
theorem tp_X9_toolsLeft : yX9_toolsLeft.cls ≠ "java/lang/invoke/MethodHandle" ∧ yX9_toolsLeft.cls ≠ "java/lang/invoke/VarHandle" ∧ (parseMethodDescriptor yX9_toolsLeft.desc).map (fun d => d.parameters.length) = some 0 := by decide +kernel
set_option maxRecDepth 100000 in
theorem tc_X9_trams : Cond.code yX9_trams cX9_trams 1 (some .int) ∈ TB := tb_m (List.mem_of_getElem? (i := 948) (by decide +kernel)) rfl
set_option maxRecDepth 100000 in
theorem ti_X9_trams : Cond.instanceMethod yX9_trams ∈ TB := tb_m (List.mem_of_getElem? (i := 947) (by decide +kernel)) rfl
set_option maxRecDepth 100000 in
theorem te_X9_trams : Cond.selects RX9 yX9_trams yX9_trams ∈ TB := tb_m (List.mem_of_getElem? (i := 57) (by decide +kernel)) rfl
set_option maxRecDepth 100000 in
theorem tp_X9_trams : yX9_trams.cls ≠ "java/lang/invoke/MethodHandle" ∧ yX9_trams.cls ≠ "java/lang/invoke/VarHandle" ∧ (parseMethodDescriptor yX9_trams.desc).map (fun d => d.parameters.length) = some 0 := by decide +kernel
set_option maxRecDepth 100000 in
theorem tc_X9_type : Cond.code yX9_type cX9_type 2 (some .int) ∈ TB := tb_m (List.mem_of_getElem? (i := 1013) (by decide +kernel)) rfl
set_option maxRecDepth 100000 in
theorem ti_X9_type : Cond.instanceMethod yX9_type ∈ TB := tb_m (List.mem_of_getElem? (i := 1011) (by decide +kernel)) rfl
set_option maxRecDepth 100000 in
theorem te_X9_type : Cond.selects RX9 yX9_type yX9_type ∈ TB := tb_m (List.mem_of_getElem? (i := 1012) (by decide +kernel)) rfl
set_option maxRecDepth 100000 in
theorem tp_X9_type : yX9_type.cls ≠ "java/lang/invoke/MethodHandle" ∧ yX9_type.cls ≠ "java/lang/invoke/VarHandle" ∧ (parseMethodDescriptor yX9_type.desc).map (fun d => d.parameters.length) = some 1 := by decide +kernel
set_option maxRecDepth 100000 in
theorem tc_X9_undo : Cond.code yX9_undo cX9_undo 2 (some .int) ∈ TB := tb_m (List.mem_of_getElem? (i := 782) (by decide +kernel)) rfl
set_option maxRecDepth 100000 in
theorem ti_X9_undo : Cond.instanceMethod yX9_undo ∈ TB := tb_m (List.mem_of_getElem? (i := 780) (by decide +kernel)) rfl
set_option maxRecDepth 100000 in
theorem te_X9_undo : Cond.selects RX9 yX9_undo yX9_undo ∈ TB := tb_m (List.mem_of_getElem? (i := 781) (by decide +kernel)) rfl
set_option maxRecDepth 100000 in
theorem tp_X9_undo : yX9_undo.cls ≠ "java/lang/invoke/MethodHandle" ∧ yX9_undo.cls ≠ "java/lang/invoke/VarHandle" ∧ (parseMethodDescriptor yX9_undo.desc).map (fun d => d.parameters.length) = some 0 := by decide +kernel
set_option maxRecDepth 100000 in
theorem tc_X9_with : Cond.code yX9_with cX9_with 4 (some .int) ∈ TB := tb_m (List.mem_of_getElem? (i := 845) (by decide +kernel)) rfl
set_option maxRecDepth 100000 in
theorem ti_X9_with : Cond.instanceMethod yX9_with ∈ TB := tb_m (List.mem_of_getElem? (i := 844) (by decide +kernel)) rfl
set_option maxRecDepth 100000 in
theorem te_X9_with : Cond.selects RX9 yX9_with yX9_with ∈ TB := tb_m (List.mem_of_getElem? (i := 37) (by decide +kernel)) rfl
set_option maxRecDepth 100000 in
theorem tp_X9_with : yX9_with.cls ≠ "java/lang/invoke/MethodHandle" ∧ yX9_with.cls ≠ "java/lang/invoke/VarHandle" ∧ (parseMethodDescriptor yX9_with.desc).map (fun d => d.parameters.length) = some 1 := by decide +kernel
set_option maxRecDepth 100000 in
theorem tm_X8_18 : Cond.methodLink RX8 18 yX0_init ∈ TB := tb_m (List.mem_of_getElem? (i := 265) (by decide +kernel)) rfl
set_option maxRecDepth 100000 in
theorem lk_X8_44 : LkS RX8 44 yX8_isOutside cX8_isOutside 3 (some .boolean) 3 := ⟨tb_m (List.mem_of_getElem? (i := 375) (by decide +kernel)) rfl, ts_X8_isOutside, ini_X8, tc_X8_isOutside, tp_X8_isOutside, by decide⟩
set_option maxRecDepth 100000 in
theorem lk_X8_58 : LkV RX8 58 RX0 yX0_keep cX0_keep 2 none 1 := ⟨tb_m (List.mem_of_getElem? (i := 378) (by decide +kernel)) rfl, ti_X0_keep, te_X0_keep, ini_X0, tc_X0_keep, tp_X0_keep, by decide⟩
set_option maxRecDepth 100000 in
theorem lk_X8_62 : LkV RX8 62 RX7 yX7_addSection cX7_addSection 4 (some .int) 2 := ⟨tb_m (List.mem_of_getElem? (i := 407) (by decide +kernel)) rfl, ti_X7_addSection, te_X7_addSection, ini_X7, tc_X7_addSection, tp_X7_addSection, by decide⟩
set_option maxRecDepth 100000 in
theorem lk_X8_66 : LkV RX8 66 RX7 yX7_hasSection cX7_hasSection 2 (some .boolean) 1 := ⟨tb_m (List.mem_of_getElem? (i := 423) (by decide +kernel)) rfl, ti_X7_hasSection, te_X7_hasSection, ini_X7, tc_X7_hasSection, tp_X7_hasSection, by decide⟩
set_option maxRecDepth 100000 in
theorem lk_X8_70 : LkV RX8 70 RX7 yX7_joiningEndangers cX7_joiningEndangers 7 (some .boolean) 2 := ⟨tb_m (List.mem_of_getElem? (i := 428) (by decide +kernel)) rfl, ti_X7_joiningEndangers, te_X7_joiningEndangers, ini_X7, tc_X7_joiningEndangers, tp_X7_joiningEndangers, by decide⟩
set_option maxRecDepth 100000 in
theorem lk_X8_77 : LkV RX8 77 RX7 yX7_addIsolator cX7_addIsolator 4 (some .int) 2 := ⟨tb_m (List.mem_of_getElem? (i := 436) (by decide +kernel)) rfl, ti_X7_addIsolator, te_X7_addIsolator, ini_X7, tc_X7_addIsolator, tp_X7_addIsolator, by decide⟩
set_option maxRecDepth 100000 in
theorem lk_X8_84 : LkV RX8 84 RX5 yX5_bridgingBuses cX5_bridgingBuses 3 (some .int) 0 := ⟨tb_m (List.mem_of_getElem? (i := 452) (by decide +kernel)) rfl, ti_X5_bridgingBuses, te_X5_bridgingBuses, ini_X5, tc_X5_bridgingBuses, tp_X5_bridgingBuses, by decide⟩
set_option maxRecDepth 100000 in
theorem lk_X8_93 : LkV RX8 93 RX5 yX5_freeBuses cX5_freeBuses 1 (some .int) 0 := ⟨tb_m (List.mem_of_getElem? (i := 456) (by decide +kernel)) rfl, ti_X5_freeBuses, te_X5_freeBuses, ini_X5, tc_X5_freeBuses, tp_X5_freeBuses, by decide⟩
set_option maxRecDepth 100000 in
theorem lk_X8_107 : LkS RX8 107 yX8_asNumber cX8_asNumber 1 (some .int) 1 := ⟨tb_m (List.mem_of_getElem? (i := 465) (by decide +kernel)) rfl, ts_X8_asNumber, ini_X8, tc_X8_asNumber, tp_X8_asNumber, by decide⟩
set_option maxRecDepth 100000 in
theorem lk_X8_111 : LkV RX8 111 RX7 yX7_isLiveByLog cX7_isLiveByLog 3 (some .boolean) 1 := ⟨tb_m (List.mem_of_getElem? (i := 468) (by decide +kernel)) rfl, ti_X7_isLiveByLog, te_X7_isLiveByLog, ini_X7, tc_X7_isLiveByLog, tp_X7_isLiveByLog, by decide⟩
set_option maxRecDepth 100000 in
theorem lk_X8_126 : LkV RX8 126 RX2 yX2_groupSize cX2_groupSize 4 (some .int) 1 := ⟨tb_m (List.mem_of_getElem? (i := 484) (by decide +kernel)) rfl, ti_X2_groupSize, te_X2_groupSize, ini_X2, tc_X2_groupSize, tp_X2_groupSize, by decide⟩
set_option maxRecDepth 100000 in
theorem lk_X8_130 : LkV RX8 130 RX2 yX2_closedAt cX2_closedAt 4 (some .int) 1 := ⟨tb_m (List.mem_of_getElem? (i := 489) (by decide +kernel)) rfl, ti_X2_closedAt, te_X2_closedAt, ini_X2, tc_X2_closedAt, tp_X2_closedAt, by decide⟩
set_option maxRecDepth 100000 in
theorem lk_X8_136 : LkV RX8 136 RX7 yX7_hasIsolator cX7_hasIsolator 2 (some .boolean) 1 := ⟨tb_m (List.mem_of_getElem? (i := 501) (by decide +kernel)) rfl, ti_X7_hasIsolator, te_X7_hasIsolator, ini_X7, tc_X7_hasIsolator, tp_X7_hasIsolator, by decide⟩
set_option maxRecDepth 100000 in
theorem lk_X8_148 : LkV RX8 148 RX7 yX7_isClosedByLog cX7_isClosedByLog 2 (some .boolean) 1 := ⟨tb_m (List.mem_of_getElem? (i := 505) (by decide +kernel)) rfl, ti_X7_isClosedByLog, te_X7_isClosedByLog, ini_X7, tc_X7_isClosedByLog, tp_X7_isClosedByLog, by decide⟩
set_option maxRecDepth 100000 in
theorem lk_X8_151 : LkV RX8 151 RX7 yX7_darkenedByOpening cX7_darkenedByOpening 4 (some .int) 1 := ⟨tb_m (List.mem_of_getElem? (i := 509) (by decide +kernel)) rfl, ti_X7_darkenedByOpening, te_X7_darkenedByOpening, ini_X7, tc_X7_darkenedByOpening, tp_X7_darkenedByOpening, by decide⟩
set_option maxRecDepth 100000 in
theorem lk_X8_154 : LkV RX8 154 RX7 yX7_litByClosing cX7_litByClosing 4 (some .int) 1 := ⟨tb_m (List.mem_of_getElem? (i := 521) (by decide +kernel)) rfl, ti_X7_litByClosing, te_X7_litByClosing, ini_X7, tc_X7_litByClosing, tp_X7_litByClosing, by decide⟩
set_option maxRecDepth 100000 in
theorem lk_X8_157 : LkS RX8 157 yX8_countTrue cX8_countTrue 3 (some .int) 1 := ⟨tb_m (List.mem_of_getElem? (i := 533) (by decide +kernel)) rfl, ts_X8_countTrue, ini_X8, tc_X8_countTrue, tp_X8_countTrue, by decide⟩
set_option maxRecDepth 100000 in
theorem lk_X8_161 : LkV RX8 161 RX5 yX5_allTools cX5_allTools 3 (some .int) 0 := ⟨tb_m (List.mem_of_getElem? (i := 536) (by decide +kernel)) rfl, ti_X5_allTools, te_X5_allTools, ini_X5, tc_X5_allTools, tp_X5_allTools, by decide⟩
set_option maxRecDepth 100000 in
theorem lk_X8_182 : LkV RX8 182 RX5 yX5_lateGangs cX5_lateGangs 3 (some .int) 0 := ⟨tb_m (List.mem_of_getElem? (i := 540) (by decide +kernel)) rfl, ti_X5_lateGangs, te_X5_lateGangs, ini_X5, tc_X5_lateGangs, tp_X5_lateGangs, by decide⟩
set_option maxRecDepth 100000 in
theorem lk_X8_185 : LkV RX8 185 RX2 yX2_groups cX2_groups 3 (some .int) 0 := ⟨tb_m (List.mem_of_getElem? (i := 544) (by decide +kernel)) rfl, ti_X2_groups, te_X2_groups, ini_X2, tc_X2_groups, tp_X2_groups, by decide⟩
set_option maxRecDepth 100000 in
theorem lk_X8_192 : LkV RX8 192 RX0 yX0_restore cX0_restore 2 none 1 := ⟨tb_m (List.mem_of_getElem? (i := 552) (by decide +kernel)) rfl, ti_X0_restore, te_X0_restore, ini_X0, tc_X0_restore, tp_X0_restore, by decide⟩
set_option maxRecDepth 100000 in
theorem lk_X8_195 : LkV RX8 195 RX7 yX7_hasPlace cX7_hasPlace 3 (some .boolean) 2 := ⟨tb_m (List.mem_of_getElem? (i := 560) (by decide +kernel)) rfl, ti_X7_hasPlace, te_X7_hasPlace, ini_X7, tc_X7_hasPlace, tp_X7_hasPlace, by decide⟩
set_option maxRecDepth 100000 in
theorem lk_X8_198 : LkV RX8 198 RX7 yX7_reasonAgainst cX7_reasonAgainst 3 (some .int) 2 := ⟨tb_m (List.mem_of_getElem? (i := 566) (by decide +kernel)) rfl, ti_X7_reasonAgainst, te_X7_reasonAgainst, ini_X7, tc_X7_reasonAgainst, tp_X7_reasonAgainst, by decide⟩
set_option maxRecDepth 100000 in
theorem lk_X8_201 : LkV RX8 201 RX7 yX7_make cX7_make 3 none 2 := ⟨tb_m (List.mem_of_getElem? (i := 623) (by decide +kernel)) rfl, ti_X7_make, te_X7_make, ini_X7, tc_X7_make, tp_X7_make, by decide⟩
set_option maxRecDepth 100000 in
theorem lk_X8_214 : LkV RX8 214 RX3 yX3_drawUp cX3_drawUp 4 none 2 := ⟨tb_m (List.mem_of_getElem? (i := 643) (by decide +kernel)) rfl, ti_X3_drawUp, te_X3_drawUp, ini_X3, tc_X3_drawUp, tp_X3_drawUp, by decide⟩
set_option maxRecDepth 100000 in
theorem lk_X8_221 : LkV RX8 221 RX4 yX4_tryPlan cX4_tryPlan 4 none 2 := ⟨tb_m (List.mem_of_getElem? (i := 656) (by decide +kernel)) rfl, ti_X4_tryPlan, te_X4_tryPlan, ini_X4, tc_X4_tryPlan, tp_X4_tryPlan, by decide⟩
set_option maxRecDepth 100000 in
theorem lk_X8_229 : LkV RX8 229 RX5 yX5_bringGang cX5_bringGang 4 none 3 := ⟨tb_m (List.mem_of_getElem? (i := 672) (by decide +kernel)) rfl, ti_X5_bringGang, te_X5_bringGang, ini_X5, tc_X5_bringGang, tp_X5_bringGang, by decide⟩
set_option maxRecDepth 100000 in
theorem lk_X8_236 : LkV RX8 236 RX5 yX5_sendGangOff cX5_sendGangOff 4 (some .int) 2 := ⟨tb_m (List.mem_of_getElem? (i := 680) (by decide +kernel)) rfl, ti_X5_sendGangOff, te_X5_sendGangOff, ini_X5, tc_X5_sendGangOff, tp_X5_sendGangOff, by decide⟩
set_option maxRecDepth 100000 in
theorem lk_X8_242 : LkV RX8 242 RX4 yX4_tryText cX4_tryText 4 none 2 := ⟨tb_m (List.mem_of_getElem? (i := 707) (by decide +kernel)) rfl, ti_X4_tryText, te_X4_tryText, ini_X4, tc_X4_tryText, tp_X4_tryText, by decide⟩
set_option maxRecDepth 100000 in
theorem lk_X8_255 : LkV RX8 255 RX7 yX7_copyFrom cX7_copyFrom 2 none 1 := ⟨tb_m (List.mem_of_getElem? (i := 732) (by decide +kernel)) rfl, ti_X7_copyFrom, te_X7_copyFrom, ini_X7, tc_X7_copyFrom, tp_X7_copyFrom, by decide⟩
set_option maxRecDepth 100000 in
theorem lk_X0_22 : LkV RX0 22 RX0 yX0_dropOldest cX0_dropOldest 3 none 0 := ⟨tb_m (List.mem_of_getElem? (i := 382) (by decide +kernel)) rfl, ti_X0_dropOldest, te_X0_dropOldest, ini_X0, tc_X0_dropOldest, tp_X0_dropOldest, by decide⟩
set_option maxRecDepth 100000 in
theorem lk_X0_25 : LkV RX0 25 RX7 yX7_copyFrom cX7_copyFrom 2 none 1 := ⟨tb_m (List.mem_of_getElem? (i := 386) (by decide +kernel)) rfl, ti_X7_copyFrom, te_X7_copyFrom, ini_X7, tc_X7_copyFrom, tp_X7_copyFrom, by decide⟩
set_option maxRecDepth 100000 in
theorem tm_X1_41 : Cond.methodLink RX1 41 arraycopyName ∈ TB := tb_m (List.mem_of_getElem? (i := 406) (by decide +kernel)) rfl
set_option maxRecDepth 100000 in
theorem lk_X1_47 : LkV RX1 47 RX1 yX1_dropOldest cX1_dropOldest 1 none 0 := ⟨tb_m (List.mem_of_getElem? (i := 631) (by decide +kernel)) rfl, ti_X1_dropOldest, te_X1_dropOldest, ini_X1, tc_X1_dropOldest, tp_X1_dropOldest, by decide⟩
set_option maxRecDepth 100000 in
theorem lk_X1_50 : LkV RX1 50 RX1 yX1_setBy cX1_setBy 5 none 3 := ⟨tb_m (List.mem_of_getElem? (i := 476) (by decide +kernel)) rfl, ti_X1_setBy, te_X1_setBy, ini_X1, tc_X1_setBy, tp_X1_setBy, by decide⟩
set_option maxRecDepth 100000 in
theorem tm_X2_38 : Cond.methodLink RX2 38 arraycopyName ∈ TB := tb_m (List.mem_of_getElem? (i := 394) (by decide +kernel)) rfl
set_option maxRecDepth 100000 in
theorem lk_X2_44 : LkV RX2 44 RX2 yX2_feed cX2_feed 2 none 0 := ⟨tb_m (List.mem_of_getElem? (i := 415) (by decide +kernel)) rfl, ti_X2_feed, te_X2_feed, ini_X2, tc_X2_feed, tp_X2_feed, by decide⟩
set_option maxRecDepth 100000 in
theorem lk_X2_47 : LkV RX2 47 RX2 yX2_shareLowest cX2_shareLowest 4 none 0 := ⟨tb_m (List.mem_of_getElem? (i := 444) (by decide +kernel)) rfl, ti_X2_shareLowest, te_X2_shareLowest, ini_X2, tc_X2_shareLowest, tp_X2_shareLowest, by decide⟩
set_option maxRecDepth 100000 in
theorem lk_X2_50 : LkV RX2 50 RX2 yX2_areTogether cX2_areTogether 3 (some .boolean) 2 := ⟨tb_m (List.mem_of_getElem? (i := 488) (by decide +kernel)) rfl, ti_X2_areTogether, te_X2_areTogether, ini_X2, tc_X2_areTogether, tp_X2_areTogether, by decide⟩
set_option maxRecDepth 100000 in
theorem lk_X2_54 : LkV RX2 54 RX2 yX2_isClosedAt cX2_isClosedAt 3 (some .boolean) 2 := ⟨tb_m (List.mem_of_getElem? (i := 493) (by decide +kernel)) rfl, ti_X2_isClosedAt, te_X2_isClosedAt, ini_X2, tc_X2_isClosedAt, tp_X2_isClosedAt, by decide⟩
set_option maxRecDepth 100000 in
theorem lk_X3_34 : LkV RX3 34 RX3 yX3_add cX3_add 3 none 2 := ⟨tb_m (List.mem_of_getElem? (i := 647) (by decide +kernel)) rfl, ti_X3_add, te_X3_add, ini_X3, tc_X3_add, tp_X3_add, by decide⟩
set_option maxRecDepth 100000 in
theorem lk_X3_50 : LkV RX3 50 RX2 yX2_isClosedAt cX2_isClosedAt 3 (some .boolean) 2 := ⟨tb_m (List.mem_of_getElem? (i := 651) (by decide +kernel)) rfl, ti_X2_isClosedAt, te_X2_isClosedAt, ini_X2, tc_X2_isClosedAt, tp_X2_isClosedAt, by decide⟩
set_option maxRecDepth 100000 in
theorem lk_X4_18 : LkV RX4 18 RX4 yX4_begin cX4_begin 2 none 1 := ⟨tb_m (List.mem_of_getElem? (i := 660) (by decide +kernel)) rfl, ti_X4_begin, te_X4_begin, ini_X4, tc_X4_begin, tp_X4_begin, by decide⟩
set_option maxRecDepth 100000 in
theorem lk_X4_35 : LkV RX4 35 RX7 yX7_reasonAgainst cX7_reasonAgainst 3 (some .int) 2 := ⟨tb_m (List.mem_of_getElem? (i := 665) (by decide +kernel)) rfl, ti_X7_reasonAgainst, te_X7_reasonAgainst, ini_X7, tc_X7_reasonAgainst, tp_X7_reasonAgainst, by decide⟩
set_option maxRecDepth 100000 in
theorem lk_X4_42 : LkV RX4 42 RX7 yX7_make cX7_make 3 none 2 := ⟨tb_m (List.mem_of_getElem? (i := 666) (by decide +kernel)) rfl, ti_X7_make, te_X7_make, ini_X7, tc_X7_make, tp_X7_make, by decide⟩
set_option maxRecDepth 100000 in
theorem lk_X4_57 : LkV RX4 57 RX6 yX6_readStep cX6_readStep 5 (some .boolean) 1 := ⟨tb_m (List.mem_of_getElem? (i := 711) (by decide +kernel)) rfl, ti_X6_readStep, te_X6_readStep, ini_X6, tc_X6_readStep, tp_X6_readStep, by decide⟩
set_option maxRecDepth 100000 in
theorem lk_X4_67 : LkV RX4 67 RX7 yX7_hasPlace cX7_hasPlace 3 (some .boolean) 2 := ⟨tb_m (List.mem_of_getElem? (i := 727) (by decide +kernel)) rfl, ti_X7_hasPlace, te_X7_hasPlace, ini_X7, tc_X7_hasPlace, tp_X7_hasPlace, by decide⟩
set_option maxRecDepth 100000 in
theorem lk_X4_74 : LkV RX4 74 RX7 yX7_copyFrom cX7_copyFrom 2 none 1 := ⟨tb_m (List.mem_of_getElem? (i := 664) (by decide +kernel)) rfl, ti_X7_copyFrom, te_X7_copyFrom, ini_X7, tc_X7_copyFrom, tp_X7_copyFrom, by decide⟩
set_option maxRecDepth 100000 in
theorem tm_X5_44 : Cond.methodLink RX5 44 arraycopyName ∈ TB := tb_m (List.mem_of_getElem? (i := 401) (by decide +kernel)) rfl
set_option maxRecDepth 100000 in
theorem lk_X5_50 : LkV RX5 50 RX5 yX5_bridgingBuses cX5_bridgingBuses 3 (some .int) 0 := ⟨tb_m (List.mem_of_getElem? (i := 460) (by decide +kernel)) rfl, ti_X5_bridgingBuses, te_X5_bridgingBuses, ini_X5, tc_X5_bridgingBuses, tp_X5_bridgingBuses, by decide⟩
set_option maxRecDepth 100000 in
theorem tm_X5_54 : Cond.methodLink RX5 54 Lib.Math.max.name ∈ TB := tb_m (List.mem_of_getElem? (i := 684) (by decide +kernel)) rfl
set_option maxRecDepth 100000 in
theorem lk_X6_15 : LkV RX6 15 RX6 yX6_characterAt cX6_characterAt 2 (some .int) 1 := ⟨tb_m (List.mem_of_getElem? (i := 715) (by decide +kernel)) rfl, ti_X6_characterAt, te_X6_characterAt, ini_X6, tc_X6_characterAt, tp_X6_characterAt, by decide⟩
set_option maxRecDepth 100000 in
theorem lk_X6_19 : LkS RX6 19 yX6_kindOf cX6_kindOf 1 (some .int) 1 := ⟨tb_m (List.mem_of_getElem? (i := 720) (by decide +kernel)) rfl, ts_X6_kindOf, ini_X6, tc_X6_kindOf, tp_X6_kindOf, by decide⟩
set_option maxRecDepth 100000 in
theorem lk_X6_26 : LkV RX6 26 RX6 yX6_digitAt cX6_digitAt 3 (some .int) 1 := ⟨tb_m (List.mem_of_getElem? (i := 723) (by decide +kernel)) rfl, ti_X6_digitAt, te_X6_digitAt, ini_X6, tc_X6_digitAt, tp_X6_digitAt, by decide⟩
set_option maxRecDepth 100000 in
theorem lk_X7_39 : LkV RX7 39 RX2 yX2_copyFrom cX2_copyFrom 2 none 1 := ⟨tb_m (List.mem_of_getElem? (i := 390) (by decide +kernel)) rfl, ti_X2_copyFrom, te_X2_copyFrom, ini_X2, tc_X2_copyFrom, tp_X2_copyFrom, by decide⟩
set_option maxRecDepth 100000 in
theorem lk_X7_43 : LkV RX7 43 RX5 yX5_copyFrom cX5_copyFrom 2 none 1 := ⟨tb_m (List.mem_of_getElem? (i := 397) (by decide +kernel)) rfl, ti_X5_copyFrom, te_X5_copyFrom, ini_X5, tc_X5_copyFrom, tp_X5_copyFrom, by decide⟩
set_option maxRecDepth 100000 in
theorem lk_X7_46 : LkV RX7 46 RX1 yX1_copyFrom cX1_copyFrom 2 none 1 := ⟨tb_m (List.mem_of_getElem? (i := 402) (by decide +kernel)) rfl, ti_X1_copyFrom, te_X1_copyFrom, ini_X1, tc_X1_copyFrom, tp_X1_copyFrom, by decide⟩
set_option maxRecDepth 100000 in
theorem lk_X7_60 : LkV RX7 60 RX7 yX7_hasIsolator cX7_hasIsolator 2 (some .boolean) 1 := ⟨tb_m (List.mem_of_getElem? (i := 564) (by decide +kernel)) rfl, ti_X7_hasIsolator, te_X7_hasIsolator, ini_X7, tc_X7_hasIsolator, tp_X7_hasIsolator, by decide⟩
set_option maxRecDepth 100000 in
theorem lk_X7_64 : LkV RX7 64 RX7 yX7_hasSection cX7_hasSection 2 (some .boolean) 1 := ⟨tb_m (List.mem_of_getElem? (i := 565) (by decide +kernel)) rfl, ti_X7_hasSection, te_X7_hasSection, ini_X7, tc_X7_hasSection, tp_X7_hasSection, by decide⟩
set_option maxRecDepth 100000 in
theorem lk_X7_77 : LkV RX7 77 RX2 yX2_setFeeder cX2_setFeeder 3 none 2 := ⟨tb_m (List.mem_of_getElem? (i := 411) (by decide +kernel)) rfl, ti_X2_setFeeder, te_X2_setFeeder, ini_X2, tc_X2_setFeeder, tp_X2_setFeeder, by decide⟩
set_option maxRecDepth 100000 in
theorem lk_X7_90 : LkV RX7 90 RX2 yX2_setIsolator cX2_setIsolator 4 none 2 := ⟨tb_m (List.mem_of_getElem? (i := 440) (by decide +kernel)) rfl, ti_X2_setIsolator, te_X2_setIsolator, ini_X2, tc_X2_setIsolator, tp_X2_setIsolator, by decide⟩
set_option maxRecDepth 100000 in
theorem lk_X7_103 : LkV RX7 103 RX2 yX2_areTogether cX2_areTogether 3 (some .boolean) 2 := ⟨tb_m (List.mem_of_getElem? (i := 432) (by decide +kernel)) rfl, ti_X2_areTogether, te_X2_areTogether, ini_X2, tc_X2_areTogether, tp_X2_areTogether, by decide⟩
set_option maxRecDepth 100000 in
theorem lk_X7_107 : LkV RX7 107 RX7 yX7_supposeIsolator cX7_supposeIsolator 3 none 2 := ⟨tb_m (List.mem_of_getElem? (i := 513) (by decide +kernel)) rfl, ti_X7_supposeIsolator, te_X7_supposeIsolator, ini_X7, tc_X7_supposeIsolator, tp_X7_supposeIsolator, by decide⟩
set_option maxRecDepth 100000 in
theorem lk_X7_110 : LkV RX7 110 RX7 yX7_wouldDarken cX7_wouldDarken 2 (some .boolean) 1 := ⟨tb_m (List.mem_of_getElem? (i := 517) (by decide +kernel)) rfl, ti_X7_wouldDarken, te_X7_wouldDarken, ini_X7, tc_X7_wouldDarken, tp_X7_wouldDarken, by decide⟩
set_option maxRecDepth 100000 in
theorem lk_X7_113 : LkV RX7 113 RX7 yX7_wouldLight cX7_wouldLight 2 (some .boolean) 1 := ⟨tb_m (List.mem_of_getElem? (i := 525) (by decide +kernel)) rfl, ti_X7_wouldLight, te_X7_wouldLight, ini_X7, tc_X7_wouldLight, tp_X7_wouldLight, by decide⟩
set_option maxRecDepth 100000 in
theorem lk_X7_116 : LkV RX7 116 RX1 yX1_tell cX1_tell 2 none 0 := ⟨tb_m (List.mem_of_getElem? (i := 472) (by decide +kernel)) rfl, ti_X1_tell, te_X1_tell, ini_X1, tc_X1_tell, tp_X1_tell, by decide⟩
set_option maxRecDepth 100000 in
theorem lk_X7_125 : LkV RX7 125 RX7 yX7_goOutward cX7_goOutward 4 none 0 := ⟨tb_m (List.mem_of_getElem? (i := 480) (by decide +kernel)) rfl, ti_X7_goOutward, te_X7_goOutward, ini_X7, tc_X7_goOutward, tp_X7_goOutward, by decide⟩
set_option maxRecDepth 100000 in
theorem lk_X7_128 : LkV RX7 128 RX7 yX7_againstBridging cX7_againstBridging 2 (some .int) 1 := ⟨tb_m (List.mem_of_getElem? (i := 570) (by decide +kernel)) rfl, ti_X7_againstBridging, te_X7_againstBridging, ini_X7, tc_X7_againstBridging, tp_X7_againstBridging, by decide⟩
set_option maxRecDepth 100000 in
theorem lk_X7_132 : LkV RX7 132 RX7 yX7_againstTrams cX7_againstTrams 2 (some .int) 1 := ⟨tb_m (List.mem_of_getElem? (i := 575) (by decide +kernel)) rfl, ti_X7_againstTrams, te_X7_againstTrams, ini_X7, tc_X7_againstTrams, tp_X7_againstTrams, by decide⟩
set_option maxRecDepth 100000 in
theorem lk_X7_135 : LkV RX7 135 RX7 yX7_againstOpening cX7_againstOpening 2 (some .int) 1 := ⟨tb_m (List.mem_of_getElem? (i := 579) (by decide +kernel)) rfl, ti_X7_againstOpening, te_X7_againstOpening, ini_X7, tc_X7_againstOpening, tp_X7_againstOpening, by decide⟩
set_option maxRecDepth 100000 in
theorem lk_X7_138 : LkV RX7 138 RX7 yX7_againstClosing cX7_againstClosing 2 (some .int) 1 := ⟨tb_m (List.mem_of_getElem? (i := 587) (by decide +kernel)) rfl, ti_X7_againstClosing, te_X7_againstClosing, ini_X7, tc_X7_againstClosing, tp_X7_againstClosing, by decide⟩
set_option maxRecDepth 100000 in
theorem lk_X7_141 : LkV RX7 141 RX7 yX7_againstTurningOff cX7_againstTurningOff 2 (some .int) 1 := ⟨tb_m (List.mem_of_getElem? (i := 599) (by decide +kernel)) rfl, ti_X7_againstTurningOff, te_X7_againstTurningOff, ini_X7, tc_X7_againstTurningOff, tp_X7_againstTurningOff, by decide⟩
set_option maxRecDepth 100000 in
theorem lk_X7_144 : LkV RX7 144 RX7 yX7_againstTurningOn cX7_againstTurningOn 2 (some .int) 1 := ⟨tb_m (List.mem_of_getElem? (i := 607) (by decide +kernel)) rfl, ti_X7_againstTurningOn, te_X7_againstTurningOn, ini_X7, tc_X7_againstTurningOn, tp_X7_againstTurningOn, by decide⟩
set_option maxRecDepth 100000 in
theorem lk_X7_147 : LkV RX7 147 RX7 yX7_againstEarthing cX7_againstEarthing 2 (some .int) 1 := ⟨tb_m (List.mem_of_getElem? (i := 611) (by decide +kernel)) rfl, ti_X7_againstEarthing, te_X7_againstEarthing, ini_X7, tc_X7_againstEarthing, tp_X7_againstEarthing, by decide⟩
set_option maxRecDepth 100000 in
theorem lk_X7_150 : LkV RX7 150 RX7 yX7_againstTakingEarth cX7_againstTakingEarth 2 (some .int) 1 := ⟨tb_m (List.mem_of_getElem? (i := 615) (by decide +kernel)) rfl, ti_X7_againstTakingEarth, te_X7_againstTakingEarth, ini_X7, tc_X7_againstTakingEarth, tp_X7_againstTakingEarth, by decide⟩
set_option maxRecDepth 100000 in
theorem lk_X7_156 : LkV RX7 156 RX5 yX5_freeBuses cX5_freeBuses 1 (some .int) 0 := ⟨tb_m (List.mem_of_getElem? (i := 574) (by decide +kernel)) rfl, ti_X5_freeBuses, te_X5_freeBuses, ini_X5, tc_X5_freeBuses, tp_X5_freeBuses, by decide⟩
set_option maxRecDepth 100000 in
theorem lk_X7_163 : LkV RX7 163 RX7 yX7_wouldDarkenTrams cX7_wouldDarkenTrams 2 (some .boolean) 0 := ⟨tb_m (List.mem_of_getElem? (i := 583) (by decide +kernel)) rfl, ti_X7_wouldDarkenTrams, te_X7_wouldDarkenTrams, ini_X7, tc_X7_wouldDarkenTrams, tp_X7_wouldDarkenTrams, by decide⟩
set_option maxRecDepth 100000 in
theorem lk_X7_167 : LkV RX7 167 RX7 yX7_wouldLightEarth cX7_wouldLightEarth 2 (some .boolean) 0 := ⟨tb_m (List.mem_of_getElem? (i := 591) (by decide +kernel)) rfl, ti_X7_wouldLightEarth, te_X7_wouldLightEarth, ini_X7, tc_X7_wouldLightEarth, tp_X7_wouldLightEarth, by decide⟩
set_option maxRecDepth 100000 in
theorem lk_X7_170 : LkV RX7 170 RX7 yX7_wouldLightTools cX7_wouldLightTools 2 (some .boolean) 0 := ⟨tb_m (List.mem_of_getElem? (i := 595) (by decide +kernel)) rfl, ti_X7_wouldLightTools, te_X7_wouldLightTools, ini_X7, tc_X7_wouldLightTools, tp_X7_wouldLightTools, by decide⟩
set_option maxRecDepth 100000 in
theorem lk_X7_176 : LkV RX7 176 RX7 yX7_supposeFeeder cX7_supposeFeeder 3 none 2 := ⟨tb_m (List.mem_of_getElem? (i := 603) (by decide +kernel)) rfl, ti_X7_supposeFeeder, te_X7_supposeFeeder, ini_X7, tc_X7_supposeFeeder, tp_X7_supposeFeeder, by decide⟩
set_option maxRecDepth 100000 in
theorem lk_X7_185 : LkV RX7 185 RX1 yX1_write cX1_write 4 none 3 := ⟨tb_m (List.mem_of_getElem? (i := 627) (by decide +kernel)) rfl, ti_X1_write, te_X1_write, ini_X1, tc_X1_write, tp_X1_write, by decide⟩
set_option maxRecDepth 100000 in
theorem tm_L_9 : Cond.methodLink RL 9 yX8_init ∈ TB := tb_m (List.mem_of_getElem? (i := 82) (by decide +kernel)) rfl
set_option maxRecDepth 100000 in
theorem tm_L_12 : Cond.methodLink RL 12 yX9_init ∈ TB := tb_m (List.mem_of_getElem? (i := 735) (by decide +kernel)) rfl
set_option maxRecDepth 100000 in
theorem lk_L_13 : LkV RL 13 RX8 yX8_section cX8_section 3 (some .int) 2 := ⟨tb_m (List.mem_of_getElem? (i := 371) (by decide +kernel)) rfl, ti_X8_section, te_X8_section, ini_X8, tc_X8_section, tp_X8_section, by decide⟩
set_option maxRecDepth 100000 in
theorem lk_L_17 : LkV RL 17 RX9 yX9_section cX9_section 5 (some .int) 2 := ⟨tb_m (List.mem_of_getElem? (i := 783) (by decide +kernel)) rfl, ti_X9_section, te_X9_section, ini_X9, tc_X9_section, tp_X9_section, by decide⟩
set_option maxRecDepth 100000 in
theorem lk_L_18 : LkV RL 18 RX8 yX8_isolator cX8_isolator 3 (some .int) 2 := ⟨tb_m (List.mem_of_getElem? (i := 419) (by decide +kernel)) rfl, ti_X8_isolator, te_X8_isolator, ini_X8, tc_X8_isolator, tp_X8_isolator, by decide⟩
set_option maxRecDepth 100000 in
theorem lk_L_21 : LkV RL 21 RX9 yX9_isolator cX9_isolator 3 (some .int) 2 := ⟨tb_m (List.mem_of_getElem? (i := 798) (by decide +kernel)) rfl, ti_X9_isolator, te_X9_isolator, ini_X9, tc_X9_isolator, tp_X9_isolator, by decide⟩
set_option maxRecDepth 100000 in
theorem lk_L_22 : LkV RL 22 RX8 yX8_pool cX8_pool 2 (some .int) 1 := ⟨tb_m (List.mem_of_getElem? (i := 448) (by decide +kernel)) rfl, ti_X8_pool, te_X8_pool, ini_X8, tc_X8_pool, tp_X8_pool, by decide⟩
set_option maxRecDepth 100000 in
theorem lk_L_26 : LkV RL 26 RX9 yX9_pool cX9_pool 2 (some .int) 1 := ⟨tb_m (List.mem_of_getElem? (i := 854) (by decide +kernel)) rfl, ti_X9_pool, te_X9_pool, ini_X9, tc_X9_pool, tp_X9_pool, by decide⟩
set_option maxRecDepth 100000 in
theorem lk_L_27 : LkV RL 27 RX8 yX8_sectionOf cX8_sectionOf 5 (some .int) 2 := ⟨tb_m (List.mem_of_getElem? (i := 461) (by decide +kernel)) rfl, ti_X8_sectionOf, te_X8_sectionOf, ini_X8, tc_X8_sectionOf, tp_X8_sectionOf, by decide⟩
set_option maxRecDepth 100000 in
theorem lk_L_30 : LkV RL 30 RX9 yX9_sectionOf cX9_sectionOf 3 (some .int) 2 := ⟨tb_m (List.mem_of_getElem? (i := 866) (by decide +kernel)) rfl, ti_X9_sectionOf, te_X9_sectionOf, ini_X9, tc_X9_sectionOf, tp_X9_sectionOf, by decide⟩
set_option maxRecDepth 100000 in
theorem lk_L_31 : LkV RL 31 RX8 yX8_isolatorOf cX8_isolatorOf 4 (some .int) 2 := ⟨tb_m (List.mem_of_getElem? (i := 497) (by decide +kernel)) rfl, ti_X8_isolatorOf, te_X8_isolatorOf, ini_X8, tc_X8_isolatorOf, tp_X8_isolatorOf, by decide⟩
set_option maxRecDepth 100000 in
theorem lk_L_34 : LkV RL 34 RX9 yX9_isolatorOf cX9_isolatorOf 3 (some .int) 2 := ⟨tb_m (List.mem_of_getElem? (i := 901) (by decide +kernel)) rfl, ti_X9_isolatorOf, te_X9_isolatorOf, ini_X9, tc_X9_isolatorOf, tp_X9_isolatorOf, by decide⟩
set_option maxRecDepth 100000 in
theorem lk_L_35 : LkV RL 35 RX8 yX8_count cX8_count 3 (some .int) 1 := ⟨tb_m (List.mem_of_getElem? (i := 529) (by decide +kernel)) rfl, ti_X8_count, te_X8_count, ini_X8, tc_X8_count, tp_X8_count, by decide⟩
set_option maxRecDepth 100000 in
theorem lk_L_38 : LkV RL 38 RX9 yX9_count cX9_count 2 (some .int) 1 := ⟨tb_m (List.mem_of_getElem? (i := 913) (by decide +kernel)) rfl, ti_X9_count, te_X9_count, ini_X9, tc_X9_count, tp_X9_count, by decide⟩
set_option maxRecDepth 100000 in
theorem lk_L_39 : LkV RL 39 RX8 yX8_undo cX8_undo 1 (some .int) 0 := ⟨tb_m (List.mem_of_getElem? (i := 548) (by decide +kernel)) rfl, ti_X8_undo, te_X8_undo, ini_X8, tc_X8_undo, tp_X8_undo, by decide⟩
set_option maxRecDepth 100000 in
theorem lk_L_43 : LkV RL 43 RX9 yX9_undo cX9_undo 2 (some .int) 0 := ⟨tb_m (List.mem_of_getElem? (i := 779) (by decide +kernel)) rfl, ti_X9_undo, te_X9_undo, ini_X9, tc_X9_undo, tp_X9_undo, by decide⟩
set_option maxRecDepth 100000 in
theorem lk_L_44 : LkV RL 44 RX8 yX8_refusal cX8_refusal 3 (some .int) 2 := ⟨tb_m (List.mem_of_getElem? (i := 556) (by decide +kernel)) rfl, ti_X8_refusal, te_X8_refusal, ini_X8, tc_X8_refusal, tp_X8_refusal, by decide⟩
set_option maxRecDepth 100000 in
theorem lk_L_47 : LkV RL 47 RX9 yX9_refusal cX9_refusal 3 (some .int) 2 := ⟨tb_m (List.mem_of_getElem? (i := 929) (by decide +kernel)) rfl, ti_X9_refusal, te_X9_refusal, ini_X9, tc_X9_refusal, tp_X9_refusal, by decide⟩
set_option maxRecDepth 100000 in
theorem lk_L_48 : LkV RL 48 RX8 yX8_step cX8_step 3 (some .int) 2 := ⟨tb_m (List.mem_of_getElem? (i := 619) (by decide +kernel)) rfl, ti_X8_step, te_X8_step, ini_X8, tc_X8_step, tp_X8_step, by decide⟩
set_option maxRecDepth 100000 in
theorem lk_L_51 : LkV RL 51 RX9 yX9_step cX9_step 3 (some .int) 2 := ⟨tb_m (List.mem_of_getElem? (i := 953) (by decide +kernel)) rfl, ti_X9_step, te_X9_step, ini_X9, tc_X9_step, tp_X9_step, by decide⟩
set_option maxRecDepth 100000 in
theorem lk_L_52 : LkV RL 52 RX8 yX8_log cX8_log 5 (some .int) 2 := ⟨tb_m (List.mem_of_getElem? (i := 635) (by decide +kernel)) rfl, ti_X8_log, te_X8_log, ini_X8, tc_X8_log, tp_X8_log, by decide⟩
set_option maxRecDepth 100000 in
theorem lk_L_55 : LkV RL 55 RX9 yX9_log cX9_log 3 (some .int) 2 := ⟨tb_m (List.mem_of_getElem? (i := 965) (by decide +kernel)) rfl, ti_X9_log, te_X9_log, ini_X9, tc_X9_log, tp_X9_log, by decide⟩
set_option maxRecDepth 100000 in
theorem lk_L_56 : LkV RL 56 RX8 yX8_plan cX8_plan 3 (some .int) 2 := ⟨tb_m (List.mem_of_getElem? (i := 639) (by decide +kernel)) rfl, ti_X8_plan, te_X8_plan, ini_X8, tc_X8_plan, tp_X8_plan, by decide⟩
set_option maxRecDepth 100000 in
theorem lk_L_59 : LkV RL 59 RX9 yX9_plan cX9_plan 3 (some .int) 2 := ⟨tb_m (List.mem_of_getElem? (i := 969) (by decide +kernel)) rfl, ti_X9_plan, te_X9_plan, ini_X9, tc_X9_plan, tp_X9_plan, by decide⟩
set_option maxRecDepth 100000 in
theorem lk_L_60 : LkV RL 60 RX8 yX8_canPlan cX8_canPlan 2 (some .int) 1 := ⟨tb_m (List.mem_of_getElem? (i := 652) (by decide +kernel)) rfl, ti_X8_canPlan, te_X8_canPlan, ini_X8, tc_X8_canPlan, tp_X8_canPlan, by decide⟩
set_option maxRecDepth 100000 in
theorem lk_L_63 : LkV RL 63 RX9 yX9_canPlan cX9_canPlan 3 (some .int) 1 := ⟨tb_m (List.mem_of_getElem? (i := 981) (by decide +kernel)) rfl, ti_X9_canPlan, te_X9_canPlan, ini_X9, tc_X9_canPlan, tp_X9_canPlan, by decide⟩
set_option maxRecDepth 100000 in
theorem lk_L_64 : LkV RL 64 RX8 yX8_enter cX8_enter 4 (some .int) 3 := ⟨tb_m (List.mem_of_getElem? (i := 667) (by decide +kernel)) rfl, ti_X8_enter, te_X8_enter, ini_X8, tc_X8_enter, tp_X8_enter, by decide⟩
set_option maxRecDepth 100000 in
theorem lk_L_68 : LkV RL 68 RX9 yX9_enter cX9_enter 4 (some .int) 3 := ⟨tb_m (List.mem_of_getElem? (i := 993) (by decide +kernel)) rfl, ti_X9_enter, te_X9_enter, ini_X9, tc_X9_enter, tp_X9_enter, by decide⟩
set_option maxRecDepth 100000 in
theorem lk_L_69 : LkV RL 69 RX8 yX8_leave cX8_leave 3 (some .int) 2 := ⟨tb_m (List.mem_of_getElem? (i := 676) (by decide +kernel)) rfl, ti_X8_leave, te_X8_leave, ini_X8, tc_X8_leave, tp_X8_leave, by decide⟩
set_option maxRecDepth 100000 in
theorem lk_L_72 : LkV RL 72 RX9 yX9_leave cX9_leave 4 (some .int) 2 := ⟨tb_m (List.mem_of_getElem? (i := 998) (by decide +kernel)) rfl, ti_X9_leave, te_X9_leave, ini_X9, tc_X9_leave, tp_X9_leave, by decide⟩
set_option maxRecDepth 100000 in
theorem lk_L_73 : LkV RL 73 RX8 yX8_fetch cX8_fetch 3 (some .int) 1 := ⟨tb_m (List.mem_of_getElem? (i := 687) (by decide +kernel)) rfl, ti_X8_fetch, te_X8_fetch, ini_X8, tc_X8_fetch, tp_X8_fetch, by decide⟩
set_option maxRecDepth 100000 in
theorem lk_L_76 : LkV RL 76 RX9 yX9_fetch cX9_fetch 3 (some .int) 1 := ⟨tb_m (List.mem_of_getElem? (i := 1002) (by decide +kernel)) rfl, ti_X9_fetch, te_X9_fetch, ini_X9, tc_X9_fetch, tp_X9_fetch, by decide⟩
set_option maxRecDepth 100000 in
theorem lk_L_77 : LkV RL 77 RX8 yX8_pass cX8_pass 2 (some .int) 1 := ⟨tb_m (List.mem_of_getElem? (i := 691) (by decide +kernel)) rfl, ti_X8_pass, te_X8_pass, ini_X8, tc_X8_pass, tp_X8_pass, by decide⟩
set_option maxRecDepth 100000 in
theorem lk_L_80 : LkV RL 80 RX9 yX9_pass cX9_pass 2 (some .int) 1 := ⟨tb_m (List.mem_of_getElem? (i := 1006) (by decide +kernel)) rfl, ti_X9_pass, te_X9_pass, ini_X9, tc_X9_pass, tp_X9_pass, by decide⟩
set_option maxRecDepth 100000 in
theorem lk_L_81 : LkV RL 81 RX8 yX8_type cX8_type 2 (some .int) 1 := ⟨tb_m (List.mem_of_getElem? (i := 695) (by decide +kernel)) rfl, ti_X8_type, te_X8_type, ini_X8, tc_X8_type, tp_X8_type, by decide⟩
set_option maxRecDepth 100000 in
theorem lk_L_84 : LkV RL 84 RX9 yX9_type cX9_type 2 (some .int) 1 := ⟨tb_m (List.mem_of_getElem? (i := 1010) (by decide +kernel)) rfl, ti_X9_type, te_X9_type, ini_X9, tc_X9_type, tp_X9_type, by decide⟩
set_option maxRecDepth 100000 in
theorem lk_L_85 : LkV RL 85 RX8 yX8_clearText cX8_clearText 2 (some .int) 0 := ⟨tb_m (List.mem_of_getElem? (i := 699) (by decide +kernel)) rfl, ti_X8_clearText, te_X8_clearText, ini_X8, tc_X8_clearText, tp_X8_clearText, by decide⟩
set_option maxRecDepth 100000 in
theorem lk_L_88 : LkV RL 88 RX9 yX9_clearText cX9_clearText 2 (some .int) 0 := ⟨tb_m (List.mem_of_getElem? (i := 1014) (by decide +kernel)) rfl, ti_X9_clearText, te_X9_clearText, ini_X9, tc_X9_clearText, tp_X9_clearText, by decide⟩
set_option maxRecDepth 100000 in
theorem lk_L_89 : LkV RL 89 RX8 yX8_fault cX8_fault 2 (some .int) 1 := ⟨tb_m (List.mem_of_getElem? (i := 703) (by decide +kernel)) rfl, ti_X8_fault, te_X8_fault, ini_X8, tc_X8_fault, tp_X8_fault, by decide⟩
set_option maxRecDepth 100000 in
theorem lk_L_92 : LkV RL 92 RX9 yX9_fault cX9_fault 3 (some .int) 1 := ⟨tb_m (List.mem_of_getElem? (i := 1018) (by decide +kernel)) rfl, ti_X9_fault, te_X9_fault, ini_X9, tc_X9_fault, tp_X9_fault, by decide⟩
set_option maxRecDepth 100000 in
theorem lk_L_93 : LkV RL 93 RX8 yX8_play cX8_play 1 (some .int) 0 := ⟨tb_m (List.mem_of_getElem? (i := 728) (by decide +kernel)) rfl, ti_X8_play, te_X8_play, ini_X8, tc_X8_play, tp_X8_play, by decide⟩
set_option maxRecDepth 100000 in
theorem lk_L_96 : LkV RL 96 RX9 yX9_play cX9_play 3 (some .int) 0 := ⟨tb_m (List.mem_of_getElem? (i := 1033) (by decide +kernel)) rfl, ti_X9_play, te_X9_play, ini_X9, tc_X9_play, tp_X9_play, by decide⟩
set_option maxRecDepth 100000 in
theorem lk_X9_25 : LkS RX9 25 yX9_in cX9_in 3 (some .boolean) 3 := ⟨tb_m (List.mem_of_getElem? (i := 787) (by decide +kernel)) rfl, ts_X9_in, ini_X9, tc_X9_in, tp_X9_in, by decide⟩
set_option maxRecDepth 100000 in
theorem lk_X9_33 : LkV RX9 33 RX9 yX9_at cX9_at 3 (some .int) 2 := ⟨tb_m (List.mem_of_getElem? (i := 826) (by decide +kernel)) rfl, ti_X9_at, te_X9_at, ini_X9, tc_X9_at, tp_X9_at, by decide⟩
set_option maxRecDepth 100000 in
theorem lk_X9_37 : LkV RX9 37 RX9 yX9_of cX9_of 3 (some .int) 2 := ⟨tb_m (List.mem_of_getElem? (i := 818) (by decide +kernel)) rfl, ti_X9_of, te_X9_of, ini_X9, tc_X9_of, tp_X9_of, by decide⟩
set_option maxRecDepth 100000 in
theorem lk_X9_40 : LkV RX9 40 RX9 yX9_with cX9_with 4 (some .int) 1 := ⟨tb_m (List.mem_of_getElem? (i := 842) (by decide +kernel)) rfl, ti_X9_with, te_X9_with, ini_X9, tc_X9_with, tp_X9_with, by decide⟩
set_option maxRecDepth 100000 in
theorem lk_X9_44 : LkV RX9 44 RX9 yX9_hanging cX9_hanging 7 (some .int) 2 := ⟨tb_m (List.mem_of_getElem? (i := 834) (by decide +kernel)) rfl, ti_X9_hanging, te_X9_hanging, ini_X9, tc_X9_hanging, tp_X9_hanging, by decide⟩
set_option maxRecDepth 100000 in
theorem lk_X9_47 : LkV RX9 47 RX9 yX9_onOnes cX9_onOnes 3 (some .int) 0 := ⟨tb_m (List.mem_of_getElem? (i := 814) (by decide +kernel)) rfl, ti_X9_onOnes, te_X9_onOnes, ini_X9, tc_X9_onOnes, tp_X9_onOnes, by decide⟩
set_option maxRecDepth 100000 in
theorem lk_X9_51 : LkV RX9 51 RX9 yX9_closedOnes cX9_closedOnes 3 (some .int) 0 := ⟨tb_m (List.mem_of_getElem? (i := 822) (by decide +kernel)) rfl, ti_X9_closedOnes, te_X9_closedOnes, ini_X9, tc_X9_closedOnes, tp_X9_closedOnes, by decide⟩
set_option maxRecDepth 100000 in
theorem lk_X9_54 : LkV RX9 54 RX9 yX9_live cX9_live 5 (some .int) 2 := ⟨tb_m (List.mem_of_getElem? (i := 830) (by decide +kernel)) rfl, ti_X9_live, te_X9_live, ini_X9, tc_X9_live, tp_X9_live, by decide⟩
set_option maxRecDepth 100000 in
theorem lk_X9_57 : LkV RX9 57 RX9 yX9_liveNow cX9_liveNow 1 (some .int) 0 := ⟨tb_m (List.mem_of_getElem? (i := 810) (by decide +kernel)) rfl, ti_X9_liveNow, te_X9_liveNow, ini_X9, tc_X9_liveNow, tp_X9_liveNow, by decide⟩
set_option maxRecDepth 100000 in
theorem lk_X9_60 : LkV RX9 60 RX9 yX9_logged cX9_logged 3 (some .int) 2 := ⟨tb_m (List.mem_of_getElem? (i := 886) (by decide +kernel)) rfl, ti_X9_logged, te_X9_logged, ini_X9, tc_X9_logged, tp_X9_logged, by decide⟩
set_option maxRecDepth 100000 in
theorem lk_X9_63 : LkV RX9 63 RX9 yX9_toldBy cX9_toldBy 7 (some .int) 3 := ⟨tb_m (List.mem_of_getElem? (i := 882) (by decide +kernel)) rfl, ti_X9_toldBy, te_X9_toldBy, ini_X9, tc_X9_toldBy, tp_X9_toldBy, by decide⟩
set_option maxRecDepth 100000 in
theorem lk_X9_67 : LkV RX9 67 RX9 yX9_onAgain cX9_onAgain 3 (some .int) 1 := ⟨tb_m (List.mem_of_getElem? (i := 878) (by decide +kernel)) rfl, ti_X9_onAgain, te_X9_onAgain, ini_X9, tc_X9_onAgain, tp_X9_onAgain, by decide⟩
set_option maxRecDepth 100000 in
theorem lk_X9_70 : LkV RX9 70 RX9 yX9_closedAgain cX9_closedAgain 3 (some .int) 1 := ⟨tb_m (List.mem_of_getElem? (i := 890) (by decide +kernel)) rfl, ti_X9_closedAgain, te_X9_closedAgain, ini_X9, tc_X9_closedAgain, tp_X9_closedAgain, by decide⟩
set_option maxRecDepth 100000 in
theorem lk_X9_73 : LkV RX9 73 RX9 yX9_records cX9_records 2 none 0 := ⟨tb_m (List.mem_of_getElem? (i := 790) (by decide +kernel)) rfl, ti_X9_records, te_X9_records, ini_X9, tc_X9_records, tp_X9_records, by decide⟩
set_option maxRecDepth 100000 in
theorem lk_X9_76 : LkV RX9 76 RX9 yX9_put cX9_put 4 none 3 := ⟨tb_m (List.mem_of_getElem? (i := 794) (by decide +kernel)) rfl, ti_X9_put, te_X9_put, ini_X9, tc_X9_put, tp_X9_put, by decide⟩
set_option maxRecDepth 100000 in
theorem lk_X9_80 : LkV RX9 80 RX9 yX9_lay cX9_lay 4 none 3 := ⟨tb_m (List.mem_of_getElem? (i := 850) (by decide +kernel)) rfl, ti_X9_lay, te_X9_lay, ini_X9, tc_X9_lay, tp_X9_lay, by decide⟩
set_option maxRecDepth 100000 in
theorem lk_X9_83 : LkV RX9 83 RX9 yX9_against cX9_against 4 (some .int) 2 := ⟨tb_m (List.mem_of_getElem? (i := 838) (by decide +kernel)) rfl, ti_X9_against, te_X9_against, ini_X9, tc_X9_against, tp_X9_against, by decide⟩
set_option maxRecDepth 100000 in
theorem lk_X9_86 : LkV RX9 86 RX9 yX9_isSection cX9_isSection 2 (some .boolean) 1 := ⟨tb_m (List.mem_of_getElem? (i := 802) (by decide +kernel)) rfl, ti_X9_isSection, te_X9_isSection, ini_X9, tc_X9_isSection, tp_X9_isSection, by decide⟩
set_option maxRecDepth 100000 in
theorem lk_X9_90 : LkV RX9 90 RX9 yX9_mayJoin cX9_mayJoin 5 (some .boolean) 2 := ⟨tb_m (List.mem_of_getElem? (i := 806) (by decide +kernel)) rfl, ti_X9_mayJoin, te_X9_mayJoin, ini_X9, tc_X9_mayJoin, tp_X9_mayJoin, by decide⟩
set_option maxRecDepth 100000 in
theorem lk_X9_94 : LkV RX9 94 RX9 yX9_newIsolator cX9_newIsolator 4 none 2 := ⟨tb_m (List.mem_of_getElem? (i := 846) (by decide +kernel)) rfl, ti_X9_newIsolator, te_X9_newIsolator, ini_X9, tc_X9_newIsolator, tp_X9_newIsolator, by decide⟩
set_option maxRecDepth 100000 in
theorem lk_X9_98 : LkV RX9 98 RX9 yX9_busesOut cX9_busesOut 3 (some .int) 0 := ⟨tb_m (List.mem_of_getElem? (i := 858) (by decide +kernel)) rfl, ti_X9_busesOut, te_X9_busesOut, ini_X9, tc_X9_busesOut, tp_X9_busesOut, by decide⟩
set_option maxRecDepth 100000 in
theorem lk_X9_101 : LkV RX9 101 RX9 yX9_free cX9_free 1 (some .int) 0 := ⟨tb_m (List.mem_of_getElem? (i := 862) (by decide +kernel)) rfl, ti_X9_free, te_X9_free, ini_X9, tc_X9_free, tp_X9_free, by decide⟩
set_option maxRecDepth 100000 in
theorem lk_X9_104 : LkV RX9 104 RX9 yX9_isLive cX9_isLive 2 (some .boolean) 1 := ⟨tb_m (List.mem_of_getElem? (i := 870) (by decide +kernel)) rfl, ti_X9_isLive, te_X9_isLive, ini_X9, tc_X9_isLive, tp_X9_isLive, by decide⟩
set_option maxRecDepth 100000 in
theorem lk_X9_107 : LkV RX9 107 RX9 yX9_liveAgain cX9_liveAgain 4 (some .int) 0 := ⟨tb_m (List.mem_of_getElem? (i := 874) (by decide +kernel)) rfl, ti_X9_liveAgain, te_X9_liveAgain, ini_X9, tc_X9_liveAgain, tp_X9_liveAgain, by decide⟩
set_option maxRecDepth 100000 in
theorem lk_X9_110 : LkS RX9 110 yX9_bits cX9_bits 3 (some .int) 1 := ⟨tb_m (List.mem_of_getElem? (i := 894) (by decide +kernel)) rfl, ts_X9_bits, ini_X9, tc_X9_bits, tp_X9_bits, by decide⟩
set_option maxRecDepth 100000 in
theorem lk_X9_113 : LkV RX9 113 RX9 yX9_closedAt cX9_closedAt 4 (some .int) 1 := ⟨tb_m (List.mem_of_getElem? (i := 897) (by decide +kernel)) rfl, ti_X9_closedAt, te_X9_closedAt, ini_X9, tc_X9_closedAt, tp_X9_closedAt, by decide⟩
set_option maxRecDepth 100000 in
theorem lk_X9_116 : LkV RX9 116 RX9 yX9_isIsolator cX9_isIsolator 2 (some .boolean) 1 := ⟨tb_m (List.mem_of_getElem? (i := 905) (by decide +kernel)) rfl, ti_X9_isIsolator, te_X9_isIsolator, ini_X9, tc_X9_isIsolator, tp_X9_isIsolator, by decide⟩
set_option maxRecDepth 100000 in
theorem lk_X9_119 : LkV RX9 119 RX9 yX9_liveWith cX9_liveWith 4 (some .int) 2 := ⟨tb_m (List.mem_of_getElem? (i := 909) (by decide +kernel)) rfl, ti_X9_liveWith, te_X9_liveWith, ini_X9, tc_X9_liveWith, tp_X9_liveWith, by decide⟩
set_option maxRecDepth 100000 in
theorem lk_X9_123 : LkV RX9 123 RX9 yX9_toolsLeft cX9_toolsLeft 3 (some .int) 0 := ⟨tb_m (List.mem_of_getElem? (i := 917) (by decide +kernel)) rfl, ti_X9_toolsLeft, te_X9_toolsLeft, ini_X9, tc_X9_toolsLeft, tp_X9_toolsLeft, by decide⟩
set_option maxRecDepth 100000 in
theorem lk_X9_126 : LkV RX9 126 RX9 yX9_lateOnes cX9_lateOnes 3 (some .int) 0 := ⟨tb_m (List.mem_of_getElem? (i := 921) (by decide +kernel)) rfl, ti_X9_lateOnes, te_X9_lateOnes, ini_X9, tc_X9_lateOnes, tp_X9_lateOnes, by decide⟩
set_option maxRecDepth 100000 in
theorem lk_X9_129 : LkV RX9 129 RX9 yX9_groups cX9_groups 4 (some .int) 0 := ⟨tb_m (List.mem_of_getElem? (i := 925) (by decide +kernel)) rfl, ti_X9_groups, te_X9_groups, ini_X9, tc_X9_groups, tp_X9_groups, by decide⟩
set_option maxRecDepth 100000 in
theorem lk_X9_135 : LkV RX9 135 RX9 yX9_trams cX9_trams 1 (some .int) 0 := ⟨tb_m (List.mem_of_getElem? (i := 945) (by decide +kernel)) rfl, ti_X9_trams, te_X9_trams, ini_X9, tc_X9_trams, tp_X9_trams, by decide⟩
set_option maxRecDepth 100000 in
theorem lk_X9_138 : LkV RX9 138 RX9 yX9_darkens cX9_darkens 3 (some .int) 2 := ⟨tb_m (List.mem_of_getElem? (i := 941) (by decide +kernel)) rfl, ti_X9_darkens, te_X9_darkens, ini_X9, tc_X9_darkens, tp_X9_darkens, by decide⟩
set_option maxRecDepth 100000 in
theorem lk_X9_141 : LkV RX9 141 RX9 yX9_lights cX9_lights 4 (some .int) 2 := ⟨tb_m (List.mem_of_getElem? (i := 949) (by decide +kernel)) rfl, ti_X9_lights, te_X9_lights, ini_X9, tc_X9_lights, tp_X9_lights, by decide⟩
set_option maxRecDepth 100000 in
theorem lk_X9_144 : LkV RX9 144 RX9 yX9_isPlace cX9_isPlace 3 (some .boolean) 2 := ⟨tb_m (List.mem_of_getElem? (i := 933) (by decide +kernel)) rfl, ti_X9_isPlace, te_X9_isPlace, ini_X9, tc_X9_isPlace, tp_X9_isPlace, by decide⟩
set_option maxRecDepth 100000 in
theorem lk_X9_147 : LkV RX9 147 RX9 yX9_refuses cX9_refuses 3 (some .int) 2 := ⟨tb_m (List.mem_of_getElem? (i := 937) (by decide +kernel)) rfl, ti_X9_refuses, te_X9_refuses, ini_X9, tc_X9_refuses, tp_X9_refuses, by decide⟩
set_option maxRecDepth 100000 in
theorem lk_X9_150 : LkV RX9 150 RX9 yX9_forgets cX9_forgets 4 none 0 := ⟨tb_m (List.mem_of_getElem? (i := 961) (by decide +kernel)) rfl, ti_X9_forgets, te_X9_forgets, ini_X9, tc_X9_forgets, tp_X9_forgets, by decide⟩
set_option maxRecDepth 100000 in
theorem lk_X9_153 : LkV RX9 153 RX9 yX9_makes cX9_makes 4 none 2 := ⟨tb_m (List.mem_of_getElem? (i := 957) (by decide +kernel)) rfl, ti_X9_makes, te_X9_makes, ini_X9, tc_X9_makes, tp_X9_makes, by decide⟩
set_option maxRecDepth 100000 in
theorem lk_X9_159 : LkV RX9 159 RX9 yX9_plans cX9_plans 3 none 2 := ⟨tb_m (List.mem_of_getElem? (i := 977) (by decide +kernel)) rfl, ti_X9_plans, te_X9_plans, ini_X9, tc_X9_plans, tp_X9_plans, by decide⟩
set_option maxRecDepth 100000 in
theorem lk_X9_162 : LkV RX9 162 RX9 yX9_laysPlan cX9_laysPlan 3 none 1 := ⟨tb_m (List.mem_of_getElem? (i := 973) (by decide +kernel)) rfl, ti_X9_laysPlan, te_X9_laysPlan, ini_X9, tc_X9_laysPlan, tp_X9_laysPlan, by decide⟩
set_option maxRecDepth 100000 in
theorem lk_X9_166 : LkV RX9 166 RX9 yX9_laysAside cX9_laysAside 2 none 0 := ⟨tb_m (List.mem_of_getElem? (i := 985) (by decide +kernel)) rfl, ti_X9_laysAside, te_X9_laysAside, ini_X9, tc_X9_laysAside, tp_X9_laysAside, by decide⟩
set_option maxRecDepth 100000 in
theorem lk_X9_169 : LkV RX9 169 RX9 yX9_bringsBack cX9_bringsBack 2 none 0 := ⟨tb_m (List.mem_of_getElem? (i := 989) (by decide +kernel)) rfl, ti_X9_bringsBack, te_X9_bringsBack, ini_X9, tc_X9_bringsBack, tp_X9_bringsBack, by decide⟩
set_option maxRecDepth 100000 in
theorem lk_X9_176 : LkS RX9 176 yX9_kindOf cX9_kindOf 1 (some .int) 1 := ⟨tb_m (List.mem_of_getElem? (i := 1030) (by decide +kernel)) rfl, ts_X9_kindOf, ini_X9, tc_X9_kindOf, tp_X9_kindOf, by decide⟩
set_option maxRecDepth 100000 in
theorem lk_X9_191 : LkV RX9 191 RX9 yX9_isFormed cX9_isFormed 3 (some .boolean) 0 := ⟨tb_m (List.mem_of_getElem? (i := 1026) (by decide +kernel)) rfl, ti_X9_isFormed, te_X9_isFormed, ini_X9, tc_X9_isFormed, tp_X9_isFormed, by decide⟩
set_option maxRecDepth 100000 in
theorem lk_X9_195 : LkV RX9 195 RX9 yX9_reasonOfText cX9_reasonOfText 2 (some .int) 0 := ⟨tb_m (List.mem_of_getElem? (i := 1022) (by decide +kernel)) rfl, ti_X9_reasonOfText, te_X9_reasonOfText, ini_X9, tc_X9_reasonOfText, tp_X9_reasonOfText, by decide⟩
theorem tn_X8_9 : Cond.methodLinkNest RX8 9 yX7_init "TramWires" ∈ nwL := List.mem_of_getElem? (i := 0) rfl
theorem tn_X8_25 : Cond.methodLinkNest RX8 25 yX6_init "TramWires" ∈ nwL := List.mem_of_getElem? (i := 1) rfl
theorem tn_X8_32 : Cond.methodLinkNest RX8 32 yX3_init "TramWires" ∈ nwL := List.mem_of_getElem? (i := 2) rfl
theorem tn_X8_39 : Cond.methodLinkNest RX8 39 yX4_init "TramWires" ∈ nwL := List.mem_of_getElem? (i := 3) rfl
theorem tn_X0_17 : Cond.methodLinkNest RX0 17 yX7_init "TramWires" ∈ nwL := List.mem_of_getElem? (i := 4) rfl
theorem tn_X4_11 : Cond.methodLinkNest RX4 11 yX7_init "TramWires" ∈ nwL := List.mem_of_getElem? (i := 5) rfl
set_option maxRecDepth 100000 in
theorem lk_X6_38 : LkN RX6 38 "TramWires" yX8_isOutside cX8_isOutside 3 (some .boolean) 3 := ⟨List.mem_of_getElem? (i := 6) rfl, ts_X8_isOutside, ini_X8, tc_X8_isOutside, tp_X8_isOutside, by decide⟩
theorem tn_X7_11 : Cond.methodLinkNest RX7 11 yX2_init "TramWires" ∈ nwL := List.mem_of_getElem? (i := 7) rfl
theorem tn_X7_20 : Cond.methodLinkNest RX7 20 yX5_init "TramWires" ∈ nwL := List.mem_of_getElem? (i := 8) rfl
theorem tn_X7_27 : Cond.methodLinkNest RX7 27 yX1_init "TramWires" ∈ nwL := List.mem_of_getElem? (i := 9) rfl
set_option maxRecDepth 100000 in
theorem lk_X7_53 : LkN RX7 53 "TramWires" yX8_isOutside cX8_isOutside 3 (some .boolean) 3 := ⟨List.mem_of_getElem? (i := 10) rfl, ts_X8_isOutside, ini_X8, tc_X8_isOutside, tp_X8_isOutside, by decide⟩
set_option maxRecDepth 100000 in
theorem tk_X8_228 : Cond.constant RX8 228 (100000) ∈ TB := tb_m (List.mem_of_getElem? (i := 671) (by decide +kernel)) rfl
set_option maxRecDepth 100000 in
theorem tk_X9_172 : Cond.constant RX9 172 (100000) ∈ TB := tb_m (List.mem_of_getElem? (i := 997) (by decide +kernel)) rfl
set_option maxRecDepth 100000 in
theorem tf_X8_10 : Cond.fieldLink RX8 10 "TramWires" (TX8 0).2.1 (TX8 0).2.2.1 ∈ TB := tb_m (List.mem_of_getElem? (i := 355) (by decide +kernel)) rfl
theorem fg_X8_10 {l : Launch} {w : Wp} {L : Ly} {E : Cx} {M : Mm} {lv : List (Nat × Value)} {pc : Nat} {st : List Value} {cc : ByteArray} {maxL n a : Nat} (cx : Ok w L E RX8 cc maxL n) (hd : decode cc pc = .ok (.getfield 10, 3)) (h : LTramWires w L a) (kk : G l w L E M lv (pc + 3) (.ref (a + 1) :: st)) : G l w L E M lv pc (.ref a :: st) := g_getR cx (ci := 8) rfl in_X8 0 (by decide) tf_X8_10 rfl (LTramWires_o h) (Nat.le_of_ble_eq_true rfl) rfl hd kk
set_option maxRecDepth 100000 in
theorem tf_X8_19 : Cond.fieldLink RX8 19 "TramWires" (TX8 1).2.1 (TX8 1).2.2.1 ∈ TB := tb_m (List.mem_of_getElem? (i := 356) (by decide +kernel)) rfl
theorem fg_X8_19 {l : Launch} {w : Wp} {L : Ly} {E : Cx} {M : Mm} {lv : List (Nat × Value)} {pc : Nat} {st : List Value} {cc : ByteArray} {maxL n a : Nat} (cx : Ok w L E RX8 cc maxL n) (hd : decode cc pc = .ok (.getfield 19, 3)) (h : LTramWires w L a) (kk : G l w L E M lv (pc + 3) (.ref (a + 33) :: st)) : G l w L E M lv pc (.ref a :: st) := g_getR cx (ci := 8) rfl in_X8 1 (by decide) tf_X8_19 rfl (LTramWires_o h) (Nat.le_of_ble_eq_true rfl) rfl hd kk
set_option maxRecDepth 100000 in
theorem tf_X8_26 : Cond.fieldLink RX8 26 "TramWires" (TX8 2).2.1 (TX8 2).2.2.1 ∈ TB := tb_m (List.mem_of_getElem? (i := 357) (by decide +kernel)) rfl
theorem fg_X8_26 {l : Launch} {w : Wp} {L : Ly} {E : Cx} {M : Mm} {lv : List (Nat × Value)} {pc : Nat} {st : List Value} {cc : ByteArray} {maxL n a : Nat} (cx : Ok w L E RX8 cc maxL n) (hd : decode cc pc = .ok (.getfield 26, 3)) (h : LTramWires w L a) (kk : G l w L E M lv (pc + 3) (.ref (a + 195) :: st)) : G l w L E M lv pc (.ref a :: st) := g_getR cx (ci := 8) rfl in_X8 2 (by decide) tf_X8_26 rfl (LTramWires_o h) (Nat.le_of_ble_eq_true rfl) rfl hd kk
set_option maxRecDepth 100000 in
theorem tf_X8_33 : Cond.fieldLink RX8 33 "TramWires" (TX8 3).2.1 (TX8 3).2.2.1 ∈ TB := tb_m (List.mem_of_getElem? (i := 358) (by decide +kernel)) rfl
theorem fg_X8_33 {l : Launch} {w : Wp} {L : Ly} {E : Cx} {M : Mm} {lv : List (Nat × Value)} {pc : Nat} {st : List Value} {cc : ByteArray} {maxL n a : Nat} (cx : Ok w L E RX8 cc maxL n) (hd : decode cc pc = .ok (.getfield 33, 3)) (h : LTramWires w L a) (kk : G l w L E M lv (pc + 3) (.ref (a + 197) :: st)) : G l w L E M lv pc (.ref a :: st) := g_getR cx (ci := 8) rfl in_X8 3 (by decide) tf_X8_33 rfl (LTramWires_o h) (Nat.le_of_ble_eq_true rfl) rfl hd kk
set_option maxRecDepth 100000 in
theorem tf_X8_40 : Cond.fieldLink RX8 40 "TramWires" (TX8 4).2.1 (TX8 4).2.2.1 ∈ TB := tb_m (List.mem_of_getElem? (i := 359) (by decide +kernel)) rfl
theorem fg_X8_40 {l : Launch} {w : Wp} {L : Ly} {E : Cx} {M : Mm} {lv : List (Nat × Value)} {pc : Nat} {st : List Value} {cc : ByteArray} {maxL n a : Nat} (cx : Ok w L E RX8 cc maxL n) (hd : decode cc pc = .ok (.getfield 40, 3)) (h : LTramWires w L a) (kk : G l w L E M lv (pc + 3) (.ref (a + 200) :: st)) : G l w L E M lv pc (.ref a :: st) := g_getR cx (ci := 8) rfl in_X8 4 (by decide) tf_X8_40 rfl (LTramWires_o h) (Nat.le_of_ble_eq_true rfl) rfl hd kk
set_option maxRecDepth 100000 in
theorem tf_X8_48 : Cond.fieldLink RX8 48 "TramWires$Wires" (TX7 0).2.1 (TX7 0).2.2.1 ∈ TB := tb_m (List.mem_of_getElem? (i := 244) (by decide +kernel)) rfl
theorem fg_X8_48 {l : Launch} {w : Wp} {L : Ly} {E : Cx} {M : Mm} {lv : List (Nat × Value)} {pc : Nat} {st : List Value} {cc : ByteArray} {maxL n a : Nat} (cx : Ok w L E RX8 cc maxL n) (hd : decode cc pc = .ok (.getfield 48, 3)) (h : LWires w L a) (kk : G l w L E M lv (pc + 3) (.ref (a + 1) :: st)) : G l w L E M lv pc (.ref a :: st) := g_getR cx (ci := 7) rfl in_X7 0 (by decide) tf_X8_48 rfl (LWires_o h) (Nat.le_of_ble_eq_true rfl) rfl hd kk
set_option maxRecDepth 100000 in
theorem tf_X8_52 : Cond.fieldLink RX8 52 "TramWires$Net" (TX2 0).2.1 (TX2 0).2.2.1 ∈ TB := tb_m (List.mem_of_getElem? (i := 101) (by decide +kernel)) rfl
theorem fg_X8_52 {l : Launch} {w : Wp} {L : Ly} {E : Cx} {M : Mm} {lv : List (Nat × Value)} {pc : Nat} {st : List Value} {cc : ByteArray} {maxL n a : Nat} (cx : Ok w L E RX8 cc maxL n) (hd : decode cc pc = .ok (.getfield 52, 3)) (h : LNet w L a) (kk : G l w L E M lv (pc + 3) (.int (M a 0) :: st)) : G l w L E M lv pc (.ref a :: st) := g_getI cx (ci := 2) rfl in_X2 0 (by decide) tf_X8_52 rfl (LNet_o h) (Nat.le_of_ble_eq_true rfl) rfl hd kk
theorem fp_X8_52 {l : Launch} {w : Wp} {L : Ly} {E : Cx} {M : Mm} {lv : List (Nat × Value)} {pc : Nat} {st : List Value} {cc : ByteArray} {maxL n a : Nat} (cx : Ok w L E RX8 cc maxL n) {x : Int32} {A : Mm → OR} {R0 : Int32 × Mm} (hd : decode cc pc = .ok (.putfield 52, 3)) (h : LNet w L a) (hf : bnd (mst M a 0 x) A = some R0) (kk : ∀ M1 : Mm, A M1 = some R0 → G l w L E M1 lv (pc + 3) st) : G l w L E M lv pc (.int x :: .ref a :: st) := g_putI cx (ci := 2) rfl in_X2 tyX2 tyX2_ok nmX2 0 (by decide) tf_X8_52 rfl rfl (by decide +kernel) (LNet_o h) (Nat.le_of_ble_eq_true rfl) rfl hd hf kk
set_option maxRecDepth 100000 in
theorem tf_X8_74 : Cond.fieldLink RX8 74 "TramWires$Net" (TX2 1).2.1 (TX2 1).2.2.1 ∈ TB := tb_m (List.mem_of_getElem? (i := 105) (by decide +kernel)) rfl
theorem fg_X8_74 {l : Launch} {w : Wp} {L : Ly} {E : Cx} {M : Mm} {lv : List (Nat × Value)} {pc : Nat} {st : List Value} {cc : ByteArray} {maxL n a : Nat} (cx : Ok w L E RX8 cc maxL n) (hd : decode cc pc = .ok (.getfield 74, 3)) (h : LNet w L a) (kk : G l w L E M lv (pc + 3) (.int (M a 1) :: st)) : G l w L E M lv pc (.ref a :: st) := g_getI cx (ci := 2) rfl in_X2 1 (by decide) tf_X8_74 rfl (LNet_o h) (Nat.le_of_ble_eq_true rfl) rfl hd kk
theorem fp_X8_74 {l : Launch} {w : Wp} {L : Ly} {E : Cx} {M : Mm} {lv : List (Nat × Value)} {pc : Nat} {st : List Value} {cc : ByteArray} {maxL n a : Nat} (cx : Ok w L E RX8 cc maxL n) {x : Int32} {A : Mm → OR} {R0 : Int32 × Mm} (hd : decode cc pc = .ok (.putfield 74, 3)) (h : LNet w L a) (hf : bnd (mst M a 1 x) A = some R0) (kk : ∀ M1 : Mm, A M1 = some R0 → G l w L E M1 lv (pc + 3) st) : G l w L E M lv pc (.int x :: .ref a :: st) := g_putI cx (ci := 2) rfl in_X2 tyX2 tyX2_ok nmX2 1 (by decide) tf_X8_74 rfl rfl (by decide +kernel) (LNet_o h) (Nat.le_of_ble_eq_true rfl) rfl hd hf kk
set_option maxRecDepth 100000 in
theorem tf_X8_80 : Cond.fieldLink RX8 80 "TramWires$Wires" (TX7 1).2.1 (TX7 1).2.2.1 ∈ TB := tb_m (List.mem_of_getElem? (i := 247) (by decide +kernel)) rfl
theorem fg_X8_80 {l : Launch} {w : Wp} {L : Ly} {E : Cx} {M : Mm} {lv : List (Nat × Value)} {pc : Nat} {st : List Value} {cc : ByteArray} {maxL n a : Nat} (cx : Ok w L E RX8 cc maxL n) (hd : decode cc pc = .ok (.getfield 80, 3)) (h : LWires w L a) (kk : G l w L E M lv (pc + 3) (.ref (a + 8) :: st)) : G l w L E M lv pc (.ref a :: st) := g_getR cx (ci := 7) rfl in_X7 1 (by decide) tf_X8_80 rfl (LWires_o h) (Nat.le_of_ble_eq_true rfl) rfl hd kk
set_option maxRecDepth 100000 in
theorem tf_X8_90 : Cond.fieldLink RX8 90 "TramWires$Service" (TX5 1).2.1 (TX5 1).2.2.1 ∈ TB := tb_m (List.mem_of_getElem? (i := 154) (by decide +kernel)) rfl
theorem fg_X8_90 {l : Launch} {w : Wp} {L : Ly} {E : Cx} {M : Mm} {lv : List (Nat × Value)} {pc : Nat} {st : List Value} {cc : ByteArray} {maxL n a : Nat} (cx : Ok w L E RX8 cc maxL n) (hd : decode cc pc = .ok (.getfield 90, 3)) (h : LService w L a) (kk : G l w L E M lv (pc + 3) (.int (M a 1) :: st)) : G l w L E M lv pc (.ref a :: st) := g_getI cx (ci := 5) rfl in_X5 1 (by decide) tf_X8_90 rfl (LService_o h) (Nat.le_of_ble_eq_true rfl) rfl hd kk
theorem fp_X8_90 {l : Launch} {w : Wp} {L : Ly} {E : Cx} {M : Mm} {lv : List (Nat × Value)} {pc : Nat} {st : List Value} {cc : ByteArray} {maxL n a : Nat} (cx : Ok w L E RX8 cc maxL n) {x : Int32} {A : Mm → OR} {R0 : Int32 × Mm} (hd : decode cc pc = .ok (.putfield 90, 3)) (h : LService w L a) (hf : bnd (mst M a 1 x) A = some R0) (kk : ∀ M1 : Mm, A M1 = some R0 → G l w L E M1 lv (pc + 3) st) : G l w L E M lv pc (.int x :: .ref a :: st) := g_putI cx (ci := 5) rfl in_X5 tyX5 tyX5_ok nmX5 1 (by decide) tf_X8_90 rfl rfl (by decide +kernel) (LService_o h) (Nat.le_of_ble_eq_true rfl) rfl hd hf kk
set_option maxRecDepth 100000 in
theorem tf_X8_96 : Cond.fieldLink RX8 96 "TramWires$Service" (TX5 3).2.1 (TX5 3).2.2.1 ∈ TB := tb_m (List.mem_of_getElem? (i := 158) (by decide +kernel)) rfl
theorem fg_X8_96 {l : Launch} {w : Wp} {L : Ly} {E : Cx} {M : Mm} {lv : List (Nat × Value)} {pc : Nat} {st : List Value} {cc : ByteArray} {maxL n a : Nat} (cx : Ok w L E RX8 cc maxL n) (hd : decode cc pc = .ok (.getfield 96, 3)) (h : LService w L a) (kk : G l w L E M lv (pc + 3) (.ref (a + 1) :: st)) : G l w L E M lv pc (.ref a :: st) := g_getR cx (ci := 5) rfl in_X5 3 (by decide) tf_X8_96 rfl (LService_o h) (Nat.le_of_ble_eq_true rfl) rfl hd kk
set_option maxRecDepth 100000 in
theorem tf_X8_100 : Cond.fieldLink RX8 100 "TramWires$Net" (TX2 2).2.1 (TX2 2).2.2.1 ∈ TB := tb_m (List.mem_of_getElem? (i := 109) (by decide +kernel)) rfl
theorem fg_X8_100 {l : Launch} {w : Wp} {L : Ly} {E : Cx} {M : Mm} {lv : List (Nat × Value)} {pc : Nat} {st : List Value} {cc : ByteArray} {maxL n a : Nat} (cx : Ok w L E RX8 cc maxL n) (hd : decode cc pc = .ok (.getfield 100, 3)) (h : LNet w L a) (kk : G l w L E M lv (pc + 3) (.ref (a + 1) :: st)) : G l w L E M lv pc (.ref a :: st) := g_getR cx (ci := 2) rfl in_X2 2 (by decide) tf_X8_100 rfl (LNet_o h) (Nat.le_of_ble_eq_true rfl) rfl hd kk
set_option maxRecDepth 100000 in
theorem tf_X8_103 : Cond.fieldLink RX8 103 "TramWires$Net" (TX2 7).2.1 (TX2 7).2.2.1 ∈ TB := tb_m (List.mem_of_getElem? (i := 123) (by decide +kernel)) rfl
theorem fg_X8_103 {l : Launch} {w : Wp} {L : Ly} {E : Cx} {M : Mm} {lv : List (Nat × Value)} {pc : Nat} {st : List Value} {cc : ByteArray} {maxL n a : Nat} (cx : Ok w L E RX8 cc maxL n) (hd : decode cc pc = .ok (.getfield 103, 3)) (h : LNet w L a) (kk : G l w L E M lv (pc + 3) (.ref (a + 6) :: st)) : G l w L E M lv pc (.ref a :: st) := g_getR cx (ci := 2) rfl in_X2 7 (by decide) tf_X8_103 rfl (LNet_o h) (Nat.le_of_ble_eq_true rfl) rfl hd kk
set_option maxRecDepth 100000 in
theorem tf_X8_114 : Cond.fieldLink RX8 114 "TramWires$Service" (TX5 4).2.1 (TX5 4).2.2.1 ∈ TB := tb_m (List.mem_of_getElem? (i := 162) (by decide +kernel)) rfl
theorem fg_X8_114 {l : Launch} {w : Wp} {L : Ly} {E : Cx} {M : Mm} {lv : List (Nat × Value)} {pc : Nat} {st : List Value} {cc : ByteArray} {maxL n a : Nat} (cx : Ok w L E RX8 cc maxL n) (hd : decode cc pc = .ok (.getfield 114, 3)) (h : LService w L a) (kk : G l w L E M lv (pc + 3) (.ref (a + 2) :: st)) : G l w L E M lv pc (.ref a :: st) := g_getR cx (ci := 5) rfl in_X5 4 (by decide) tf_X8_114 rfl (LService_o h) (Nat.le_of_ble_eq_true rfl) rfl hd kk
set_option maxRecDepth 100000 in
theorem tf_X8_117 : Cond.fieldLink RX8 117 "TramWires$Service" (TX5 5).2.1 (TX5 5).2.2.1 ∈ TB := tb_m (List.mem_of_getElem? (i := 166) (by decide +kernel)) rfl
theorem fg_X8_117 {l : Launch} {w : Wp} {L : Ly} {E : Cx} {M : Mm} {lv : List (Nat × Value)} {pc : Nat} {st : List Value} {cc : ByteArray} {maxL n a : Nat} (cx : Ok w L E RX8 cc maxL n) (hd : decode cc pc = .ok (.getfield 117, 3)) (h : LService w L a) (kk : G l w L E M lv (pc + 3) (.ref (a + 3) :: st)) : G l w L E M lv pc (.ref a :: st) := g_getR cx (ci := 5) rfl in_X5 5 (by decide) tf_X8_117 rfl (LService_o h) (Nat.le_of_ble_eq_true rfl) rfl hd kk
set_option maxRecDepth 100000 in
theorem tf_X8_120 : Cond.fieldLink RX8 120 "TramWires$Service" (TX5 6).2.1 (TX5 6).2.2.1 ∈ TB := tb_m (List.mem_of_getElem? (i := 169) (by decide +kernel)) rfl
theorem fg_X8_120 {l : Launch} {w : Wp} {L : Ly} {E : Cx} {M : Mm} {lv : List (Nat × Value)} {pc : Nat} {st : List Value} {cc : ByteArray} {maxL n a : Nat} (cx : Ok w L E RX8 cc maxL n) (hd : decode cc pc = .ok (.getfield 120, 3)) (h : LService w L a) (kk : G l w L E M lv (pc + 3) (.ref (a + 4) :: st)) : G l w L E M lv pc (.ref a :: st) := g_getR cx (ci := 5) rfl in_X5 6 (by decide) tf_X8_120 rfl (LService_o h) (Nat.le_of_ble_eq_true rfl) rfl hd kk
set_option maxRecDepth 100000 in
theorem tf_X8_123 : Cond.fieldLink RX8 123 "TramWires$Service" (TX5 9).2.1 (TX5 9).2.2.1 ∈ TB := tb_m (List.mem_of_getElem? (i := 176) (by decide +kernel)) rfl
theorem fg_X8_123 {l : Launch} {w : Wp} {L : Ly} {E : Cx} {M : Mm} {lv : List (Nat × Value)} {pc : Nat} {st : List Value} {cc : ByteArray} {maxL n a : Nat} (cx : Ok w L E RX8 cc maxL n) (hd : decode cc pc = .ok (.getfield 123, 3)) (h : LService w L a) (kk : G l w L E M lv (pc + 3) (.ref (a + 7) :: st)) : G l w L E M lv pc (.ref a :: st) := g_getR cx (ci := 5) rfl in_X5 9 (by decide) tf_X8_123 rfl (LService_o h) (Nat.le_of_ble_eq_true rfl) rfl hd kk
set_option maxRecDepth 100000 in
theorem tf_X8_133 : Cond.fieldLink RX8 133 "TramWires$Service" (TX5 8).2.1 (TX5 8).2.2.1 ∈ TB := tb_m (List.mem_of_getElem? (i := 174) (by decide +kernel)) rfl
theorem fg_X8_133 {l : Launch} {w : Wp} {L : Ly} {E : Cx} {M : Mm} {lv : List (Nat × Value)} {pc : Nat} {st : List Value} {cc : ByteArray} {maxL n a : Nat} (cx : Ok w L E RX8 cc maxL n) (hd : decode cc pc = .ok (.getfield 133, 3)) (h : LService w L a) (kk : G l w L E M lv (pc + 3) (.ref (a + 6) :: st)) : G l w L E M lv pc (.ref a :: st) := g_getR cx (ci := 5) rfl in_X5 8 (by decide) tf_X8_133 rfl (LService_o h) (Nat.le_of_ble_eq_true rfl) rfl hd kk
set_option maxRecDepth 100000 in
theorem tf_X8_139 : Cond.fieldLink RX8 139 "TramWires$Net" (TX2 3).2.1 (TX2 3).2.2.1 ∈ TB := tb_m (List.mem_of_getElem? (i := 112) (by decide +kernel)) rfl
theorem fg_X8_139 {l : Launch} {w : Wp} {L : Ly} {E : Cx} {M : Mm} {lv : List (Nat × Value)} {pc : Nat} {st : List Value} {cc : ByteArray} {maxL n a : Nat} (cx : Ok w L E RX8 cc maxL n) (hd : decode cc pc = .ok (.getfield 139, 3)) (h : LNet w L a) (kk : G l w L E M lv (pc + 3) (.ref (a + 2) :: st)) : G l w L E M lv pc (.ref a :: st) := g_getR cx (ci := 2) rfl in_X2 3 (by decide) tf_X8_139 rfl (LNet_o h) (Nat.le_of_ble_eq_true rfl) rfl hd kk
set_option maxRecDepth 100000 in
theorem tf_X8_142 : Cond.fieldLink RX8 142 "TramWires$Net" (TX2 4).2.1 (TX2 4).2.2.1 ∈ TB := tb_m (List.mem_of_getElem? (i := 115) (by decide +kernel)) rfl
theorem fg_X8_142 {l : Launch} {w : Wp} {L : Ly} {E : Cx} {M : Mm} {lv : List (Nat × Value)} {pc : Nat} {st : List Value} {cc : ByteArray} {maxL n a : Nat} (cx : Ok w L E RX8 cc maxL n) (hd : decode cc pc = .ok (.getfield 142, 3)) (h : LNet w L a) (kk : G l w L E M lv (pc + 3) (.ref (a + 3) :: st)) : G l w L E M lv pc (.ref a :: st) := g_getR cx (ci := 2) rfl in_X2 4 (by decide) tf_X8_142 rfl (LNet_o h) (Nat.le_of_ble_eq_true rfl) rfl hd kk
set_option maxRecDepth 100000 in
theorem tf_X8_145 : Cond.fieldLink RX8 145 "TramWires$Net" (TX2 5).2.1 (TX2 5).2.2.1 ∈ TB := tb_m (List.mem_of_getElem? (i := 118) (by decide +kernel)) rfl
theorem fg_X8_145 {l : Launch} {w : Wp} {L : Ly} {E : Cx} {M : Mm} {lv : List (Nat × Value)} {pc : Nat} {st : List Value} {cc : ByteArray} {maxL n a : Nat} (cx : Ok w L E RX8 cc maxL n) (hd : decode cc pc = .ok (.getfield 145, 3)) (h : LNet w L a) (kk : G l w L E M lv (pc + 3) (.ref (a + 4) :: st)) : G l w L E M lv pc (.ref a :: st) := g_getR cx (ci := 2) rfl in_X2 5 (by decide) tf_X8_145 rfl (LNet_o h) (Nat.le_of_ble_eq_true rfl) rfl hd kk
set_option maxRecDepth 100000 in
theorem tf_X8_164 : Cond.fieldLink RX8 164 "TramWires$Service" (TX5 0).2.1 (TX5 0).2.2.1 ∈ TB := tb_m (List.mem_of_getElem? (i := 151) (by decide +kernel)) rfl
theorem fg_X8_164 {l : Launch} {w : Wp} {L : Ly} {E : Cx} {M : Mm} {lv : List (Nat × Value)} {pc : Nat} {st : List Value} {cc : ByteArray} {maxL n a : Nat} (cx : Ok w L E RX8 cc maxL n) (hd : decode cc pc = .ok (.getfield 164, 3)) (h : LService w L a) (kk : G l w L E M lv (pc + 3) (.int (M a 0) :: st)) : G l w L E M lv pc (.ref a :: st) := g_getI cx (ci := 5) rfl in_X5 0 (by decide) tf_X8_164 rfl (LService_o h) (Nat.le_of_ble_eq_true rfl) rfl hd kk
theorem fp_X8_164 {l : Launch} {w : Wp} {L : Ly} {E : Cx} {M : Mm} {lv : List (Nat × Value)} {pc : Nat} {st : List Value} {cc : ByteArray} {maxL n a : Nat} (cx : Ok w L E RX8 cc maxL n) {x : Int32} {A : Mm → OR} {R0 : Int32 × Mm} (hd : decode cc pc = .ok (.putfield 164, 3)) (h : LService w L a) (hf : bnd (mst M a 0 x) A = some R0) (kk : ∀ M1 : Mm, A M1 = some R0 → G l w L E M1 lv (pc + 3) st) : G l w L E M lv pc (.int x :: .ref a :: st) := g_putI cx (ci := 5) rfl in_X5 tyX5 tyX5_ok nmX5 0 (by decide) tf_X8_164 rfl rfl (by decide +kernel) (LService_o h) (Nat.le_of_ble_eq_true rfl) rfl hd hf kk
set_option maxRecDepth 100000 in
theorem tf_X8_167 : Cond.fieldLink RX8 167 "TramWires$Wires" (TX7 2).2.1 (TX7 2).2.2.1 ∈ TB := tb_m (List.mem_of_getElem? (i := 249) (by decide +kernel)) rfl
theorem fg_X8_167 {l : Launch} {w : Wp} {L : Ly} {E : Cx} {M : Mm} {lv : List (Nat × Value)} {pc : Nat} {st : List Value} {cc : ByteArray} {maxL n a : Nat} (cx : Ok w L E RX8 cc maxL n) (hd : decode cc pc = .ok (.getfield 167, 3)) (h : LWires w L a) (kk : G l w L E M lv (pc + 3) (.ref (a + 16) :: st)) : G l w L E M lv pc (.ref a :: st) := g_getR cx (ci := 7) rfl in_X7 2 (by decide) tf_X8_167 rfl (LWires_o h) (Nat.le_of_ble_eq_true rfl) rfl hd kk
set_option maxRecDepth 100000 in
theorem tf_X8_171 : Cond.fieldLink RX8 171 "TramWires$Log" (TX1 0).2.1 (TX1 0).2.2.1 ∈ TB := tb_m (List.mem_of_getElem? (i := 206) (by decide +kernel)) rfl
theorem fg_X8_171 {l : Launch} {w : Wp} {L : Ly} {E : Cx} {M : Mm} {lv : List (Nat × Value)} {pc : Nat} {st : List Value} {cc : ByteArray} {maxL n a : Nat} (cx : Ok w L E RX8 cc maxL n) (hd : decode cc pc = .ok (.getfield 171, 3)) (h : LLog w L a) (kk : G l w L E M lv (pc + 3) (.int (M a 0) :: st)) : G l w L E M lv pc (.ref a :: st) := g_getI cx (ci := 1) rfl in_X1 0 (by decide) tf_X8_171 rfl (LLog_o h) (Nat.le_of_ble_eq_true rfl) rfl hd kk
theorem fp_X8_171 {l : Launch} {w : Wp} {L : Ly} {E : Cx} {M : Mm} {lv : List (Nat × Value)} {pc : Nat} {st : List Value} {cc : ByteArray} {maxL n a : Nat} (cx : Ok w L E RX8 cc maxL n) {x : Int32} {A : Mm → OR} {R0 : Int32 × Mm} (hd : decode cc pc = .ok (.putfield 171, 3)) (h : LLog w L a) (hf : bnd (mst M a 0 x) A = some R0) (kk : ∀ M1 : Mm, A M1 = some R0 → G l w L E M1 lv (pc + 3) st) : G l w L E M lv pc (.int x :: .ref a :: st) := g_putI cx (ci := 1) rfl in_X1 tyX1 tyX1_ok nmX1 0 (by decide) tf_X8_171 rfl rfl (by decide +kernel) (LLog_o h) (Nat.le_of_ble_eq_true rfl) rfl hd hf kk
set_option maxRecDepth 100000 in
theorem tf_X8_176 : Cond.fieldLink RX8 176 "TramWires$Log" (TX1 1).2.1 (TX1 1).2.2.1 ∈ TB := tb_m (List.mem_of_getElem? (i := 208) (by decide +kernel)) rfl
theorem fg_X8_176 {l : Launch} {w : Wp} {L : Ly} {E : Cx} {M : Mm} {lv : List (Nat × Value)} {pc : Nat} {st : List Value} {cc : ByteArray} {maxL n a : Nat} (cx : Ok w L E RX8 cc maxL n) (hd : decode cc pc = .ok (.getfield 176, 3)) (h : LLog w L a) (kk : G l w L E M lv (pc + 3) (.int (M a 1) :: st)) : G l w L E M lv pc (.ref a :: st) := g_getI cx (ci := 1) rfl in_X1 1 (by decide) tf_X8_176 rfl (LLog_o h) (Nat.le_of_ble_eq_true rfl) rfl hd kk
theorem fp_X8_176 {l : Launch} {w : Wp} {L : Ly} {E : Cx} {M : Mm} {lv : List (Nat × Value)} {pc : Nat} {st : List Value} {cc : ByteArray} {maxL n a : Nat} (cx : Ok w L E RX8 cc maxL n) {x : Int32} {A : Mm → OR} {R0 : Int32 × Mm} (hd : decode cc pc = .ok (.putfield 176, 3)) (h : LLog w L a) (hf : bnd (mst M a 1 x) A = some R0) (kk : ∀ M1 : Mm, A M1 = some R0 → G l w L E M1 lv (pc + 3) st) : G l w L E M lv pc (.int x :: .ref a :: st) := g_putI cx (ci := 1) rfl in_X1 tyX1 tyX1_ok nmX1 1 (by decide) tf_X8_176 rfl rfl (by decide +kernel) (LLog_o h) (Nat.le_of_ble_eq_true rfl) rfl hd hf kk
set_option maxRecDepth 100000 in
theorem tf_X8_179 : Cond.fieldLink RX8 179 "TramWires$Service" (TX5 2).2.1 (TX5 2).2.2.1 ∈ TB := tb_m (List.mem_of_getElem? (i := 156) (by decide +kernel)) rfl
theorem fg_X8_179 {l : Launch} {w : Wp} {L : Ly} {E : Cx} {M : Mm} {lv : List (Nat × Value)} {pc : Nat} {st : List Value} {cc : ByteArray} {maxL n a : Nat} (cx : Ok w L E RX8 cc maxL n) (hd : decode cc pc = .ok (.getfield 179, 3)) (h : LService w L a) (kk : G l w L E M lv (pc + 3) (.int (M a 2) :: st)) : G l w L E M lv pc (.ref a :: st) := g_getI cx (ci := 5) rfl in_X5 2 (by decide) tf_X8_179 rfl (LService_o h) (Nat.le_of_ble_eq_true rfl) rfl hd kk
theorem fp_X8_179 {l : Launch} {w : Wp} {L : Ly} {E : Cx} {M : Mm} {lv : List (Nat × Value)} {pc : Nat} {st : List Value} {cc : ByteArray} {maxL n a : Nat} (cx : Ok w L E RX8 cc maxL n) {x : Int32} {A : Mm → OR} {R0 : Int32 × Mm} (hd : decode cc pc = .ok (.putfield 179, 3)) (h : LService w L a) (hf : bnd (mst M a 2 x) A = some R0) (kk : ∀ M1 : Mm, A M1 = some R0 → G l w L E M1 lv (pc + 3) st) : G l w L E M lv pc (.int x :: .ref a :: st) := g_putI cx (ci := 5) rfl in_X5 tyX5 tyX5_ok nmX5 2 (by decide) tf_X8_179 rfl rfl (by decide +kernel) (LService_o h) (Nat.le_of_ble_eq_true rfl) rfl hd hf kk
set_option maxRecDepth 100000 in
theorem tf_X8_188 : Cond.fieldLink RX8 188 "TramWires$History" (TX0 0).2.1 (TX0 0).2.2.1 ∈ TB := tb_m (List.mem_of_getElem? (i := 273) (by decide +kernel)) rfl
theorem fg_X8_188 {l : Launch} {w : Wp} {L : Ly} {E : Cx} {M : Mm} {lv : List (Nat × Value)} {pc : Nat} {st : List Value} {cc : ByteArray} {maxL n a : Nat} (cx : Ok w L E RX8 cc maxL n) (hd : decode cc pc = .ok (.getfield 188, 3)) (h : LHistory w L a) (kk : G l w L E M lv (pc + 3) (.int (M a 0) :: st)) : G l w L E M lv pc (.ref a :: st) := g_getI cx (ci := 0) rfl in_X0 0 (by decide) tf_X8_188 rfl (LHistory_o h) (Nat.le_of_ble_eq_true rfl) rfl hd kk
theorem fp_X8_188 {l : Launch} {w : Wp} {L : Ly} {E : Cx} {M : Mm} {lv : List (Nat × Value)} {pc : Nat} {st : List Value} {cc : ByteArray} {maxL n a : Nat} (cx : Ok w L E RX8 cc maxL n) {x : Int32} {A : Mm → OR} {R0 : Int32 × Mm} (hd : decode cc pc = .ok (.putfield 188, 3)) (h : LHistory w L a) (hf : bnd (mst M a 0 x) A = some R0) (kk : ∀ M1 : Mm, A M1 = some R0 → G l w L E M1 lv (pc + 3) st) : G l w L E M lv pc (.int x :: .ref a :: st) := g_putI cx (ci := 0) rfl in_X0 tyX0 tyX0_ok nmX0 0 (by decide) tf_X8_188 rfl rfl (by decide +kernel) (LHistory_o h) (Nat.le_of_ble_eq_true rfl) rfl hd hf kk
set_option maxRecDepth 100000 in
theorem tf_X8_191 : Cond.fieldLink RX8 191 "TramWires$Text" (TX6 0).2.1 (TX6 0).2.2.1 ∈ TB := tb_m (List.mem_of_getElem? (i := 288) (by decide +kernel)) rfl
theorem fg_X8_191 {l : Launch} {w : Wp} {L : Ly} {E : Cx} {M : Mm} {lv : List (Nat × Value)} {pc : Nat} {st : List Value} {cc : ByteArray} {maxL n a : Nat} (cx : Ok w L E RX8 cc maxL n) (hd : decode cc pc = .ok (.getfield 191, 3)) (h : LText w L a) (kk : G l w L E M lv (pc + 3) (.int (M a 0) :: st)) : G l w L E M lv pc (.ref a :: st) := g_getI cx (ci := 6) rfl in_X6 0 (by decide) tf_X8_191 rfl (LText_o h) (Nat.le_of_ble_eq_true rfl) rfl hd kk
theorem fp_X8_191 {l : Launch} {w : Wp} {L : Ly} {E : Cx} {M : Mm} {lv : List (Nat × Value)} {pc : Nat} {st : List Value} {cc : ByteArray} {maxL n a : Nat} (cx : Ok w L E RX8 cc maxL n) {x : Int32} {A : Mm → OR} {R0 : Int32 × Mm} (hd : decode cc pc = .ok (.putfield 191, 3)) (h : LText w L a) (hf : bnd (mst M a 0 x) A = some R0) (kk : ∀ M1 : Mm, A M1 = some R0 → G l w L E M1 lv (pc + 3) st) : G l w L E M lv pc (.int x :: .ref a :: st) := g_putI cx (ci := 6) rfl in_X6 tyX6 tyX6_ok nmX6 0 (by decide) tf_X8_191 rfl rfl (by decide +kernel) (LText_o h) (Nat.le_of_ble_eq_true rfl) rfl hd hf kk
set_option maxRecDepth 100000 in
theorem tf_X8_205 : Cond.fieldLink RX8 205 "TramWires$Log" (TX1 2).2.1 (TX1 2).2.2.1 ∈ TB := tb_m (List.mem_of_getElem? (i := 210) (by decide +kernel)) rfl
theorem fg_X8_205 {l : Launch} {w : Wp} {L : Ly} {E : Cx} {M : Mm} {lv : List (Nat × Value)} {pc : Nat} {st : List Value} {cc : ByteArray} {maxL n a : Nat} (cx : Ok w L E RX8 cc maxL n) (hd : decode cc pc = .ok (.getfield 205, 3)) (h : LLog w L a) (kk : G l w L E M lv (pc + 3) (.ref (a + 1) :: st)) : G l w L E M lv pc (.ref a :: st) := g_getR cx (ci := 1) rfl in_X1 2 (by decide) tf_X8_205 rfl (LLog_o h) (Nat.le_of_ble_eq_true rfl) rfl hd kk
set_option maxRecDepth 100000 in
theorem tf_X8_208 : Cond.fieldLink RX8 208 "TramWires$Log" (TX1 3).2.1 (TX1 3).2.2.1 ∈ TB := tb_m (List.mem_of_getElem? (i := 212) (by decide +kernel)) rfl
theorem fg_X8_208 {l : Launch} {w : Wp} {L : Ly} {E : Cx} {M : Mm} {lv : List (Nat × Value)} {pc : Nat} {st : List Value} {cc : ByteArray} {maxL n a : Nat} (cx : Ok w L E RX8 cc maxL n) (hd : decode cc pc = .ok (.getfield 208, 3)) (h : LLog w L a) (kk : G l w L E M lv (pc + 3) (.ref (a + 2) :: st)) : G l w L E M lv pc (.ref a :: st) := g_getR cx (ci := 1) rfl in_X1 3 (by decide) tf_X8_208 rfl (LLog_o h) (Nat.le_of_ble_eq_true rfl) rfl hd kk
set_option maxRecDepth 100000 in
theorem tf_X8_211 : Cond.fieldLink RX8 211 "TramWires$Log" (TX1 4).2.1 (TX1 4).2.2.1 ∈ TB := tb_m (List.mem_of_getElem? (i := 214) (by decide +kernel)) rfl
theorem fg_X8_211 {l : Launch} {w : Wp} {L : Ly} {E : Cx} {M : Mm} {lv : List (Nat × Value)} {pc : Nat} {st : List Value} {cc : ByteArray} {maxL n a : Nat} (cx : Ok w L E RX8 cc maxL n) (hd : decode cc pc = .ok (.getfield 211, 3)) (h : LLog w L a) (kk : G l w L E M lv (pc + 3) (.ref (a + 3) :: st)) : G l w L E M lv pc (.ref a :: st) := g_getR cx (ci := 1) rfl in_X1 4 (by decide) tf_X8_211 rfl (LLog_o h) (Nat.le_of_ble_eq_true rfl) rfl hd kk
set_option maxRecDepth 100000 in
theorem tf_X8_218 : Cond.fieldLink RX8 218 "TramWires$Plan" (TX3 0).2.1 (TX3 0).2.2.1 ∈ TB := tb_m (List.mem_of_getElem? (i := 316) (by decide +kernel)) rfl
theorem fg_X8_218 {l : Launch} {w : Wp} {L : Ly} {E : Cx} {M : Mm} {lv : List (Nat × Value)} {pc : Nat} {st : List Value} {cc : ByteArray} {maxL n a : Nat} (cx : Ok w L E RX8 cc maxL n) (hd : decode cc pc = .ok (.getfield 218, 3)) (h : LPlan w L a) (kk : G l w L E M lv (pc + 3) (.int (M a 0) :: st)) : G l w L E M lv pc (.ref a :: st) := g_getI cx (ci := 3) rfl in_X3 0 (by decide) tf_X8_218 rfl (LPlan_o h) (Nat.le_of_ble_eq_true rfl) rfl hd kk
theorem fp_X8_218 {l : Launch} {w : Wp} {L : Ly} {E : Cx} {M : Mm} {lv : List (Nat × Value)} {pc : Nat} {st : List Value} {cc : ByteArray} {maxL n a : Nat} (cx : Ok w L E RX8 cc maxL n) {x : Int32} {A : Mm → OR} {R0 : Int32 × Mm} (hd : decode cc pc = .ok (.putfield 218, 3)) (h : LPlan w L a) (hf : bnd (mst M a 0 x) A = some R0) (kk : ∀ M1 : Mm, A M1 = some R0 → G l w L E M1 lv (pc + 3) st) : G l w L E M lv pc (.int x :: .ref a :: st) := g_putI cx (ci := 3) rfl in_X3 tyX3 tyX3_ok nmX3 0 (by decide) tf_X8_218 rfl rfl (by decide +kernel) (LPlan_o h) (Nat.le_of_ble_eq_true rfl) rfl hd hf kk
set_option maxRecDepth 100000 in
theorem tf_X8_219 : Cond.fieldLink RX8 219 "TramWires$Plan" (TX3 1).2.1 (TX3 1).2.2.1 ∈ TB := tb_m (List.mem_of_getElem? (i := 319) (by decide +kernel)) rfl
theorem fg_X8_219 {l : Launch} {w : Wp} {L : Ly} {E : Cx} {M : Mm} {lv : List (Nat × Value)} {pc : Nat} {st : List Value} {cc : ByteArray} {maxL n a : Nat} (cx : Ok w L E RX8 cc maxL n) (hd : decode cc pc = .ok (.getfield 219, 3)) (h : LPlan w L a) (kk : G l w L E M lv (pc + 3) (.ref (a + 1) :: st)) : G l w L E M lv pc (.ref a :: st) := g_getR cx (ci := 3) rfl in_X3 1 (by decide) tf_X8_219 rfl (LPlan_o h) (Nat.le_of_ble_eq_true rfl) rfl hd kk
set_option maxRecDepth 100000 in
theorem tf_X8_220 : Cond.fieldLink RX8 220 "TramWires$Plan" (TX3 2).2.1 (TX3 2).2.2.1 ∈ TB := tb_m (List.mem_of_getElem? (i := 322) (by decide +kernel)) rfl
theorem fg_X8_220 {l : Launch} {w : Wp} {L : Ly} {E : Cx} {M : Mm} {lv : List (Nat × Value)} {pc : Nat} {st : List Value} {cc : ByteArray} {maxL n a : Nat} (cx : Ok w L E RX8 cc maxL n) (hd : decode cc pc = .ok (.getfield 220, 3)) (h : LPlan w L a) (kk : G l w L E M lv (pc + 3) (.ref (a + 2) :: st)) : G l w L E M lv pc (.ref a :: st) := g_getR cx (ci := 3) rfl in_X3 2 (by decide) tf_X8_220 rfl (LPlan_o h) (Nat.le_of_ble_eq_true rfl) rfl hd kk
set_option maxRecDepth 100000 in
theorem tf_X8_225 : Cond.fieldLink RX8 225 "TramWires$Rehearsal" (TX4 1).2.1 (TX4 1).2.2.1 ∈ TB := tb_m (List.mem_of_getElem? (i := 341) (by decide +kernel)) rfl
theorem fg_X8_225 {l : Launch} {w : Wp} {L : Ly} {E : Cx} {M : Mm} {lv : List (Nat × Value)} {pc : Nat} {st : List Value} {cc : ByteArray} {maxL n a : Nat} (cx : Ok w L E RX8 cc maxL n) (hd : decode cc pc = .ok (.getfield 225, 3)) (h : LRehearsal w L a) (kk : G l w L E M lv (pc + 3) (.int (M a 1) :: st)) : G l w L E M lv pc (.ref a :: st) := g_getI cx (ci := 4) rfl in_X4 1 (by decide) tf_X8_225 rfl (LRehearsal_o h) (Nat.le_of_ble_eq_true rfl) rfl hd kk
theorem fp_X8_225 {l : Launch} {w : Wp} {L : Ly} {E : Cx} {M : Mm} {lv : List (Nat × Value)} {pc : Nat} {st : List Value} {cc : ByteArray} {maxL n a : Nat} (cx : Ok w L E RX8 cc maxL n) {x : Int32} {A : Mm → OR} {R0 : Int32 × Mm} (hd : decode cc pc = .ok (.putfield 225, 3)) (h : LRehearsal w L a) (hf : bnd (mst M a 1 x) A = some R0) (kk : ∀ M1 : Mm, A M1 = some R0 → G l w L E M1 lv (pc + 3) st) : G l w L E M lv pc (.int x :: .ref a :: st) := g_putI cx (ci := 4) rfl in_X4 tyX4 tyX4_ok nmX4 1 (by decide) tf_X8_225 rfl rfl (by decide +kernel) (LRehearsal_o h) (Nat.le_of_ble_eq_true rfl) rfl hd hf kk
set_option maxRecDepth 100000 in
theorem tf_X8_233 : Cond.fieldLink RX8 233 "TramWires$Service" (TX5 7).2.1 (TX5 7).2.2.1 ∈ TB := tb_m (List.mem_of_getElem? (i := 172) (by decide +kernel)) rfl
theorem fg_X8_233 {l : Launch} {w : Wp} {L : Ly} {E : Cx} {M : Mm} {lv : List (Nat × Value)} {pc : Nat} {st : List Value} {cc : ByteArray} {maxL n a : Nat} (cx : Ok w L E RX8 cc maxL n) (hd : decode cc pc = .ok (.getfield 233, 3)) (h : LService w L a) (kk : G l w L E M lv (pc + 3) (.ref (a + 5) :: st)) : G l w L E M lv pc (.ref a :: st) := g_getR cx (ci := 5) rfl in_X5 7 (by decide) tf_X8_233 rfl (LService_o h) (Nat.le_of_ble_eq_true rfl) rfl hd kk
set_option maxRecDepth 100000 in
theorem tf_X8_239 : Cond.fieldLink RX8 239 "TramWires$Text" (TX6 1).2.1 (TX6 1).2.2.1 ∈ TB := tb_m (List.mem_of_getElem? (i := 290) (by decide +kernel)) rfl
theorem fg_X8_239 {l : Launch} {w : Wp} {L : Ly} {E : Cx} {M : Mm} {lv : List (Nat × Value)} {pc : Nat} {st : List Value} {cc : ByteArray} {maxL n a : Nat} (cx : Ok w L E RX8 cc maxL n) (hd : decode cc pc = .ok (.getfield 239, 3)) (h : LText w L a) (kk : G l w L E M lv (pc + 3) (.ref (a + 1) :: st)) : G l w L E M lv pc (.ref a :: st) := g_getR cx (ci := 6) rfl in_X6 1 (by decide) tf_X8_239 rfl (LText_o h) (Nat.le_of_ble_eq_true rfl) rfl hd kk
set_option maxRecDepth 100000 in
theorem tf_X8_246 : Cond.fieldLink RX8 246 "TramWires$Rehearsal" (TX4 3).2.1 (TX4 3).2.2.1 ∈ TB := tb_m (List.mem_of_getElem? (i := 345) (by decide +kernel)) rfl
theorem fg_X8_246 {l : Launch} {w : Wp} {L : Ly} {E : Cx} {M : Mm} {lv : List (Nat × Value)} {pc : Nat} {st : List Value} {cc : ByteArray} {maxL n a : Nat} (cx : Ok w L E RX8 cc maxL n) (hd : decode cc pc = .ok (.getfield 246, 3)) (h : LRehearsal w L a) (kk : G l w L E M lv (pc + 3) (.int (M a 3) :: st)) : G l w L E M lv pc (.ref a :: st) := g_getI cx (ci := 4) rfl in_X4 3 (by decide) tf_X8_246 rfl (LRehearsal_o h) (Nat.le_of_ble_eq_true rfl) rfl hd kk
theorem fp_X8_246 {l : Launch} {w : Wp} {L : Ly} {E : Cx} {M : Mm} {lv : List (Nat × Value)} {pc : Nat} {st : List Value} {cc : ByteArray} {maxL n a : Nat} (cx : Ok w L E RX8 cc maxL n) {x : Int32} {A : Mm → OR} {R0 : Int32 × Mm} (hd : decode cc pc = .ok (.putfield 246, 3)) (h : LRehearsal w L a) (hf : bnd (mst M a 3 x) A = some R0) (kk : ∀ M1 : Mm, A M1 = some R0 → G l w L E M1 lv (pc + 3) st) : G l w L E M lv pc (.int x :: .ref a :: st) := g_putI cx (ci := 4) rfl in_X4 tyX4 tyX4_ok nmX4 3 (by decide) tf_X8_246 rfl rfl (by decide +kernel) (LRehearsal_o h) (Nat.le_of_ble_eq_true rfl) rfl hd hf kk
set_option maxRecDepth 100000 in
theorem tf_X8_249 : Cond.fieldLink RX8 249 "TramWires$Rehearsal" (TX4 2).2.1 (TX4 2).2.2.1 ∈ TB := tb_m (List.mem_of_getElem? (i := 343) (by decide +kernel)) rfl
theorem fg_X8_249 {l : Launch} {w : Wp} {L : Ly} {E : Cx} {M : Mm} {lv : List (Nat × Value)} {pc : Nat} {st : List Value} {cc : ByteArray} {maxL n a : Nat} (cx : Ok w L E RX8 cc maxL n) (hd : decode cc pc = .ok (.getfield 249, 3)) (h : LRehearsal w L a) (kk : G l w L E M lv (pc + 3) (.int (M a 2) :: st)) : G l w L E M lv pc (.ref a :: st) := g_getI cx (ci := 4) rfl in_X4 2 (by decide) tf_X8_249 rfl (LRehearsal_o h) (Nat.le_of_ble_eq_true rfl) rfl hd kk
theorem fp_X8_249 {l : Launch} {w : Wp} {L : Ly} {E : Cx} {M : Mm} {lv : List (Nat × Value)} {pc : Nat} {st : List Value} {cc : ByteArray} {maxL n a : Nat} (cx : Ok w L E RX8 cc maxL n) {x : Int32} {A : Mm → OR} {R0 : Int32 × Mm} (hd : decode cc pc = .ok (.putfield 249, 3)) (h : LRehearsal w L a) (hf : bnd (mst M a 2 x) A = some R0) (kk : ∀ M1 : Mm, A M1 = some R0 → G l w L E M1 lv (pc + 3) st) : G l w L E M lv pc (.int x :: .ref a :: st) := g_putI cx (ci := 4) rfl in_X4 tyX4 tyX4_ok nmX4 2 (by decide) tf_X8_249 rfl rfl (by decide +kernel) (LRehearsal_o h) (Nat.le_of_ble_eq_true rfl) rfl hd hf kk
set_option maxRecDepth 100000 in
theorem tf_X8_252 : Cond.fieldLink RX8 252 "TramWires$Rehearsal" (TX4 0).2.1 (TX4 0).2.2.1 ∈ TB := tb_m (List.mem_of_getElem? (i := 339) (by decide +kernel)) rfl
theorem fg_X8_252 {l : Launch} {w : Wp} {L : Ly} {E : Cx} {M : Mm} {lv : List (Nat × Value)} {pc : Nat} {st : List Value} {cc : ByteArray} {maxL n a : Nat} (cx : Ok w L E RX8 cc maxL n) (hd : decode cc pc = .ok (.getfield 252, 3)) (h : LRehearsal w L a) (kk : G l w L E M lv (pc + 3) (.ref (a + 1) :: st)) : G l w L E M lv pc (.ref a :: st) := g_getR cx (ci := 4) rfl in_X4 0 (by decide) tf_X8_252 rfl (LRehearsal_o h) (Nat.le_of_ble_eq_true rfl) rfl hd kk
set_option maxRecDepth 100000 in
theorem tf_X0_11 : Cond.fieldLink RX0 11 "TramWires$History" (TX0 1).2.1 (TX0 1).2.2.1 ∈ TB := tb_m (List.mem_of_getElem? (i := 274) (by decide +kernel)) rfl
theorem fg_X0_11 {l : Launch} {w : Wp} {L : Ly} {E : Cx} {M : Mm} {lv : List (Nat × Value)} {pc : Nat} {st : List Value} {cc : ByteArray} {maxL n a : Nat} (cx : Ok w L E RX0 cc maxL n) (hd : decode cc pc = .ok (.getfield 11, 3)) (h : LHistory w L a) (kk : G l w L E M lv (pc + 3) (.ref (a + 1) :: st)) : G l w L E M lv pc (.ref a :: st) := g_getR cx (ci := 0) rfl in_X0 1 (by decide) tf_X0_11 rfl (LHistory_o h) (Nat.le_of_ble_eq_true rfl) rfl hd kk
set_option maxRecDepth 100000 in
theorem tf_X0_18 : Cond.fieldLink RX0 18 "TramWires$History" (TX0 0).2.1 (TX0 0).2.2.1 ∈ TB := tb_m (List.mem_of_getElem? (i := 272) (by decide +kernel)) rfl
theorem fg_X0_18 {l : Launch} {w : Wp} {L : Ly} {E : Cx} {M : Mm} {lv : List (Nat × Value)} {pc : Nat} {st : List Value} {cc : ByteArray} {maxL n a : Nat} (cx : Ok w L E RX0 cc maxL n) (hd : decode cc pc = .ok (.getfield 18, 3)) (h : LHistory w L a) (kk : G l w L E M lv (pc + 3) (.int (M a 0) :: st)) : G l w L E M lv pc (.ref a :: st) := g_getI cx (ci := 0) rfl in_X0 0 (by decide) tf_X0_18 rfl (LHistory_o h) (Nat.le_of_ble_eq_true rfl) rfl hd kk
theorem fp_X0_18 {l : Launch} {w : Wp} {L : Ly} {E : Cx} {M : Mm} {lv : List (Nat × Value)} {pc : Nat} {st : List Value} {cc : ByteArray} {maxL n a : Nat} (cx : Ok w L E RX0 cc maxL n) {x : Int32} {A : Mm → OR} {R0 : Int32 × Mm} (hd : decode cc pc = .ok (.putfield 18, 3)) (h : LHistory w L a) (hf : bnd (mst M a 0 x) A = some R0) (kk : ∀ M1 : Mm, A M1 = some R0 → G l w L E M1 lv (pc + 3) st) : G l w L E M lv pc (.int x :: .ref a :: st) := g_putI cx (ci := 0) rfl in_X0 tyX0 tyX0_ok nmX0 0 (by decide) tf_X0_18 rfl rfl (by decide +kernel) (LHistory_o h) (Nat.le_of_ble_eq_true rfl) rfl hd hf kk
set_option maxRecDepth 100000 in
theorem tf_X1_9 : Cond.fieldLink RX1 9 "TramWires$Log" (TX1 2).2.1 (TX1 2).2.2.1 ∈ TB := tb_m (List.mem_of_getElem? (i := 209) (by decide +kernel)) rfl
theorem fg_X1_9 {l : Launch} {w : Wp} {L : Ly} {E : Cx} {M : Mm} {lv : List (Nat × Value)} {pc : Nat} {st : List Value} {cc : ByteArray} {maxL n a : Nat} (cx : Ok w L E RX1 cc maxL n) (hd : decode cc pc = .ok (.getfield 9, 3)) (h : LLog w L a) (kk : G l w L E M lv (pc + 3) (.ref (a + 1) :: st)) : G l w L E M lv pc (.ref a :: st) := g_getR cx (ci := 1) rfl in_X1 2 (by decide) tf_X1_9 rfl (LLog_o h) (Nat.le_of_ble_eq_true rfl) rfl hd kk
set_option maxRecDepth 100000 in
theorem tf_X1_15 : Cond.fieldLink RX1 15 "TramWires$Log" (TX1 3).2.1 (TX1 3).2.2.1 ∈ TB := tb_m (List.mem_of_getElem? (i := 211) (by decide +kernel)) rfl
theorem fg_X1_15 {l : Launch} {w : Wp} {L : Ly} {E : Cx} {M : Mm} {lv : List (Nat × Value)} {pc : Nat} {st : List Value} {cc : ByteArray} {maxL n a : Nat} (cx : Ok w L E RX1 cc maxL n) (hd : decode cc pc = .ok (.getfield 15, 3)) (h : LLog w L a) (kk : G l w L E M lv (pc + 3) (.ref (a + 2) :: st)) : G l w L E M lv pc (.ref a :: st) := g_getR cx (ci := 1) rfl in_X1 3 (by decide) tf_X1_15 rfl (LLog_o h) (Nat.le_of_ble_eq_true rfl) rfl hd kk
set_option maxRecDepth 100000 in
theorem tf_X1_18 : Cond.fieldLink RX1 18 "TramWires$Log" (TX1 4).2.1 (TX1 4).2.2.1 ∈ TB := tb_m (List.mem_of_getElem? (i := 213) (by decide +kernel)) rfl
theorem fg_X1_18 {l : Launch} {w : Wp} {L : Ly} {E : Cx} {M : Mm} {lv : List (Nat × Value)} {pc : Nat} {st : List Value} {cc : ByteArray} {maxL n a : Nat} (cx : Ok w L E RX1 cc maxL n) (hd : decode cc pc = .ok (.getfield 18, 3)) (h : LLog w L a) (kk : G l w L E M lv (pc + 3) (.ref (a + 3) :: st)) : G l w L E M lv pc (.ref a :: st) := g_getR cx (ci := 1) rfl in_X1 4 (by decide) tf_X1_18 rfl (LLog_o h) (Nat.le_of_ble_eq_true rfl) rfl hd kk
set_option maxRecDepth 100000 in
theorem tf_X1_21 : Cond.fieldLink RX1 21 "TramWires$Log" (TX1 5).2.1 (TX1 5).2.2.1 ∈ TB := tb_m (List.mem_of_getElem? (i := 215) (by decide +kernel)) rfl
theorem fg_X1_21 {l : Launch} {w : Wp} {L : Ly} {E : Cx} {M : Mm} {lv : List (Nat × Value)} {pc : Nat} {st : List Value} {cc : ByteArray} {maxL n a : Nat} (cx : Ok w L E RX1 cc maxL n) (hd : decode cc pc = .ok (.getfield 21, 3)) (h : LLog w L a) (kk : G l w L E M lv (pc + 3) (.ref (a + 4) :: st)) : G l w L E M lv pc (.ref a :: st) := g_getR cx (ci := 1) rfl in_X1 5 (by decide) tf_X1_21 rfl (LLog_o h) (Nat.le_of_ble_eq_true rfl) rfl hd kk
set_option maxRecDepth 100000 in
theorem tf_X1_24 : Cond.fieldLink RX1 24 "TramWires$Log" (TX1 6).2.1 (TX1 6).2.2.1 ∈ TB := tb_m (List.mem_of_getElem? (i := 217) (by decide +kernel)) rfl
theorem fg_X1_24 {l : Launch} {w : Wp} {L : Ly} {E : Cx} {M : Mm} {lv : List (Nat × Value)} {pc : Nat} {st : List Value} {cc : ByteArray} {maxL n a : Nat} (cx : Ok w L E RX1 cc maxL n) (hd : decode cc pc = .ok (.getfield 24, 3)) (h : LLog w L a) (kk : G l w L E M lv (pc + 3) (.ref (a + 5) :: st)) : G l w L E M lv pc (.ref a :: st) := g_getR cx (ci := 1) rfl in_X1 6 (by decide) tf_X1_24 rfl (LLog_o h) (Nat.le_of_ble_eq_true rfl) rfl hd kk
set_option maxRecDepth 100000 in
theorem tf_X1_28 : Cond.fieldLink RX1 28 "TramWires$Log" (TX1 7).2.1 (TX1 7).2.2.1 ∈ TB := tb_m (List.mem_of_getElem? (i := 219) (by decide +kernel)) rfl
theorem fg_X1_28 {l : Launch} {w : Wp} {L : Ly} {E : Cx} {M : Mm} {lv : List (Nat × Value)} {pc : Nat} {st : List Value} {cc : ByteArray} {maxL n a : Nat} (cx : Ok w L E RX1 cc maxL n) (hd : decode cc pc = .ok (.getfield 28, 3)) (h : LLog w L a) (kk : G l w L E M lv (pc + 3) (.ref (a + 6) :: st)) : G l w L E M lv pc (.ref a :: st) := g_getR cx (ci := 1) rfl in_X1 7 (by decide) tf_X1_28 rfl (LLog_o h) (Nat.le_of_ble_eq_true rfl) rfl hd kk
set_option maxRecDepth 100000 in
theorem tf_X1_31 : Cond.fieldLink RX1 31 "TramWires$Log" (TX1 8).2.1 (TX1 8).2.2.1 ∈ TB := tb_m (List.mem_of_getElem? (i := 221) (by decide +kernel)) rfl
theorem fg_X1_31 {l : Launch} {w : Wp} {L : Ly} {E : Cx} {M : Mm} {lv : List (Nat × Value)} {pc : Nat} {st : List Value} {cc : ByteArray} {maxL n a : Nat} (cx : Ok w L E RX1 cc maxL n) (hd : decode cc pc = .ok (.getfield 31, 3)) (h : LLog w L a) (kk : G l w L E M lv (pc + 3) (.ref (a + 7) :: st)) : G l w L E M lv pc (.ref a :: st) := g_getR cx (ci := 1) rfl in_X1 8 (by decide) tf_X1_31 rfl (LLog_o h) (Nat.le_of_ble_eq_true rfl) rfl hd kk
set_option maxRecDepth 100000 in
theorem tf_X1_34 : Cond.fieldLink RX1 34 "TramWires$Log" (TX1 0).2.1 (TX1 0).2.2.1 ∈ TB := tb_m (List.mem_of_getElem? (i := 205) (by decide +kernel)) rfl
theorem fg_X1_34 {l : Launch} {w : Wp} {L : Ly} {E : Cx} {M : Mm} {lv : List (Nat × Value)} {pc : Nat} {st : List Value} {cc : ByteArray} {maxL n a : Nat} (cx : Ok w L E RX1 cc maxL n) (hd : decode cc pc = .ok (.getfield 34, 3)) (h : LLog w L a) (kk : G l w L E M lv (pc + 3) (.int (M a 0) :: st)) : G l w L E M lv pc (.ref a :: st) := g_getI cx (ci := 1) rfl in_X1 0 (by decide) tf_X1_34 rfl (LLog_o h) (Nat.le_of_ble_eq_true rfl) rfl hd kk
theorem fp_X1_34 {l : Launch} {w : Wp} {L : Ly} {E : Cx} {M : Mm} {lv : List (Nat × Value)} {pc : Nat} {st : List Value} {cc : ByteArray} {maxL n a : Nat} (cx : Ok w L E RX1 cc maxL n) {x : Int32} {A : Mm → OR} {R0 : Int32 × Mm} (hd : decode cc pc = .ok (.putfield 34, 3)) (h : LLog w L a) (hf : bnd (mst M a 0 x) A = some R0) (kk : ∀ M1 : Mm, A M1 = some R0 → G l w L E M1 lv (pc + 3) st) : G l w L E M lv pc (.int x :: .ref a :: st) := g_putI cx (ci := 1) rfl in_X1 tyX1 tyX1_ok nmX1 0 (by decide) tf_X1_34 rfl rfl (by decide +kernel) (LLog_o h) (Nat.le_of_ble_eq_true rfl) rfl hd hf kk
set_option maxRecDepth 100000 in
theorem tf_X1_38 : Cond.fieldLink RX1 38 "TramWires$Log" (TX1 1).2.1 (TX1 1).2.2.1 ∈ TB := tb_m (List.mem_of_getElem? (i := 207) (by decide +kernel)) rfl
theorem fg_X1_38 {l : Launch} {w : Wp} {L : Ly} {E : Cx} {M : Mm} {lv : List (Nat × Value)} {pc : Nat} {st : List Value} {cc : ByteArray} {maxL n a : Nat} (cx : Ok w L E RX1 cc maxL n) (hd : decode cc pc = .ok (.getfield 38, 3)) (h : LLog w L a) (kk : G l w L E M lv (pc + 3) (.int (M a 1) :: st)) : G l w L E M lv pc (.ref a :: st) := g_getI cx (ci := 1) rfl in_X1 1 (by decide) tf_X1_38 rfl (LLog_o h) (Nat.le_of_ble_eq_true rfl) rfl hd kk
theorem fp_X1_38 {l : Launch} {w : Wp} {L : Ly} {E : Cx} {M : Mm} {lv : List (Nat × Value)} {pc : Nat} {st : List Value} {cc : ByteArray} {maxL n a : Nat} (cx : Ok w L E RX1 cc maxL n) {x : Int32} {A : Mm → OR} {R0 : Int32 × Mm} (hd : decode cc pc = .ok (.putfield 38, 3)) (h : LLog w L a) (hf : bnd (mst M a 1 x) A = some R0) (kk : ∀ M1 : Mm, A M1 = some R0 → G l w L E M1 lv (pc + 3) st) : G l w L E M lv pc (.int x :: .ref a :: st) := g_putI cx (ci := 1) rfl in_X1 tyX1 tyX1_ok nmX1 1 (by decide) tf_X1_38 rfl rfl (by decide +kernel) (LLog_o h) (Nat.le_of_ble_eq_true rfl) rfl hd hf kk
set_option maxRecDepth 100000 in
theorem tf_X2_9 : Cond.fieldLink RX2 9 "TramWires$Net" (TX2 2).2.1 (TX2 2).2.2.1 ∈ TB := tb_m (List.mem_of_getElem? (i := 107) (by decide +kernel)) rfl
theorem fg_X2_9 {l : Launch} {w : Wp} {L : Ly} {E : Cx} {M : Mm} {lv : List (Nat × Value)} {pc : Nat} {st : List Value} {cc : ByteArray} {maxL n a : Nat} (cx : Ok w L E RX2 cc maxL n) (hd : decode cc pc = .ok (.getfield 9, 3)) (h : LNet w L a) (kk : G l w L E M lv (pc + 3) (.ref (a + 1) :: st)) : G l w L E M lv pc (.ref a :: st) := g_getR cx (ci := 2) rfl in_X2 2 (by decide) tf_X2_9 rfl (LNet_o h) (Nat.le_of_ble_eq_true rfl) rfl hd kk
set_option maxRecDepth 100000 in
theorem tf_X2_15 : Cond.fieldLink RX2 15 "TramWires$Net" (TX2 3).2.1 (TX2 3).2.2.1 ∈ TB := tb_m (List.mem_of_getElem? (i := 111) (by decide +kernel)) rfl
theorem fg_X2_15 {l : Launch} {w : Wp} {L : Ly} {E : Cx} {M : Mm} {lv : List (Nat × Value)} {pc : Nat} {st : List Value} {cc : ByteArray} {maxL n a : Nat} (cx : Ok w L E RX2 cc maxL n) (hd : decode cc pc = .ok (.getfield 15, 3)) (h : LNet w L a) (kk : G l w L E M lv (pc + 3) (.ref (a + 2) :: st)) : G l w L E M lv pc (.ref a :: st) := g_getR cx (ci := 2) rfl in_X2 3 (by decide) tf_X2_15 rfl (LNet_o h) (Nat.le_of_ble_eq_true rfl) rfl hd kk
set_option maxRecDepth 100000 in
theorem tf_X2_18 : Cond.fieldLink RX2 18 "TramWires$Net" (TX2 4).2.1 (TX2 4).2.2.1 ∈ TB := tb_m (List.mem_of_getElem? (i := 114) (by decide +kernel)) rfl
theorem fg_X2_18 {l : Launch} {w : Wp} {L : Ly} {E : Cx} {M : Mm} {lv : List (Nat × Value)} {pc : Nat} {st : List Value} {cc : ByteArray} {maxL n a : Nat} (cx : Ok w L E RX2 cc maxL n) (hd : decode cc pc = .ok (.getfield 18, 3)) (h : LNet w L a) (kk : G l w L E M lv (pc + 3) (.ref (a + 3) :: st)) : G l w L E M lv pc (.ref a :: st) := g_getR cx (ci := 2) rfl in_X2 4 (by decide) tf_X2_18 rfl (LNet_o h) (Nat.le_of_ble_eq_true rfl) rfl hd kk
set_option maxRecDepth 100000 in
theorem tf_X2_21 : Cond.fieldLink RX2 21 "TramWires$Net" (TX2 5).2.1 (TX2 5).2.2.1 ∈ TB := tb_m (List.mem_of_getElem? (i := 117) (by decide +kernel)) rfl
theorem fg_X2_21 {l : Launch} {w : Wp} {L : Ly} {E : Cx} {M : Mm} {lv : List (Nat × Value)} {pc : Nat} {st : List Value} {cc : ByteArray} {maxL n a : Nat} (cx : Ok w L E RX2 cc maxL n) (hd : decode cc pc = .ok (.getfield 21, 3)) (h : LNet w L a) (kk : G l w L E M lv (pc + 3) (.ref (a + 4) :: st)) : G l w L E M lv pc (.ref a :: st) := g_getR cx (ci := 2) rfl in_X2 5 (by decide) tf_X2_21 rfl (LNet_o h) (Nat.le_of_ble_eq_true rfl) rfl hd kk
set_option maxRecDepth 100000 in
theorem tf_X2_25 : Cond.fieldLink RX2 25 "TramWires$Net" (TX2 6).2.1 (TX2 6).2.2.1 ∈ TB := tb_m (List.mem_of_getElem? (i := 120) (by decide +kernel)) rfl
theorem fg_X2_25 {l : Launch} {w : Wp} {L : Ly} {E : Cx} {M : Mm} {lv : List (Nat × Value)} {pc : Nat} {st : List Value} {cc : ByteArray} {maxL n a : Nat} (cx : Ok w L E RX2 cc maxL n) (hd : decode cc pc = .ok (.getfield 25, 3)) (h : LNet w L a) (kk : G l w L E M lv (pc + 3) (.ref (a + 5) :: st)) : G l w L E M lv pc (.ref a :: st) := g_getR cx (ci := 2) rfl in_X2 6 (by decide) tf_X2_25 rfl (LNet_o h) (Nat.le_of_ble_eq_true rfl) rfl hd kk
set_option maxRecDepth 100000 in
theorem tf_X2_28 : Cond.fieldLink RX2 28 "TramWires$Net" (TX2 7).2.1 (TX2 7).2.2.1 ∈ TB := tb_m (List.mem_of_getElem? (i := 122) (by decide +kernel)) rfl
theorem fg_X2_28 {l : Launch} {w : Wp} {L : Ly} {E : Cx} {M : Mm} {lv : List (Nat × Value)} {pc : Nat} {st : List Value} {cc : ByteArray} {maxL n a : Nat} (cx : Ok w L E RX2 cc maxL n) (hd : decode cc pc = .ok (.getfield 28, 3)) (h : LNet w L a) (kk : G l w L E M lv (pc + 3) (.ref (a + 6) :: st)) : G l w L E M lv pc (.ref a :: st) := g_getR cx (ci := 2) rfl in_X2 7 (by decide) tf_X2_28 rfl (LNet_o h) (Nat.le_of_ble_eq_true rfl) rfl hd kk
set_option maxRecDepth 100000 in
theorem tf_X2_31 : Cond.fieldLink RX2 31 "TramWires$Net" (TX2 0).2.1 (TX2 0).2.2.1 ∈ TB := tb_m (List.mem_of_getElem? (i := 100) (by decide +kernel)) rfl
theorem fg_X2_31 {l : Launch} {w : Wp} {L : Ly} {E : Cx} {M : Mm} {lv : List (Nat × Value)} {pc : Nat} {st : List Value} {cc : ByteArray} {maxL n a : Nat} (cx : Ok w L E RX2 cc maxL n) (hd : decode cc pc = .ok (.getfield 31, 3)) (h : LNet w L a) (kk : G l w L E M lv (pc + 3) (.int (M a 0) :: st)) : G l w L E M lv pc (.ref a :: st) := g_getI cx (ci := 2) rfl in_X2 0 (by decide) tf_X2_31 rfl (LNet_o h) (Nat.le_of_ble_eq_true rfl) rfl hd kk
theorem fp_X2_31 {l : Launch} {w : Wp} {L : Ly} {E : Cx} {M : Mm} {lv : List (Nat × Value)} {pc : Nat} {st : List Value} {cc : ByteArray} {maxL n a : Nat} (cx : Ok w L E RX2 cc maxL n) {x : Int32} {A : Mm → OR} {R0 : Int32 × Mm} (hd : decode cc pc = .ok (.putfield 31, 3)) (h : LNet w L a) (hf : bnd (mst M a 0 x) A = some R0) (kk : ∀ M1 : Mm, A M1 = some R0 → G l w L E M1 lv (pc + 3) st) : G l w L E M lv pc (.int x :: .ref a :: st) := g_putI cx (ci := 2) rfl in_X2 tyX2 tyX2_ok nmX2 0 (by decide) tf_X2_31 rfl rfl (by decide +kernel) (LNet_o h) (Nat.le_of_ble_eq_true rfl) rfl hd hf kk
set_option maxRecDepth 100000 in
theorem tf_X2_35 : Cond.fieldLink RX2 35 "TramWires$Net" (TX2 1).2.1 (TX2 1).2.2.1 ∈ TB := tb_m (List.mem_of_getElem? (i := 103) (by decide +kernel)) rfl
theorem fg_X2_35 {l : Launch} {w : Wp} {L : Ly} {E : Cx} {M : Mm} {lv : List (Nat × Value)} {pc : Nat} {st : List Value} {cc : ByteArray} {maxL n a : Nat} (cx : Ok w L E RX2 cc maxL n) (hd : decode cc pc = .ok (.getfield 35, 3)) (h : LNet w L a) (kk : G l w L E M lv (pc + 3) (.int (M a 1) :: st)) : G l w L E M lv pc (.ref a :: st) := g_getI cx (ci := 2) rfl in_X2 1 (by decide) tf_X2_35 rfl (LNet_o h) (Nat.le_of_ble_eq_true rfl) rfl hd kk
theorem fp_X2_35 {l : Launch} {w : Wp} {L : Ly} {E : Cx} {M : Mm} {lv : List (Nat × Value)} {pc : Nat} {st : List Value} {cc : ByteArray} {maxL n a : Nat} (cx : Ok w L E RX2 cc maxL n) {x : Int32} {A : Mm → OR} {R0 : Int32 × Mm} (hd : decode cc pc = .ok (.putfield 35, 3)) (h : LNet w L a) (hf : bnd (mst M a 1 x) A = some R0) (kk : ∀ M1 : Mm, A M1 = some R0 → G l w L E M1 lv (pc + 3) st) : G l w L E M lv pc (.int x :: .ref a :: st) := g_putI cx (ci := 2) rfl in_X2 tyX2 tyX2_ok nmX2 1 (by decide) tf_X2_35 rfl rfl (by decide +kernel) (LNet_o h) (Nat.le_of_ble_eq_true rfl) rfl hd hf kk
set_option maxRecDepth 100000 in
theorem tf_X3_9 : Cond.fieldLink RX3 9 "TramWires$Plan" (TX3 1).2.1 (TX3 1).2.2.1 ∈ TB := tb_m (List.mem_of_getElem? (i := 317) (by decide +kernel)) rfl
theorem fg_X3_9 {l : Launch} {w : Wp} {L : Ly} {E : Cx} {M : Mm} {lv : List (Nat × Value)} {pc : Nat} {st : List Value} {cc : ByteArray} {maxL n a : Nat} (cx : Ok w L E RX3 cc maxL n) (hd : decode cc pc = .ok (.getfield 9, 3)) (h : LPlan w L a) (kk : G l w L E M lv (pc + 3) (.ref (a + 1) :: st)) : G l w L E M lv pc (.ref a :: st) := g_getR cx (ci := 3) rfl in_X3 1 (by decide) tf_X3_9 rfl (LPlan_o h) (Nat.le_of_ble_eq_true rfl) rfl hd kk
set_option maxRecDepth 100000 in
theorem tf_X3_15 : Cond.fieldLink RX3 15 "TramWires$Plan" (TX3 2).2.1 (TX3 2).2.2.1 ∈ TB := tb_m (List.mem_of_getElem? (i := 320) (by decide +kernel)) rfl
theorem fg_X3_15 {l : Launch} {w : Wp} {L : Ly} {E : Cx} {M : Mm} {lv : List (Nat × Value)} {pc : Nat} {st : List Value} {cc : ByteArray} {maxL n a : Nat} (cx : Ok w L E RX3 cc maxL n) (hd : decode cc pc = .ok (.getfield 15, 3)) (h : LPlan w L a) (kk : G l w L E M lv (pc + 3) (.ref (a + 2) :: st)) : G l w L E M lv pc (.ref a :: st) := g_getR cx (ci := 3) rfl in_X3 2 (by decide) tf_X3_15 rfl (LPlan_o h) (Nat.le_of_ble_eq_true rfl) rfl hd kk
set_option maxRecDepth 100000 in
theorem tf_X3_18 : Cond.fieldLink RX3 18 "TramWires$Plan" (TX3 0).2.1 (TX3 0).2.2.1 ∈ TB := tb_m (List.mem_of_getElem? (i := 314) (by decide +kernel)) rfl
theorem fg_X3_18 {l : Launch} {w : Wp} {L : Ly} {E : Cx} {M : Mm} {lv : List (Nat × Value)} {pc : Nat} {st : List Value} {cc : ByteArray} {maxL n a : Nat} (cx : Ok w L E RX3 cc maxL n) (hd : decode cc pc = .ok (.getfield 18, 3)) (h : LPlan w L a) (kk : G l w L E M lv (pc + 3) (.int (M a 0) :: st)) : G l w L E M lv pc (.ref a :: st) := g_getI cx (ci := 3) rfl in_X3 0 (by decide) tf_X3_18 rfl (LPlan_o h) (Nat.le_of_ble_eq_true rfl) rfl hd kk
theorem fp_X3_18 {l : Launch} {w : Wp} {L : Ly} {E : Cx} {M : Mm} {lv : List (Nat × Value)} {pc : Nat} {st : List Value} {cc : ByteArray} {maxL n a : Nat} (cx : Ok w L E RX3 cc maxL n) {x : Int32} {A : Mm → OR} {R0 : Int32 × Mm} (hd : decode cc pc = .ok (.putfield 18, 3)) (h : LPlan w L a) (hf : bnd (mst M a 0 x) A = some R0) (kk : ∀ M1 : Mm, A M1 = some R0 → G l w L E M1 lv (pc + 3) st) : G l w L E M lv pc (.int x :: .ref a :: st) := g_putI cx (ci := 3) rfl in_X3 tyX3 tyX3_ok nmX3 0 (by decide) tf_X3_18 rfl rfl (by decide +kernel) (LPlan_o h) (Nat.le_of_ble_eq_true rfl) rfl hd hf kk
set_option maxRecDepth 100000 in
theorem tf_X3_22 : Cond.fieldLink RX3 22 "TramWires$Wires" (TX7 1).2.1 (TX7 1).2.2.1 ∈ TB := tb_m (List.mem_of_getElem? (i := 246) (by decide +kernel)) rfl
theorem fg_X3_22 {l : Launch} {w : Wp} {L : Ly} {E : Cx} {M : Mm} {lv : List (Nat × Value)} {pc : Nat} {st : List Value} {cc : ByteArray} {maxL n a : Nat} (cx : Ok w L E RX3 cc maxL n) (hd : decode cc pc = .ok (.getfield 22, 3)) (h : LWires w L a) (kk : G l w L E M lv (pc + 3) (.ref (a + 8) :: st)) : G l w L E M lv pc (.ref a :: st) := g_getR cx (ci := 7) rfl in_X7 1 (by decide) tf_X3_22 rfl (LWires_o h) (Nat.le_of_ble_eq_true rfl) rfl hd kk
set_option maxRecDepth 100000 in
theorem tf_X3_28 : Cond.fieldLink RX3 28 "TramWires$Service" (TX5 4).2.1 (TX5 4).2.2.1 ∈ TB := tb_m (List.mem_of_getElem? (i := 161) (by decide +kernel)) rfl
theorem fg_X3_28 {l : Launch} {w : Wp} {L : Ly} {E : Cx} {M : Mm} {lv : List (Nat × Value)} {pc : Nat} {st : List Value} {cc : ByteArray} {maxL n a : Nat} (cx : Ok w L E RX3 cc maxL n) (hd : decode cc pc = .ok (.getfield 28, 3)) (h : LService w L a) (kk : G l w L E M lv (pc + 3) (.ref (a + 2) :: st)) : G l w L E M lv pc (.ref a :: st) := g_getR cx (ci := 5) rfl in_X5 4 (by decide) tf_X3_28 rfl (LService_o h) (Nat.le_of_ble_eq_true rfl) rfl hd kk
set_option maxRecDepth 100000 in
theorem tf_X3_38 : Cond.fieldLink RX3 38 "TramWires$Wires" (TX7 0).2.1 (TX7 0).2.2.1 ∈ TB := tb_m (List.mem_of_getElem? (i := 243) (by decide +kernel)) rfl
theorem fg_X3_38 {l : Launch} {w : Wp} {L : Ly} {E : Cx} {M : Mm} {lv : List (Nat × Value)} {pc : Nat} {st : List Value} {cc : ByteArray} {maxL n a : Nat} (cx : Ok w L E RX3 cc maxL n) (hd : decode cc pc = .ok (.getfield 38, 3)) (h : LWires w L a) (kk : G l w L E M lv (pc + 3) (.ref (a + 1) :: st)) : G l w L E M lv pc (.ref a :: st) := g_getR cx (ci := 7) rfl in_X7 0 (by decide) tf_X3_38 rfl (LWires_o h) (Nat.le_of_ble_eq_true rfl) rfl hd kk
set_option maxRecDepth 100000 in
theorem tf_X3_42 : Cond.fieldLink RX3 42 "TramWires$Net" (TX2 2).2.1 (TX2 2).2.2.1 ∈ TB := tb_m (List.mem_of_getElem? (i := 108) (by decide +kernel)) rfl
theorem fg_X3_42 {l : Launch} {w : Wp} {L : Ly} {E : Cx} {M : Mm} {lv : List (Nat × Value)} {pc : Nat} {st : List Value} {cc : ByteArray} {maxL n a : Nat} (cx : Ok w L E RX3 cc maxL n) (hd : decode cc pc = .ok (.getfield 42, 3)) (h : LNet w L a) (kk : G l w L E M lv (pc + 3) (.ref (a + 1) :: st)) : G l w L E M lv pc (.ref a :: st) := g_getR cx (ci := 2) rfl in_X2 2 (by decide) tf_X3_42 rfl (LNet_o h) (Nat.le_of_ble_eq_true rfl) rfl hd kk
set_option maxRecDepth 100000 in
theorem tf_X3_47 : Cond.fieldLink RX3 47 "TramWires$Net" (TX2 1).2.1 (TX2 1).2.2.1 ∈ TB := tb_m (List.mem_of_getElem? (i := 104) (by decide +kernel)) rfl
theorem fg_X3_47 {l : Launch} {w : Wp} {L : Ly} {E : Cx} {M : Mm} {lv : List (Nat × Value)} {pc : Nat} {st : List Value} {cc : ByteArray} {maxL n a : Nat} (cx : Ok w L E RX3 cc maxL n) (hd : decode cc pc = .ok (.getfield 47, 3)) (h : LNet w L a) (kk : G l w L E M lv (pc + 3) (.int (M a 1) :: st)) : G l w L E M lv pc (.ref a :: st) := g_getI cx (ci := 2) rfl in_X2 1 (by decide) tf_X3_47 rfl (LNet_o h) (Nat.le_of_ble_eq_true rfl) rfl hd kk
theorem fp_X3_47 {l : Launch} {w : Wp} {L : Ly} {E : Cx} {M : Mm} {lv : List (Nat × Value)} {pc : Nat} {st : List Value} {cc : ByteArray} {maxL n a : Nat} (cx : Ok w L E RX3 cc maxL n) {x : Int32} {A : Mm → OR} {R0 : Int32 × Mm} (hd : decode cc pc = .ok (.putfield 47, 3)) (h : LNet w L a) (hf : bnd (mst M a 1 x) A = some R0) (kk : ∀ M1 : Mm, A M1 = some R0 → G l w L E M1 lv (pc + 3) st) : G l w L E M lv pc (.int x :: .ref a :: st) := g_putI cx (ci := 2) rfl in_X2 tyX2 tyX2_ok nmX2 1 (by decide) tf_X3_47 rfl rfl (by decide +kernel) (LNet_o h) (Nat.le_of_ble_eq_true rfl) rfl hd hf kk
set_option maxRecDepth 100000 in
theorem tf_X3_54 : Cond.fieldLink RX3 54 "TramWires$Service" (TX5 5).2.1 (TX5 5).2.2.1 ∈ TB := tb_m (List.mem_of_getElem? (i := 165) (by decide +kernel)) rfl
theorem fg_X3_54 {l : Launch} {w : Wp} {L : Ly} {E : Cx} {M : Mm} {lv : List (Nat × Value)} {pc : Nat} {st : List Value} {cc : ByteArray} {maxL n a : Nat} (cx : Ok w L E RX3 cc maxL n) (hd : decode cc pc = .ok (.getfield 54, 3)) (h : LService w L a) (kk : G l w L E M lv (pc + 3) (.ref (a + 3) :: st)) : G l w L E M lv pc (.ref a :: st) := g_getR cx (ci := 5) rfl in_X5 5 (by decide) tf_X3_54 rfl (LService_o h) (Nat.le_of_ble_eq_true rfl) rfl hd kk
set_option maxRecDepth 100000 in
theorem tf_X4_12 : Cond.fieldLink RX4 12 "TramWires$Rehearsal" (TX4 0).2.1 (TX4 0).2.2.1 ∈ TB := tb_m (List.mem_of_getElem? (i := 338) (by decide +kernel)) rfl
theorem fg_X4_12 {l : Launch} {w : Wp} {L : Ly} {E : Cx} {M : Mm} {lv : List (Nat × Value)} {pc : Nat} {st : List Value} {cc : ByteArray} {maxL n a : Nat} (cx : Ok w L E RX4 cc maxL n) (hd : decode cc pc = .ok (.getfield 12, 3)) (h : LRehearsal w L a) (kk : G l w L E M lv (pc + 3) (.ref (a + 1) :: st)) : G l w L E M lv pc (.ref a :: st) := g_getR cx (ci := 4) rfl in_X4 0 (by decide) tf_X4_12 rfl (LRehearsal_o h) (Nat.le_of_ble_eq_true rfl) rfl hd kk
set_option maxRecDepth 100000 in
theorem tf_X4_22 : Cond.fieldLink RX4 22 "TramWires$Plan" (TX3 0).2.1 (TX3 0).2.2.1 ∈ TB := tb_m (List.mem_of_getElem? (i := 315) (by decide +kernel)) rfl
theorem fg_X4_22 {l : Launch} {w : Wp} {L : Ly} {E : Cx} {M : Mm} {lv : List (Nat × Value)} {pc : Nat} {st : List Value} {cc : ByteArray} {maxL n a : Nat} (cx : Ok w L E RX4 cc maxL n) (hd : decode cc pc = .ok (.getfield 22, 3)) (h : LPlan w L a) (kk : G l w L E M lv (pc + 3) (.int (M a 0) :: st)) : G l w L E M lv pc (.ref a :: st) := g_getI cx (ci := 3) rfl in_X3 0 (by decide) tf_X4_22 rfl (LPlan_o h) (Nat.le_of_ble_eq_true rfl) rfl hd kk
theorem fp_X4_22 {l : Launch} {w : Wp} {L : Ly} {E : Cx} {M : Mm} {lv : List (Nat × Value)} {pc : Nat} {st : List Value} {cc : ByteArray} {maxL n a : Nat} (cx : Ok w L E RX4 cc maxL n) {x : Int32} {A : Mm → OR} {R0 : Int32 × Mm} (hd : decode cc pc = .ok (.putfield 22, 3)) (h : LPlan w L a) (hf : bnd (mst M a 0 x) A = some R0) (kk : ∀ M1 : Mm, A M1 = some R0 → G l w L E M1 lv (pc + 3) st) : G l w L E M lv pc (.int x :: .ref a :: st) := g_putI cx (ci := 3) rfl in_X3 tyX3 tyX3_ok nmX3 0 (by decide) tf_X4_22 rfl rfl (by decide +kernel) (LPlan_o h) (Nat.le_of_ble_eq_true rfl) rfl hd hf kk
set_option maxRecDepth 100000 in
theorem tf_X4_28 : Cond.fieldLink RX4 28 "TramWires$Plan" (TX3 1).2.1 (TX3 1).2.2.1 ∈ TB := tb_m (List.mem_of_getElem? (i := 318) (by decide +kernel)) rfl
theorem fg_X4_28 {l : Launch} {w : Wp} {L : Ly} {E : Cx} {M : Mm} {lv : List (Nat × Value)} {pc : Nat} {st : List Value} {cc : ByteArray} {maxL n a : Nat} (cx : Ok w L E RX4 cc maxL n) (hd : decode cc pc = .ok (.getfield 28, 3)) (h : LPlan w L a) (kk : G l w L E M lv (pc + 3) (.ref (a + 1) :: st)) : G l w L E M lv pc (.ref a :: st) := g_getR cx (ci := 3) rfl in_X3 1 (by decide) tf_X4_28 rfl (LPlan_o h) (Nat.le_of_ble_eq_true rfl) rfl hd kk
set_option maxRecDepth 100000 in
theorem tf_X4_32 : Cond.fieldLink RX4 32 "TramWires$Plan" (TX3 2).2.1 (TX3 2).2.2.1 ∈ TB := tb_m (List.mem_of_getElem? (i := 321) (by decide +kernel)) rfl
theorem fg_X4_32 {l : Launch} {w : Wp} {L : Ly} {E : Cx} {M : Mm} {lv : List (Nat × Value)} {pc : Nat} {st : List Value} {cc : ByteArray} {maxL n a : Nat} (cx : Ok w L E RX4 cc maxL n) (hd : decode cc pc = .ok (.getfield 32, 3)) (h : LPlan w L a) (kk : G l w L E M lv (pc + 3) (.ref (a + 2) :: st)) : G l w L E M lv pc (.ref a :: st) := g_getR cx (ci := 3) rfl in_X3 2 (by decide) tf_X4_32 rfl (LPlan_o h) (Nat.le_of_ble_eq_true rfl) rfl hd kk
set_option maxRecDepth 100000 in
theorem tf_X4_39 : Cond.fieldLink RX4 39 "TramWires$Rehearsal" (TX4 3).2.1 (TX4 3).2.2.1 ∈ TB := tb_m (List.mem_of_getElem? (i := 344) (by decide +kernel)) rfl
theorem fg_X4_39 {l : Launch} {w : Wp} {L : Ly} {E : Cx} {M : Mm} {lv : List (Nat × Value)} {pc : Nat} {st : List Value} {cc : ByteArray} {maxL n a : Nat} (cx : Ok w L E RX4 cc maxL n) (hd : decode cc pc = .ok (.getfield 39, 3)) (h : LRehearsal w L a) (kk : G l w L E M lv (pc + 3) (.int (M a 3) :: st)) : G l w L E M lv pc (.ref a :: st) := g_getI cx (ci := 4) rfl in_X4 3 (by decide) tf_X4_39 rfl (LRehearsal_o h) (Nat.le_of_ble_eq_true rfl) rfl hd kk
theorem fp_X4_39 {l : Launch} {w : Wp} {L : Ly} {E : Cx} {M : Mm} {lv : List (Nat × Value)} {pc : Nat} {st : List Value} {cc : ByteArray} {maxL n a : Nat} (cx : Ok w L E RX4 cc maxL n) {x : Int32} {A : Mm → OR} {R0 : Int32 × Mm} (hd : decode cc pc = .ok (.putfield 39, 3)) (h : LRehearsal w L a) (hf : bnd (mst M a 3 x) A = some R0) (kk : ∀ M1 : Mm, A M1 = some R0 → G l w L E M1 lv (pc + 3) st) : G l w L E M lv pc (.int x :: .ref a :: st) := g_putI cx (ci := 4) rfl in_X4 tyX4 tyX4_ok nmX4 3 (by decide) tf_X4_39 rfl rfl (by decide +kernel) (LRehearsal_o h) (Nat.le_of_ble_eq_true rfl) rfl hd hf kk
set_option maxRecDepth 100000 in
theorem tf_X4_46 : Cond.fieldLink RX4 46 "TramWires$Rehearsal" (TX4 1).2.1 (TX4 1).2.2.1 ∈ TB := tb_m (List.mem_of_getElem? (i := 340) (by decide +kernel)) rfl
theorem fg_X4_46 {l : Launch} {w : Wp} {L : Ly} {E : Cx} {M : Mm} {lv : List (Nat × Value)} {pc : Nat} {st : List Value} {cc : ByteArray} {maxL n a : Nat} (cx : Ok w L E RX4 cc maxL n) (hd : decode cc pc = .ok (.getfield 46, 3)) (h : LRehearsal w L a) (kk : G l w L E M lv (pc + 3) (.int (M a 1) :: st)) : G l w L E M lv pc (.ref a :: st) := g_getI cx (ci := 4) rfl in_X4 1 (by decide) tf_X4_46 rfl (LRehearsal_o h) (Nat.le_of_ble_eq_true rfl) rfl hd kk
theorem fp_X4_46 {l : Launch} {w : Wp} {L : Ly} {E : Cx} {M : Mm} {lv : List (Nat × Value)} {pc : Nat} {st : List Value} {cc : ByteArray} {maxL n a : Nat} (cx : Ok w L E RX4 cc maxL n) {x : Int32} {A : Mm → OR} {R0 : Int32 × Mm} (hd : decode cc pc = .ok (.putfield 46, 3)) (h : LRehearsal w L a) (hf : bnd (mst M a 1 x) A = some R0) (kk : ∀ M1 : Mm, A M1 = some R0 → G l w L E M1 lv (pc + 3) st) : G l w L E M lv pc (.int x :: .ref a :: st) := g_putI cx (ci := 4) rfl in_X4 tyX4 tyX4_ok nmX4 1 (by decide) tf_X4_46 rfl rfl (by decide +kernel) (LRehearsal_o h) (Nat.le_of_ble_eq_true rfl) rfl hd hf kk
set_option maxRecDepth 100000 in
theorem tf_X4_49 : Cond.fieldLink RX4 49 "TramWires$Rehearsal" (TX4 2).2.1 (TX4 2).2.2.1 ∈ TB := tb_m (List.mem_of_getElem? (i := 342) (by decide +kernel)) rfl
theorem fg_X4_49 {l : Launch} {w : Wp} {L : Ly} {E : Cx} {M : Mm} {lv : List (Nat × Value)} {pc : Nat} {st : List Value} {cc : ByteArray} {maxL n a : Nat} (cx : Ok w L E RX4 cc maxL n) (hd : decode cc pc = .ok (.getfield 49, 3)) (h : LRehearsal w L a) (kk : G l w L E M lv (pc + 3) (.int (M a 2) :: st)) : G l w L E M lv pc (.ref a :: st) := g_getI cx (ci := 4) rfl in_X4 2 (by decide) tf_X4_49 rfl (LRehearsal_o h) (Nat.le_of_ble_eq_true rfl) rfl hd kk
theorem fp_X4_49 {l : Launch} {w : Wp} {L : Ly} {E : Cx} {M : Mm} {lv : List (Nat × Value)} {pc : Nat} {st : List Value} {cc : ByteArray} {maxL n a : Nat} (cx : Ok w L E RX4 cc maxL n) {x : Int32} {A : Mm → OR} {R0 : Int32 × Mm} (hd : decode cc pc = .ok (.putfield 49, 3)) (h : LRehearsal w L a) (hf : bnd (mst M a 2 x) A = some R0) (kk : ∀ M1 : Mm, A M1 = some R0 → G l w L E M1 lv (pc + 3) st) : G l w L E M lv pc (.int x :: .ref a :: st) := g_putI cx (ci := 4) rfl in_X4 tyX4 tyX4_ok nmX4 2 (by decide) tf_X4_49 rfl rfl (by decide +kernel) (LRehearsal_o h) (Nat.le_of_ble_eq_true rfl) rfl hd hf kk
set_option maxRecDepth 100000 in
theorem tf_X4_52 : Cond.fieldLink RX4 52 "TramWires$Text" (TX6 0).2.1 (TX6 0).2.2.1 ∈ TB := tb_m (List.mem_of_getElem? (i := 287) (by decide +kernel)) rfl
theorem fg_X4_52 {l : Launch} {w : Wp} {L : Ly} {E : Cx} {M : Mm} {lv : List (Nat × Value)} {pc : Nat} {st : List Value} {cc : ByteArray} {maxL n a : Nat} (cx : Ok w L E RX4 cc maxL n) (hd : decode cc pc = .ok (.getfield 52, 3)) (h : LText w L a) (kk : G l w L E M lv (pc + 3) (.int (M a 0) :: st)) : G l w L E M lv pc (.ref a :: st) := g_getI cx (ci := 6) rfl in_X6 0 (by decide) tf_X4_52 rfl (LText_o h) (Nat.le_of_ble_eq_true rfl) rfl hd kk
theorem fp_X4_52 {l : Launch} {w : Wp} {L : Ly} {E : Cx} {M : Mm} {lv : List (Nat × Value)} {pc : Nat} {st : List Value} {cc : ByteArray} {maxL n a : Nat} (cx : Ok w L E RX4 cc maxL n) {x : Int32} {A : Mm → OR} {R0 : Int32 × Mm} (hd : decode cc pc = .ok (.putfield 52, 3)) (h : LText w L a) (hf : bnd (mst M a 0 x) A = some R0) (kk : ∀ M1 : Mm, A M1 = some R0 → G l w L E M1 lv (pc + 3) st) : G l w L E M lv pc (.int x :: .ref a :: st) := g_putI cx (ci := 6) rfl in_X6 tyX6 tyX6_ok nmX6 0 (by decide) tf_X4_52 rfl rfl (by decide +kernel) (LText_o h) (Nat.le_of_ble_eq_true rfl) rfl hd hf kk
set_option maxRecDepth 100000 in
theorem tf_X4_61 : Cond.fieldLink RX4 61 "TramWires$Text" (TX6 2).2.1 (TX6 2).2.2.1 ∈ TB := tb_m (List.mem_of_getElem? (i := 292) (by decide +kernel)) rfl
theorem fg_X4_61 {l : Launch} {w : Wp} {L : Ly} {E : Cx} {M : Mm} {lv : List (Nat × Value)} {pc : Nat} {st : List Value} {cc : ByteArray} {maxL n a : Nat} (cx : Ok w L E RX4 cc maxL n) (hd : decode cc pc = .ok (.getfield 61, 3)) (h : LText w L a) (kk : G l w L E M lv (pc + 3) (.int (M a 2) :: st)) : G l w L E M lv pc (.ref a :: st) := g_getI cx (ci := 6) rfl in_X6 2 (by decide) tf_X4_61 rfl (LText_o h) (Nat.le_of_ble_eq_true rfl) rfl hd kk
theorem fp_X4_61 {l : Launch} {w : Wp} {L : Ly} {E : Cx} {M : Mm} {lv : List (Nat × Value)} {pc : Nat} {st : List Value} {cc : ByteArray} {maxL n a : Nat} (cx : Ok w L E RX4 cc maxL n) {x : Int32} {A : Mm → OR} {R0 : Int32 × Mm} (hd : decode cc pc = .ok (.putfield 61, 3)) (h : LText w L a) (hf : bnd (mst M a 2 x) A = some R0) (kk : ∀ M1 : Mm, A M1 = some R0 → G l w L E M1 lv (pc + 3) st) : G l w L E M lv pc (.int x :: .ref a :: st) := g_putI cx (ci := 6) rfl in_X6 tyX6 tyX6_ok nmX6 2 (by decide) tf_X4_61 rfl rfl (by decide +kernel) (LText_o h) (Nat.le_of_ble_eq_true rfl) rfl hd hf kk
set_option maxRecDepth 100000 in
theorem tf_X4_64 : Cond.fieldLink RX4 64 "TramWires$Text" (TX6 3).2.1 (TX6 3).2.2.1 ∈ TB := tb_m (List.mem_of_getElem? (i := 294) (by decide +kernel)) rfl
theorem fg_X4_64 {l : Launch} {w : Wp} {L : Ly} {E : Cx} {M : Mm} {lv : List (Nat × Value)} {pc : Nat} {st : List Value} {cc : ByteArray} {maxL n a : Nat} (cx : Ok w L E RX4 cc maxL n) (hd : decode cc pc = .ok (.getfield 64, 3)) (h : LText w L a) (kk : G l w L E M lv (pc + 3) (.int (M a 3) :: st)) : G l w L E M lv pc (.ref a :: st) := g_getI cx (ci := 6) rfl in_X6 3 (by decide) tf_X4_64 rfl (LText_o h) (Nat.le_of_ble_eq_true rfl) rfl hd kk
theorem fp_X4_64 {l : Launch} {w : Wp} {L : Ly} {E : Cx} {M : Mm} {lv : List (Nat × Value)} {pc : Nat} {st : List Value} {cc : ByteArray} {maxL n a : Nat} (cx : Ok w L E RX4 cc maxL n) {x : Int32} {A : Mm → OR} {R0 : Int32 × Mm} (hd : decode cc pc = .ok (.putfield 64, 3)) (h : LText w L a) (hf : bnd (mst M a 3 x) A = some R0) (kk : ∀ M1 : Mm, A M1 = some R0 → G l w L E M1 lv (pc + 3) st) : G l w L E M lv pc (.int x :: .ref a :: st) := g_putI cx (ci := 6) rfl in_X6 tyX6 tyX6_ok nmX6 3 (by decide) tf_X4_64 rfl rfl (by decide +kernel) (LText_o h) (Nat.le_of_ble_eq_true rfl) rfl hd hf kk
set_option maxRecDepth 100000 in
theorem tf_X4_71 : Cond.fieldLink RX4 71 "TramWires$Text" (TX6 4).2.1 (TX6 4).2.2.1 ∈ TB := tb_m (List.mem_of_getElem? (i := 296) (by decide +kernel)) rfl
theorem fg_X4_71 {l : Launch} {w : Wp} {L : Ly} {E : Cx} {M : Mm} {lv : List (Nat × Value)} {pc : Nat} {st : List Value} {cc : ByteArray} {maxL n a : Nat} (cx : Ok w L E RX4 cc maxL n) (hd : decode cc pc = .ok (.getfield 71, 3)) (h : LText w L a) (kk : G l w L E M lv (pc + 3) (.int (M a 4) :: st)) : G l w L E M lv pc (.ref a :: st) := g_getI cx (ci := 6) rfl in_X6 4 (by decide) tf_X4_71 rfl (LText_o h) (Nat.le_of_ble_eq_true rfl) rfl hd kk
theorem fp_X4_71 {l : Launch} {w : Wp} {L : Ly} {E : Cx} {M : Mm} {lv : List (Nat × Value)} {pc : Nat} {st : List Value} {cc : ByteArray} {maxL n a : Nat} (cx : Ok w L E RX4 cc maxL n) {x : Int32} {A : Mm → OR} {R0 : Int32 × Mm} (hd : decode cc pc = .ok (.putfield 71, 3)) (h : LText w L a) (hf : bnd (mst M a 4 x) A = some R0) (kk : ∀ M1 : Mm, A M1 = some R0 → G l w L E M1 lv (pc + 3) st) : G l w L E M lv pc (.int x :: .ref a :: st) := g_putI cx (ci := 6) rfl in_X6 tyX6 tyX6_ok nmX6 4 (by decide) tf_X4_71 rfl rfl (by decide +kernel) (LText_o h) (Nat.le_of_ble_eq_true rfl) rfl hd hf kk
set_option maxRecDepth 100000 in
theorem tf_X5_9 : Cond.fieldLink RX5 9 "TramWires$Service" (TX5 1).2.1 (TX5 1).2.2.1 ∈ TB := tb_m (List.mem_of_getElem? (i := 153) (by decide +kernel)) rfl
theorem fg_X5_9 {l : Launch} {w : Wp} {L : Ly} {E : Cx} {M : Mm} {lv : List (Nat × Value)} {pc : Nat} {st : List Value} {cc : ByteArray} {maxL n a : Nat} (cx : Ok w L E RX5 cc maxL n) (hd : decode cc pc = .ok (.getfield 9, 3)) (h : LService w L a) (kk : G l w L E M lv (pc + 3) (.int (M a 1) :: st)) : G l w L E M lv pc (.ref a :: st) := g_getI cx (ci := 5) rfl in_X5 1 (by decide) tf_X5_9 rfl (LService_o h) (Nat.le_of_ble_eq_true rfl) rfl hd kk
theorem fp_X5_9 {l : Launch} {w : Wp} {L : Ly} {E : Cx} {M : Mm} {lv : List (Nat × Value)} {pc : Nat} {st : List Value} {cc : ByteArray} {maxL n a : Nat} (cx : Ok w L E RX5 cc maxL n) {x : Int32} {A : Mm → OR} {R0 : Int32 × Mm} (hd : decode cc pc = .ok (.putfield 9, 3)) (h : LService w L a) (hf : bnd (mst M a 1 x) A = some R0) (kk : ∀ M1 : Mm, A M1 = some R0 → G l w L E M1 lv (pc + 3) st) : G l w L E M lv pc (.int x :: .ref a :: st) := g_putI cx (ci := 5) rfl in_X5 tyX5 tyX5_ok nmX5 1 (by decide) tf_X5_9 rfl rfl (by decide +kernel) (LService_o h) (Nat.le_of_ble_eq_true rfl) rfl hd hf kk
set_option maxRecDepth 100000 in
theorem tf_X5_15 : Cond.fieldLink RX5 15 "TramWires$Service" (TX5 3).2.1 (TX5 3).2.2.1 ∈ TB := tb_m (List.mem_of_getElem? (i := 157) (by decide +kernel)) rfl
theorem fg_X5_15 {l : Launch} {w : Wp} {L : Ly} {E : Cx} {M : Mm} {lv : List (Nat × Value)} {pc : Nat} {st : List Value} {cc : ByteArray} {maxL n a : Nat} (cx : Ok w L E RX5 cc maxL n) (hd : decode cc pc = .ok (.getfield 15, 3)) (h : LService w L a) (kk : G l w L E M lv (pc + 3) (.ref (a + 1) :: st)) : G l w L E M lv pc (.ref a :: st) := g_getR cx (ci := 5) rfl in_X5 3 (by decide) tf_X5_15 rfl (LService_o h) (Nat.le_of_ble_eq_true rfl) rfl hd kk
set_option maxRecDepth 100000 in
theorem tf_X5_19 : Cond.fieldLink RX5 19 "TramWires$Service" (TX5 4).2.1 (TX5 4).2.2.1 ∈ TB := tb_m (List.mem_of_getElem? (i := 160) (by decide +kernel)) rfl
theorem fg_X5_19 {l : Launch} {w : Wp} {L : Ly} {E : Cx} {M : Mm} {lv : List (Nat × Value)} {pc : Nat} {st : List Value} {cc : ByteArray} {maxL n a : Nat} (cx : Ok w L E RX5 cc maxL n) (hd : decode cc pc = .ok (.getfield 19, 3)) (h : LService w L a) (kk : G l w L E M lv (pc + 3) (.ref (a + 2) :: st)) : G l w L E M lv pc (.ref a :: st) := g_getR cx (ci := 5) rfl in_X5 4 (by decide) tf_X5_19 rfl (LService_o h) (Nat.le_of_ble_eq_true rfl) rfl hd kk
set_option maxRecDepth 100000 in
theorem tf_X5_23 : Cond.fieldLink RX5 23 "TramWires$Service" (TX5 5).2.1 (TX5 5).2.2.1 ∈ TB := tb_m (List.mem_of_getElem? (i := 164) (by decide +kernel)) rfl
theorem fg_X5_23 {l : Launch} {w : Wp} {L : Ly} {E : Cx} {M : Mm} {lv : List (Nat × Value)} {pc : Nat} {st : List Value} {cc : ByteArray} {maxL n a : Nat} (cx : Ok w L E RX5 cc maxL n) (hd : decode cc pc = .ok (.getfield 23, 3)) (h : LService w L a) (kk : G l w L E M lv (pc + 3) (.ref (a + 3) :: st)) : G l w L E M lv pc (.ref a :: st) := g_getR cx (ci := 5) rfl in_X5 5 (by decide) tf_X5_23 rfl (LService_o h) (Nat.le_of_ble_eq_true rfl) rfl hd kk
set_option maxRecDepth 100000 in
theorem tf_X5_26 : Cond.fieldLink RX5 26 "TramWires$Service" (TX5 6).2.1 (TX5 6).2.2.1 ∈ TB := tb_m (List.mem_of_getElem? (i := 168) (by decide +kernel)) rfl
theorem fg_X5_26 {l : Launch} {w : Wp} {L : Ly} {E : Cx} {M : Mm} {lv : List (Nat × Value)} {pc : Nat} {st : List Value} {cc : ByteArray} {maxL n a : Nat} (cx : Ok w L E RX5 cc maxL n) (hd : decode cc pc = .ok (.getfield 26, 3)) (h : LService w L a) (kk : G l w L E M lv (pc + 3) (.ref (a + 4) :: st)) : G l w L E M lv pc (.ref a :: st) := g_getR cx (ci := 5) rfl in_X5 6 (by decide) tf_X5_26 rfl (LService_o h) (Nat.le_of_ble_eq_true rfl) rfl hd kk
set_option maxRecDepth 100000 in
theorem tf_X5_29 : Cond.fieldLink RX5 29 "TramWires$Service" (TX5 7).2.1 (TX5 7).2.2.1 ∈ TB := tb_m (List.mem_of_getElem? (i := 171) (by decide +kernel)) rfl
theorem fg_X5_29 {l : Launch} {w : Wp} {L : Ly} {E : Cx} {M : Mm} {lv : List (Nat × Value)} {pc : Nat} {st : List Value} {cc : ByteArray} {maxL n a : Nat} (cx : Ok w L E RX5 cc maxL n) (hd : decode cc pc = .ok (.getfield 29, 3)) (h : LService w L a) (kk : G l w L E M lv (pc + 3) (.ref (a + 5) :: st)) : G l w L E M lv pc (.ref a :: st) := g_getR cx (ci := 5) rfl in_X5 7 (by decide) tf_X5_29 rfl (LService_o h) (Nat.le_of_ble_eq_true rfl) rfl hd kk
set_option maxRecDepth 100000 in
theorem tf_X5_32 : Cond.fieldLink RX5 32 "TramWires$Service" (TX5 8).2.1 (TX5 8).2.2.1 ∈ TB := tb_m (List.mem_of_getElem? (i := 173) (by decide +kernel)) rfl
theorem fg_X5_32 {l : Launch} {w : Wp} {L : Ly} {E : Cx} {M : Mm} {lv : List (Nat × Value)} {pc : Nat} {st : List Value} {cc : ByteArray} {maxL n a : Nat} (cx : Ok w L E RX5 cc maxL n) (hd : decode cc pc = .ok (.getfield 32, 3)) (h : LService w L a) (kk : G l w L E M lv (pc + 3) (.ref (a + 6) :: st)) : G l w L E M lv pc (.ref a :: st) := g_getR cx (ci := 5) rfl in_X5 8 (by decide) tf_X5_32 rfl (LService_o h) (Nat.le_of_ble_eq_true rfl) rfl hd kk
set_option maxRecDepth 100000 in
theorem tf_X5_35 : Cond.fieldLink RX5 35 "TramWires$Service" (TX5 9).2.1 (TX5 9).2.2.1 ∈ TB := tb_m (List.mem_of_getElem? (i := 175) (by decide +kernel)) rfl
theorem fg_X5_35 {l : Launch} {w : Wp} {L : Ly} {E : Cx} {M : Mm} {lv : List (Nat × Value)} {pc : Nat} {st : List Value} {cc : ByteArray} {maxL n a : Nat} (cx : Ok w L E RX5 cc maxL n) (hd : decode cc pc = .ok (.getfield 35, 3)) (h : LService w L a) (kk : G l w L E M lv (pc + 3) (.ref (a + 7) :: st)) : G l w L E M lv pc (.ref a :: st) := g_getR cx (ci := 5) rfl in_X5 9 (by decide) tf_X5_35 rfl (LService_o h) (Nat.le_of_ble_eq_true rfl) rfl hd kk
set_option maxRecDepth 100000 in
theorem tf_X5_38 : Cond.fieldLink RX5 38 "TramWires$Service" (TX5 0).2.1 (TX5 0).2.2.1 ∈ TB := tb_m (List.mem_of_getElem? (i := 150) (by decide +kernel)) rfl
theorem fg_X5_38 {l : Launch} {w : Wp} {L : Ly} {E : Cx} {M : Mm} {lv : List (Nat × Value)} {pc : Nat} {st : List Value} {cc : ByteArray} {maxL n a : Nat} (cx : Ok w L E RX5 cc maxL n) (hd : decode cc pc = .ok (.getfield 38, 3)) (h : LService w L a) (kk : G l w L E M lv (pc + 3) (.int (M a 0) :: st)) : G l w L E M lv pc (.ref a :: st) := g_getI cx (ci := 5) rfl in_X5 0 (by decide) tf_X5_38 rfl (LService_o h) (Nat.le_of_ble_eq_true rfl) rfl hd kk
theorem fp_X5_38 {l : Launch} {w : Wp} {L : Ly} {E : Cx} {M : Mm} {lv : List (Nat × Value)} {pc : Nat} {st : List Value} {cc : ByteArray} {maxL n a : Nat} (cx : Ok w L E RX5 cc maxL n) {x : Int32} {A : Mm → OR} {R0 : Int32 × Mm} (hd : decode cc pc = .ok (.putfield 38, 3)) (h : LService w L a) (hf : bnd (mst M a 0 x) A = some R0) (kk : ∀ M1 : Mm, A M1 = some R0 → G l w L E M1 lv (pc + 3) st) : G l w L E M lv pc (.int x :: .ref a :: st) := g_putI cx (ci := 5) rfl in_X5 tyX5 tyX5_ok nmX5 0 (by decide) tf_X5_38 rfl rfl (by decide +kernel) (LService_o h) (Nat.le_of_ble_eq_true rfl) rfl hd hf kk
set_option maxRecDepth 100000 in
theorem tf_X5_41 : Cond.fieldLink RX5 41 "TramWires$Service" (TX5 2).2.1 (TX5 2).2.2.1 ∈ TB := tb_m (List.mem_of_getElem? (i := 155) (by decide +kernel)) rfl
theorem fg_X5_41 {l : Launch} {w : Wp} {L : Ly} {E : Cx} {M : Mm} {lv : List (Nat × Value)} {pc : Nat} {st : List Value} {cc : ByteArray} {maxL n a : Nat} (cx : Ok w L E RX5 cc maxL n) (hd : decode cc pc = .ok (.getfield 41, 3)) (h : LService w L a) (kk : G l w L E M lv (pc + 3) (.int (M a 2) :: st)) : G l w L E M lv pc (.ref a :: st) := g_getI cx (ci := 5) rfl in_X5 2 (by decide) tf_X5_41 rfl (LService_o h) (Nat.le_of_ble_eq_true rfl) rfl hd kk
theorem fp_X5_41 {l : Launch} {w : Wp} {L : Ly} {E : Cx} {M : Mm} {lv : List (Nat × Value)} {pc : Nat} {st : List Value} {cc : ByteArray} {maxL n a : Nat} (cx : Ok w L E RX5 cc maxL n) {x : Int32} {A : Mm → OR} {R0 : Int32 × Mm} (hd : decode cc pc = .ok (.putfield 41, 3)) (h : LService w L a) (hf : bnd (mst M a 2 x) A = some R0) (kk : ∀ M1 : Mm, A M1 = some R0 → G l w L E M1 lv (pc + 3) st) : G l w L E M lv pc (.int x :: .ref a :: st) := g_putI cx (ci := 5) rfl in_X5 tyX5 tyX5_ok nmX5 2 (by decide) tf_X5_41 rfl rfl (by decide +kernel) (LService_o h) (Nat.le_of_ble_eq_true rfl) rfl hd hf kk
set_option maxRecDepth 100000 in
theorem tf_X6_9 : Cond.fieldLink RX6 9 "TramWires$Text" (TX6 1).2.1 (TX6 1).2.2.1 ∈ TB := tb_m (List.mem_of_getElem? (i := 289) (by decide +kernel)) rfl
theorem fg_X6_9 {l : Launch} {w : Wp} {L : Ly} {E : Cx} {M : Mm} {lv : List (Nat × Value)} {pc : Nat} {st : List Value} {cc : ByteArray} {maxL n a : Nat} (cx : Ok w L E RX6 cc maxL n) (hd : decode cc pc = .ok (.getfield 9, 3)) (h : LText w L a) (kk : G l w L E M lv (pc + 3) (.ref (a + 1) :: st)) : G l w L E M lv pc (.ref a :: st) := g_getR cx (ci := 6) rfl in_X6 1 (by decide) tf_X6_9 rfl (LText_o h) (Nat.le_of_ble_eq_true rfl) rfl hd kk
set_option maxRecDepth 100000 in
theorem tf_X6_22 : Cond.fieldLink RX6 22 "TramWires$Text" (TX6 2).2.1 (TX6 2).2.2.1 ∈ TB := tb_m (List.mem_of_getElem? (i := 291) (by decide +kernel)) rfl
theorem fg_X6_22 {l : Launch} {w : Wp} {L : Ly} {E : Cx} {M : Mm} {lv : List (Nat × Value)} {pc : Nat} {st : List Value} {cc : ByteArray} {maxL n a : Nat} (cx : Ok w L E RX6 cc maxL n) (hd : decode cc pc = .ok (.getfield 22, 3)) (h : LText w L a) (kk : G l w L E M lv (pc + 3) (.int (M a 2) :: st)) : G l w L E M lv pc (.ref a :: st) := g_getI cx (ci := 6) rfl in_X6 2 (by decide) tf_X6_22 rfl (LText_o h) (Nat.le_of_ble_eq_true rfl) rfl hd kk
theorem fp_X6_22 {l : Launch} {w : Wp} {L : Ly} {E : Cx} {M : Mm} {lv : List (Nat × Value)} {pc : Nat} {st : List Value} {cc : ByteArray} {maxL n a : Nat} (cx : Ok w L E RX6 cc maxL n) {x : Int32} {A : Mm → OR} {R0 : Int32 × Mm} (hd : decode cc pc = .ok (.putfield 22, 3)) (h : LText w L a) (hf : bnd (mst M a 2 x) A = some R0) (kk : ∀ M1 : Mm, A M1 = some R0 → G l w L E M1 lv (pc + 3) st) : G l w L E M lv pc (.int x :: .ref a :: st) := g_putI cx (ci := 6) rfl in_X6 tyX6 tyX6_ok nmX6 2 (by decide) tf_X6_22 rfl rfl (by decide +kernel) (LText_o h) (Nat.le_of_ble_eq_true rfl) rfl hd hf kk
set_option maxRecDepth 100000 in
theorem tf_X6_29 : Cond.fieldLink RX6 29 "TramWires$Text" (TX6 3).2.1 (TX6 3).2.2.1 ∈ TB := tb_m (List.mem_of_getElem? (i := 293) (by decide +kernel)) rfl
theorem fg_X6_29 {l : Launch} {w : Wp} {L : Ly} {E : Cx} {M : Mm} {lv : List (Nat × Value)} {pc : Nat} {st : List Value} {cc : ByteArray} {maxL n a : Nat} (cx : Ok w L E RX6 cc maxL n) (hd : decode cc pc = .ok (.getfield 29, 3)) (h : LText w L a) (kk : G l w L E M lv (pc + 3) (.int (M a 3) :: st)) : G l w L E M lv pc (.ref a :: st) := g_getI cx (ci := 6) rfl in_X6 3 (by decide) tf_X6_29 rfl (LText_o h) (Nat.le_of_ble_eq_true rfl) rfl hd kk
theorem fp_X6_29 {l : Launch} {w : Wp} {L : Ly} {E : Cx} {M : Mm} {lv : List (Nat × Value)} {pc : Nat} {st : List Value} {cc : ByteArray} {maxL n a : Nat} (cx : Ok w L E RX6 cc maxL n) {x : Int32} {A : Mm → OR} {R0 : Int32 × Mm} (hd : decode cc pc = .ok (.putfield 29, 3)) (h : LText w L a) (hf : bnd (mst M a 3 x) A = some R0) (kk : ∀ M1 : Mm, A M1 = some R0 → G l w L E M1 lv (pc + 3) st) : G l w L E M lv pc (.int x :: .ref a :: st) := g_putI cx (ci := 6) rfl in_X6 tyX6 tyX6_ok nmX6 3 (by decide) tf_X6_29 rfl rfl (by decide +kernel) (LText_o h) (Nat.le_of_ble_eq_true rfl) rfl hd hf kk
set_option maxRecDepth 100000 in
theorem tf_X6_32 : Cond.fieldLink RX6 32 "TramWires$Text" (TX6 4).2.1 (TX6 4).2.2.1 ∈ TB := tb_m (List.mem_of_getElem? (i := 295) (by decide +kernel)) rfl
theorem fg_X6_32 {l : Launch} {w : Wp} {L : Ly} {E : Cx} {M : Mm} {lv : List (Nat × Value)} {pc : Nat} {st : List Value} {cc : ByteArray} {maxL n a : Nat} (cx : Ok w L E RX6 cc maxL n) (hd : decode cc pc = .ok (.getfield 32, 3)) (h : LText w L a) (kk : G l w L E M lv (pc + 3) (.int (M a 4) :: st)) : G l w L E M lv pc (.ref a :: st) := g_getI cx (ci := 6) rfl in_X6 4 (by decide) tf_X6_32 rfl (LText_o h) (Nat.le_of_ble_eq_true rfl) rfl hd kk
theorem fp_X6_32 {l : Launch} {w : Wp} {L : Ly} {E : Cx} {M : Mm} {lv : List (Nat × Value)} {pc : Nat} {st : List Value} {cc : ByteArray} {maxL n a : Nat} (cx : Ok w L E RX6 cc maxL n) {x : Int32} {A : Mm → OR} {R0 : Int32 × Mm} (hd : decode cc pc = .ok (.putfield 32, 3)) (h : LText w L a) (hf : bnd (mst M a 4 x) A = some R0) (kk : ∀ M1 : Mm, A M1 = some R0 → G l w L E M1 lv (pc + 3) st) : G l w L E M lv pc (.int x :: .ref a :: st) := g_putI cx (ci := 6) rfl in_X6 tyX6 tyX6_ok nmX6 4 (by decide) tf_X6_32 rfl rfl (by decide +kernel) (LText_o h) (Nat.le_of_ble_eq_true rfl) rfl hd hf kk
set_option maxRecDepth 100000 in
theorem tf_X6_35 : Cond.fieldLink RX6 35 "TramWires$Text" (TX6 0).2.1 (TX6 0).2.2.1 ∈ TB := tb_m (List.mem_of_getElem? (i := 286) (by decide +kernel)) rfl
theorem fg_X6_35 {l : Launch} {w : Wp} {L : Ly} {E : Cx} {M : Mm} {lv : List (Nat × Value)} {pc : Nat} {st : List Value} {cc : ByteArray} {maxL n a : Nat} (cx : Ok w L E RX6 cc maxL n) (hd : decode cc pc = .ok (.getfield 35, 3)) (h : LText w L a) (kk : G l w L E M lv (pc + 3) (.int (M a 0) :: st)) : G l w L E M lv pc (.ref a :: st) := g_getI cx (ci := 6) rfl in_X6 0 (by decide) tf_X6_35 rfl (LText_o h) (Nat.le_of_ble_eq_true rfl) rfl hd kk
theorem fp_X6_35 {l : Launch} {w : Wp} {L : Ly} {E : Cx} {M : Mm} {lv : List (Nat × Value)} {pc : Nat} {st : List Value} {cc : ByteArray} {maxL n a : Nat} (cx : Ok w L E RX6 cc maxL n) {x : Int32} {A : Mm → OR} {R0 : Int32 × Mm} (hd : decode cc pc = .ok (.putfield 35, 3)) (h : LText w L a) (hf : bnd (mst M a 0 x) A = some R0) (kk : ∀ M1 : Mm, A M1 = some R0 → G l w L E M1 lv (pc + 3) st) : G l w L E M lv pc (.int x :: .ref a :: st) := g_putI cx (ci := 6) rfl in_X6 tyX6 tyX6_ok nmX6 0 (by decide) tf_X6_35 rfl rfl (by decide +kernel) (LText_o h) (Nat.le_of_ble_eq_true rfl) rfl hd hf kk
set_option maxRecDepth 100000 in
theorem tf_X7_12 : Cond.fieldLink RX7 12 "TramWires$Wires" (TX7 0).2.1 (TX7 0).2.2.1 ∈ TB := tb_m (List.mem_of_getElem? (i := 242) (by decide +kernel)) rfl
theorem fg_X7_12 {l : Launch} {w : Wp} {L : Ly} {E : Cx} {M : Mm} {lv : List (Nat × Value)} {pc : Nat} {st : List Value} {cc : ByteArray} {maxL n a : Nat} (cx : Ok w L E RX7 cc maxL n) (hd : decode cc pc = .ok (.getfield 12, 3)) (h : LWires w L a) (kk : G l w L E M lv (pc + 3) (.ref (a + 1) :: st)) : G l w L E M lv pc (.ref a :: st) := g_getR cx (ci := 7) rfl in_X7 0 (by decide) tf_X7_12 rfl (LWires_o h) (Nat.le_of_ble_eq_true rfl) rfl hd kk
set_option maxRecDepth 100000 in
theorem tf_X7_21 : Cond.fieldLink RX7 21 "TramWires$Wires" (TX7 1).2.1 (TX7 1).2.2.1 ∈ TB := tb_m (List.mem_of_getElem? (i := 245) (by decide +kernel)) rfl
theorem fg_X7_21 {l : Launch} {w : Wp} {L : Ly} {E : Cx} {M : Mm} {lv : List (Nat × Value)} {pc : Nat} {st : List Value} {cc : ByteArray} {maxL n a : Nat} (cx : Ok w L E RX7 cc maxL n) (hd : decode cc pc = .ok (.getfield 21, 3)) (h : LWires w L a) (kk : G l w L E M lv (pc + 3) (.ref (a + 8) :: st)) : G l w L E M lv pc (.ref a :: st) := g_getR cx (ci := 7) rfl in_X7 1 (by decide) tf_X7_21 rfl (LWires_o h) (Nat.le_of_ble_eq_true rfl) rfl hd kk
set_option maxRecDepth 100000 in
theorem tf_X7_28 : Cond.fieldLink RX7 28 "TramWires$Wires" (TX7 2).2.1 (TX7 2).2.2.1 ∈ TB := tb_m (List.mem_of_getElem? (i := 248) (by decide +kernel)) rfl
theorem fg_X7_28 {l : Launch} {w : Wp} {L : Ly} {E : Cx} {M : Mm} {lv : List (Nat × Value)} {pc : Nat} {st : List Value} {cc : ByteArray} {maxL n a : Nat} (cx : Ok w L E RX7 cc maxL n) (hd : decode cc pc = .ok (.getfield 28, 3)) (h : LWires w L a) (kk : G l w L E M lv (pc + 3) (.ref (a + 16) :: st)) : G l w L E M lv pc (.ref a :: st) := g_getR cx (ci := 7) rfl in_X7 2 (by decide) tf_X7_28 rfl (LWires_o h) (Nat.le_of_ble_eq_true rfl) rfl hd kk
set_option maxRecDepth 100000 in
theorem tf_X7_32 : Cond.fieldLink RX7 32 "TramWires$Wires" (TX7 3).2.1 (TX7 3).2.2.1 ∈ TB := tb_m (List.mem_of_getElem? (i := 250) (by decide +kernel)) rfl
theorem fg_X7_32 {l : Launch} {w : Wp} {L : Ly} {E : Cx} {M : Mm} {lv : List (Nat × Value)} {pc : Nat} {st : List Value} {cc : ByteArray} {maxL n a : Nat} (cx : Ok w L E RX7 cc maxL n) (hd : decode cc pc = .ok (.getfield 32, 3)) (h : LWires w L a) (kk : G l w L E M lv (pc + 3) (.ref (a + 24) :: st)) : G l w L E M lv pc (.ref a :: st) := g_getR cx (ci := 7) rfl in_X7 3 (by decide) tf_X7_32 rfl (LWires_o h) (Nat.le_of_ble_eq_true rfl) rfl hd kk
set_option maxRecDepth 100000 in
theorem tf_X7_35 : Cond.fieldLink RX7 35 "TramWires$Wires" (TX7 4).2.1 (TX7 4).2.2.1 ∈ TB := tb_m (List.mem_of_getElem? (i := 251) (by decide +kernel)) rfl
theorem fg_X7_35 {l : Launch} {w : Wp} {L : Ly} {E : Cx} {M : Mm} {lv : List (Nat × Value)} {pc : Nat} {st : List Value} {cc : ByteArray} {maxL n a : Nat} (cx : Ok w L E RX7 cc maxL n) (hd : decode cc pc = .ok (.getfield 35, 3)) (h : LWires w L a) (kk : G l w L E M lv (pc + 3) (.ref (a + 31) :: st)) : G l w L E M lv pc (.ref a :: st) := g_getR cx (ci := 7) rfl in_X7 4 (by decide) tf_X7_35 rfl (LWires_o h) (Nat.le_of_ble_eq_true rfl) rfl hd kk
set_option maxRecDepth 100000 in
theorem tf_X7_49 : Cond.fieldLink RX7 49 "TramWires$Net" (TX2 0).2.1 (TX2 0).2.2.1 ∈ TB := tb_m (List.mem_of_getElem? (i := 102) (by decide +kernel)) rfl
theorem fg_X7_49 {l : Launch} {w : Wp} {L : Ly} {E : Cx} {M : Mm} {lv : List (Nat × Value)} {pc : Nat} {st : List Value} {cc : ByteArray} {maxL n a : Nat} (cx : Ok w L E RX7 cc maxL n) (hd : decode cc pc = .ok (.getfield 49, 3)) (h : LNet w L a) (kk : G l w L E M lv (pc + 3) (.int (M a 0) :: st)) : G l w L E M lv pc (.ref a :: st) := g_getI cx (ci := 2) rfl in_X2 0 (by decide) tf_X7_49 rfl (LNet_o h) (Nat.le_of_ble_eq_true rfl) rfl hd kk
theorem fp_X7_49 {l : Launch} {w : Wp} {L : Ly} {E : Cx} {M : Mm} {lv : List (Nat × Value)} {pc : Nat} {st : List Value} {cc : ByteArray} {maxL n a : Nat} (cx : Ok w L E RX7 cc maxL n) {x : Int32} {A : Mm → OR} {R0 : Int32 × Mm} (hd : decode cc pc = .ok (.putfield 49, 3)) (h : LNet w L a) (hf : bnd (mst M a 0 x) A = some R0) (kk : ∀ M1 : Mm, A M1 = some R0 → G l w L E M1 lv (pc + 3) st) : G l w L E M lv pc (.int x :: .ref a :: st) := g_putI cx (ci := 2) rfl in_X2 tyX2 tyX2_ok nmX2 0 (by decide) tf_X7_49 rfl rfl (by decide +kernel) (LNet_o h) (Nat.le_of_ble_eq_true rfl) rfl hd hf kk
set_option maxRecDepth 100000 in
theorem tf_X7_57 : Cond.fieldLink RX7 57 "TramWires$Net" (TX2 1).2.1 (TX2 1).2.2.1 ∈ TB := tb_m (List.mem_of_getElem? (i := 106) (by decide +kernel)) rfl
theorem fg_X7_57 {l : Launch} {w : Wp} {L : Ly} {E : Cx} {M : Mm} {lv : List (Nat × Value)} {pc : Nat} {st : List Value} {cc : ByteArray} {maxL n a : Nat} (cx : Ok w L E RX7 cc maxL n) (hd : decode cc pc = .ok (.getfield 57, 3)) (h : LNet w L a) (kk : G l w L E M lv (pc + 3) (.int (M a 1) :: st)) : G l w L E M lv pc (.ref a :: st) := g_getI cx (ci := 2) rfl in_X2 1 (by decide) tf_X7_57 rfl (LNet_o h) (Nat.le_of_ble_eq_true rfl) rfl hd kk
theorem fp_X7_57 {l : Launch} {w : Wp} {L : Ly} {E : Cx} {M : Mm} {lv : List (Nat × Value)} {pc : Nat} {st : List Value} {cc : ByteArray} {maxL n a : Nat} (cx : Ok w L E RX7 cc maxL n) {x : Int32} {A : Mm → OR} {R0 : Int32 × Mm} (hd : decode cc pc = .ok (.putfield 57, 3)) (h : LNet w L a) (hf : bnd (mst M a 1 x) A = some R0) (kk : ∀ M1 : Mm, A M1 = some R0 → G l w L E M1 lv (pc + 3) st) : G l w L E M lv pc (.int x :: .ref a :: st) := g_putI cx (ci := 2) rfl in_X2 tyX2 tyX2_ok nmX2 1 (by decide) tf_X7_57 rfl rfl (by decide +kernel) (LNet_o h) (Nat.le_of_ble_eq_true rfl) rfl hd hf kk
set_option maxRecDepth 100000 in
theorem tf_X7_67 : Cond.fieldLink RX7 67 "TramWires$Service" (TX5 3).2.1 (TX5 3).2.2.1 ∈ TB := tb_m (List.mem_of_getElem? (i := 159) (by decide +kernel)) rfl
theorem fg_X7_67 {l : Launch} {w : Wp} {L : Ly} {E : Cx} {M : Mm} {lv : List (Nat × Value)} {pc : Nat} {st : List Value} {cc : ByteArray} {maxL n a : Nat} (cx : Ok w L E RX7 cc maxL n) (hd : decode cc pc = .ok (.getfield 67, 3)) (h : LService w L a) (kk : G l w L E M lv (pc + 3) (.ref (a + 1) :: st)) : G l w L E M lv pc (.ref a :: st) := g_getR cx (ci := 5) rfl in_X5 3 (by decide) tf_X7_67 rfl (LService_o h) (Nat.le_of_ble_eq_true rfl) rfl hd kk
set_option maxRecDepth 100000 in
theorem tf_X7_71 : Cond.fieldLink RX7 71 "TramWires$Log" (TX1 5).2.1 (TX1 5).2.2.1 ∈ TB := tb_m (List.mem_of_getElem? (i := 216) (by decide +kernel)) rfl
theorem fg_X7_71 {l : Launch} {w : Wp} {L : Ly} {E : Cx} {M : Mm} {lv : List (Nat × Value)} {pc : Nat} {st : List Value} {cc : ByteArray} {maxL n a : Nat} (cx : Ok w L E RX7 cc maxL n) (hd : decode cc pc = .ok (.getfield 71, 3)) (h : LLog w L a) (kk : G l w L E M lv (pc + 3) (.ref (a + 4) :: st)) : G l w L E M lv pc (.ref a :: st) := g_getR cx (ci := 1) rfl in_X1 5 (by decide) tf_X7_71 rfl (LLog_o h) (Nat.le_of_ble_eq_true rfl) rfl hd kk
set_option maxRecDepth 100000 in
theorem tf_X7_74 : Cond.fieldLink RX7 74 "TramWires$Net" (TX2 6).2.1 (TX2 6).2.2.1 ∈ TB := tb_m (List.mem_of_getElem? (i := 121) (by decide +kernel)) rfl
theorem fg_X7_74 {l : Launch} {w : Wp} {L : Ly} {E : Cx} {M : Mm} {lv : List (Nat × Value)} {pc : Nat} {st : List Value} {cc : ByteArray} {maxL n a : Nat} (cx : Ok w L E RX7 cc maxL n) (hd : decode cc pc = .ok (.getfield 74, 3)) (h : LNet w L a) (kk : G l w L E M lv (pc + 3) (.ref (a + 5) :: st)) : G l w L E M lv pc (.ref a :: st) := g_getR cx (ci := 2) rfl in_X2 6 (by decide) tf_X7_74 rfl (LNet_o h) (Nat.le_of_ble_eq_true rfl) rfl hd kk
set_option maxRecDepth 100000 in
theorem tf_X7_81 : Cond.fieldLink RX7 81 "TramWires$Net" (TX2 3).2.1 (TX2 3).2.2.1 ∈ TB := tb_m (List.mem_of_getElem? (i := 113) (by decide +kernel)) rfl
theorem fg_X7_81 {l : Launch} {w : Wp} {L : Ly} {E : Cx} {M : Mm} {lv : List (Nat × Value)} {pc : Nat} {st : List Value} {cc : ByteArray} {maxL n a : Nat} (cx : Ok w L E RX7 cc maxL n) (hd : decode cc pc = .ok (.getfield 81, 3)) (h : LNet w L a) (kk : G l w L E M lv (pc + 3) (.ref (a + 2) :: st)) : G l w L E M lv pc (.ref a :: st) := g_getR cx (ci := 2) rfl in_X2 3 (by decide) tf_X7_81 rfl (LNet_o h) (Nat.le_of_ble_eq_true rfl) rfl hd kk
set_option maxRecDepth 100000 in
theorem tf_X7_84 : Cond.fieldLink RX7 84 "TramWires$Net" (TX2 4).2.1 (TX2 4).2.2.1 ∈ TB := tb_m (List.mem_of_getElem? (i := 116) (by decide +kernel)) rfl
theorem fg_X7_84 {l : Launch} {w : Wp} {L : Ly} {E : Cx} {M : Mm} {lv : List (Nat × Value)} {pc : Nat} {st : List Value} {cc : ByteArray} {maxL n a : Nat} (cx : Ok w L E RX7 cc maxL n) (hd : decode cc pc = .ok (.getfield 84, 3)) (h : LNet w L a) (kk : G l w L E M lv (pc + 3) (.ref (a + 3) :: st)) : G l w L E M lv pc (.ref a :: st) := g_getR cx (ci := 2) rfl in_X2 4 (by decide) tf_X7_84 rfl (LNet_o h) (Nat.le_of_ble_eq_true rfl) rfl hd kk
set_option maxRecDepth 100000 in
theorem tf_X7_87 : Cond.fieldLink RX7 87 "TramWires$Log" (TX1 6).2.1 (TX1 6).2.2.1 ∈ TB := tb_m (List.mem_of_getElem? (i := 218) (by decide +kernel)) rfl
theorem fg_X7_87 {l : Launch} {w : Wp} {L : Ly} {E : Cx} {M : Mm} {lv : List (Nat × Value)} {pc : Nat} {st : List Value} {cc : ByteArray} {maxL n a : Nat} (cx : Ok w L E RX7 cc maxL n) (hd : decode cc pc = .ok (.getfield 87, 3)) (h : LLog w L a) (kk : G l w L E M lv (pc + 3) (.ref (a + 5) :: st)) : G l w L E M lv pc (.ref a :: st) := g_getR cx (ci := 1) rfl in_X1 6 (by decide) tf_X7_87 rfl (LLog_o h) (Nat.le_of_ble_eq_true rfl) rfl hd kk
set_option maxRecDepth 100000 in
theorem tf_X7_94 : Cond.fieldLink RX7 94 "TramWires$Service" (TX5 5).2.1 (TX5 5).2.2.1 ∈ TB := tb_m (List.mem_of_getElem? (i := 167) (by decide +kernel)) rfl
theorem fg_X7_94 {l : Launch} {w : Wp} {L : Ly} {E : Cx} {M : Mm} {lv : List (Nat × Value)} {pc : Nat} {st : List Value} {cc : ByteArray} {maxL n a : Nat} (cx : Ok w L E RX7 cc maxL n) (hd : decode cc pc = .ok (.getfield 94, 3)) (h : LService w L a) (kk : G l w L E M lv (pc + 3) (.ref (a + 3) :: st)) : G l w L E M lv pc (.ref a :: st) := g_getR cx (ci := 5) rfl in_X5 5 (by decide) tf_X7_94 rfl (LService_o h) (Nat.le_of_ble_eq_true rfl) rfl hd kk
set_option maxRecDepth 100000 in
theorem tf_X7_97 : Cond.fieldLink RX7 97 "TramWires$Service" (TX5 9).2.1 (TX5 9).2.2.1 ∈ TB := tb_m (List.mem_of_getElem? (i := 177) (by decide +kernel)) rfl
theorem fg_X7_97 {l : Launch} {w : Wp} {L : Ly} {E : Cx} {M : Mm} {lv : List (Nat × Value)} {pc : Nat} {st : List Value} {cc : ByteArray} {maxL n a : Nat} (cx : Ok w L E RX7 cc maxL n) (hd : decode cc pc = .ok (.getfield 97, 3)) (h : LService w L a) (kk : G l w L E M lv (pc + 3) (.ref (a + 7) :: st)) : G l w L E M lv pc (.ref a :: st) := g_getR cx (ci := 5) rfl in_X5 9 (by decide) tf_X7_97 rfl (LService_o h) (Nat.le_of_ble_eq_true rfl) rfl hd kk
set_option maxRecDepth 100000 in
theorem tf_X7_100 : Cond.fieldLink RX7 100 "TramWires$Net" (TX2 7).2.1 (TX2 7).2.2.1 ∈ TB := tb_m (List.mem_of_getElem? (i := 124) (by decide +kernel)) rfl
theorem fg_X7_100 {l : Launch} {w : Wp} {L : Ly} {E : Cx} {M : Mm} {lv : List (Nat × Value)} {pc : Nat} {st : List Value} {cc : ByteArray} {maxL n a : Nat} (cx : Ok w L E RX7 cc maxL n) (hd : decode cc pc = .ok (.getfield 100, 3)) (h : LNet w L a) (kk : G l w L E M lv (pc + 3) (.ref (a + 6) :: st)) : G l w L E M lv pc (.ref a :: st) := g_getR cx (ci := 2) rfl in_X2 7 (by decide) tf_X7_100 rfl (LNet_o h) (Nat.le_of_ble_eq_true rfl) rfl hd kk
set_option maxRecDepth 100000 in
theorem tf_X7_119 : Cond.fieldLink RX7 119 "TramWires$Log" (TX1 8).2.1 (TX1 8).2.2.1 ∈ TB := tb_m (List.mem_of_getElem? (i := 222) (by decide +kernel)) rfl
theorem fg_X7_119 {l : Launch} {w : Wp} {L : Ly} {E : Cx} {M : Mm} {lv : List (Nat × Value)} {pc : Nat} {st : List Value} {cc : ByteArray} {maxL n a : Nat} (cx : Ok w L E RX7 cc maxL n) (hd : decode cc pc = .ok (.getfield 119, 3)) (h : LLog w L a) (kk : G l w L E M lv (pc + 3) (.ref (a + 7) :: st)) : G l w L E M lv pc (.ref a :: st) := g_getR cx (ci := 1) rfl in_X1 8 (by decide) tf_X7_119 rfl (LLog_o h) (Nat.le_of_ble_eq_true rfl) rfl hd kk
set_option maxRecDepth 100000 in
theorem tf_X7_122 : Cond.fieldLink RX7 122 "TramWires$Log" (TX1 7).2.1 (TX1 7).2.2.1 ∈ TB := tb_m (List.mem_of_getElem? (i := 220) (by decide +kernel)) rfl
theorem fg_X7_122 {l : Launch} {w : Wp} {L : Ly} {E : Cx} {M : Mm} {lv : List (Nat × Value)} {pc : Nat} {st : List Value} {cc : ByteArray} {maxL n a : Nat} (cx : Ok w L E RX7 cc maxL n) (hd : decode cc pc = .ok (.getfield 122, 3)) (h : LLog w L a) (kk : G l w L E M lv (pc + 3) (.ref (a + 6) :: st)) : G l w L E M lv pc (.ref a :: st) := g_getR cx (ci := 1) rfl in_X1 7 (by decide) tf_X7_122 rfl (LLog_o h) (Nat.le_of_ble_eq_true rfl) rfl hd kk
set_option maxRecDepth 100000 in
theorem tf_X7_153 : Cond.fieldLink RX7 153 "TramWires$Service" (TX5 4).2.1 (TX5 4).2.2.1 ∈ TB := tb_m (List.mem_of_getElem? (i := 163) (by decide +kernel)) rfl
theorem fg_X7_153 {l : Launch} {w : Wp} {L : Ly} {E : Cx} {M : Mm} {lv : List (Nat × Value)} {pc : Nat} {st : List Value} {cc : ByteArray} {maxL n a : Nat} (cx : Ok w L E RX7 cc maxL n) (hd : decode cc pc = .ok (.getfield 153, 3)) (h : LService w L a) (kk : G l w L E M lv (pc + 3) (.ref (a + 2) :: st)) : G l w L E M lv pc (.ref a :: st) := g_getR cx (ci := 5) rfl in_X5 4 (by decide) tf_X7_153 rfl (LService_o h) (Nat.le_of_ble_eq_true rfl) rfl hd kk
set_option maxRecDepth 100000 in
theorem tf_X7_160 : Cond.fieldLink RX7 160 "TramWires$Net" (TX2 5).2.1 (TX2 5).2.2.1 ∈ TB := tb_m (List.mem_of_getElem? (i := 119) (by decide +kernel)) rfl
theorem fg_X7_160 {l : Launch} {w : Wp} {L : Ly} {E : Cx} {M : Mm} {lv : List (Nat × Value)} {pc : Nat} {st : List Value} {cc : ByteArray} {maxL n a : Nat} (cx : Ok w L E RX7 cc maxL n) (hd : decode cc pc = .ok (.getfield 160, 3)) (h : LNet w L a) (kk : G l w L E M lv (pc + 3) (.ref (a + 4) :: st)) : G l w L E M lv pc (.ref a :: st) := g_getR cx (ci := 2) rfl in_X2 5 (by decide) tf_X7_160 rfl (LNet_o h) (Nat.le_of_ble_eq_true rfl) rfl hd kk
set_option maxRecDepth 100000 in
theorem tf_X7_173 : Cond.fieldLink RX7 173 "TramWires$Net" (TX2 2).2.1 (TX2 2).2.2.1 ∈ TB := tb_m (List.mem_of_getElem? (i := 110) (by decide +kernel)) rfl
theorem fg_X7_173 {l : Launch} {w : Wp} {L : Ly} {E : Cx} {M : Mm} {lv : List (Nat × Value)} {pc : Nat} {st : List Value} {cc : ByteArray} {maxL n a : Nat} (cx : Ok w L E RX7 cc maxL n) (hd : decode cc pc = .ok (.getfield 173, 3)) (h : LNet w L a) (kk : G l w L E M lv (pc + 3) (.ref (a + 1) :: st)) : G l w L E M lv pc (.ref a :: st) := g_getR cx (ci := 2) rfl in_X2 2 (by decide) tf_X7_173 rfl (LNet_o h) (Nat.le_of_ble_eq_true rfl) rfl hd kk
set_option maxRecDepth 100000 in
theorem tf_X7_179 : Cond.fieldLink RX7 179 "TramWires$Service" (TX5 6).2.1 (TX5 6).2.2.1 ∈ TB := tb_m (List.mem_of_getElem? (i := 170) (by decide +kernel)) rfl
theorem fg_X7_179 {l : Launch} {w : Wp} {L : Ly} {E : Cx} {M : Mm} {lv : List (Nat × Value)} {pc : Nat} {st : List Value} {cc : ByteArray} {maxL n a : Nat} (cx : Ok w L E RX7 cc maxL n) (hd : decode cc pc = .ok (.getfield 179, 3)) (h : LService w L a) (kk : G l w L E M lv (pc + 3) (.ref (a + 4) :: st)) : G l w L E M lv pc (.ref a :: st) := g_getR cx (ci := 5) rfl in_X5 6 (by decide) tf_X7_179 rfl (LService_o h) (Nat.le_of_ble_eq_true rfl) rfl hd kk
set_option maxRecDepth 100000 in
theorem tf_X7_182 : Cond.fieldLink RX7 182 "TramWires$Service" (TX5 0).2.1 (TX5 0).2.2.1 ∈ TB := tb_m (List.mem_of_getElem? (i := 152) (by decide +kernel)) rfl
theorem fg_X7_182 {l : Launch} {w : Wp} {L : Ly} {E : Cx} {M : Mm} {lv : List (Nat × Value)} {pc : Nat} {st : List Value} {cc : ByteArray} {maxL n a : Nat} (cx : Ok w L E RX7 cc maxL n) (hd : decode cc pc = .ok (.getfield 182, 3)) (h : LService w L a) (kk : G l w L E M lv (pc + 3) (.int (M a 0) :: st)) : G l w L E M lv pc (.ref a :: st) := g_getI cx (ci := 5) rfl in_X5 0 (by decide) tf_X7_182 rfl (LService_o h) (Nat.le_of_ble_eq_true rfl) rfl hd kk
theorem fp_X7_182 {l : Launch} {w : Wp} {L : Ly} {E : Cx} {M : Mm} {lv : List (Nat × Value)} {pc : Nat} {st : List Value} {cc : ByteArray} {maxL n a : Nat} (cx : Ok w L E RX7 cc maxL n) {x : Int32} {A : Mm → OR} {R0 : Int32 × Mm} (hd : decode cc pc = .ok (.putfield 182, 3)) (h : LService w L a) (hf : bnd (mst M a 0 x) A = some R0) (kk : ∀ M1 : Mm, A M1 = some R0 → G l w L E M1 lv (pc + 3) st) : G l w L E M lv pc (.int x :: .ref a :: st) := g_putI cx (ci := 5) rfl in_X5 tyX5 tyX5_ok nmX5 0 (by decide) tf_X7_182 rfl rfl (by decide +kernel) (LService_o h) (Nat.le_of_ble_eq_true rfl) rfl hd hf kk
set_option maxRecDepth 100000 in
theorem tf_X9_7 : Cond.fieldLink RX9 7 "TramWiresModel" (TX9 0).2.1 (TX9 0).2.2.1 ∈ TB := tb_m (List.mem_of_getElem? (i := 739) (by decide +kernel)) rfl
theorem fg_X9_7 {l : Launch} {w : Wp} {L : Ly} {E : Cx} {M : Mm} {lv : List (Nat × Value)} {pc : Nat} {st : List Value} {cc : ByteArray} {maxL n a : Nat} (cx : Ok w L E RX9 cc maxL n) (hd : decode cc pc = .ok (.getfield 7, 3)) (h : LTramWiresModel w L a) (kk : G l w L E M lv (pc + 3) (.ref (a + 1) :: st)) : G l w L E M lv pc (.ref a :: st) := g_getR cx (ci := 9) rfl in_X9 0 (by decide) tf_X9_7 rfl (LTramWiresModel_o h) (Nat.le_of_ble_eq_true rfl) rfl hd kk
set_option maxRecDepth 100000 in
theorem tf_X9_13 : Cond.fieldLink RX9 13 "TramWiresModel" (TX9 1).2.1 (TX9 1).2.2.1 ∈ TB := tb_m (List.mem_of_getElem? (i := 740) (by decide +kernel)) rfl
theorem fg_X9_13 {l : Launch} {w : Wp} {L : Ly} {E : Cx} {M : Mm} {lv : List (Nat × Value)} {pc : Nat} {st : List Value} {cc : ByteArray} {maxL n a : Nat} (cx : Ok w L E RX9 cc maxL n) (hd : decode cc pc = .ok (.getfield 13, 3)) (h : LTramWiresModel w L a) (kk : G l w L E M lv (pc + 3) (.ref (a + 2) :: st)) : G l w L E M lv pc (.ref a :: st) := g_getR cx (ci := 9) rfl in_X9 1 (by decide) tf_X9_13 rfl (LTramWiresModel_o h) (Nat.le_of_ble_eq_true rfl) rfl hd kk
set_option maxRecDepth 100000 in
theorem tf_X9_16 : Cond.fieldLink RX9 16 "TramWiresModel" (TX9 2).2.1 (TX9 2).2.2.1 ∈ TB := tb_m (List.mem_of_getElem? (i := 741) (by decide +kernel)) rfl
theorem fg_X9_16 {l : Launch} {w : Wp} {L : Ly} {E : Cx} {M : Mm} {lv : List (Nat × Value)} {pc : Nat} {st : List Value} {cc : ByteArray} {maxL n a : Nat} (cx : Ok w L E RX9 cc maxL n) (hd : decode cc pc = .ok (.getfield 16, 3)) (h : LTramWiresModel w L a) (kk : G l w L E M lv (pc + 3) (.ref (a + 3) :: st)) : G l w L E M lv pc (.ref a :: st) := g_getR cx (ci := 9) rfl in_X9 2 (by decide) tf_X9_16 rfl (LTramWiresModel_o h) (Nat.le_of_ble_eq_true rfl) rfl hd kk
set_option maxRecDepth 100000 in
theorem tf_X9_19 : Cond.fieldLink RX9 19 "TramWiresModel" (TX9 4).2.1 (TX9 4).2.2.1 ∈ TB := tb_m (List.mem_of_getElem? (i := 743) (by decide +kernel)) rfl
theorem fg_X9_19 {l : Launch} {w : Wp} {L : Ly} {E : Cx} {M : Mm} {lv : List (Nat × Value)} {pc : Nat} {st : List Value} {cc : ByteArray} {maxL n a : Nat} (cx : Ok w L E RX9 cc maxL n) (hd : decode cc pc = .ok (.getfield 19, 3)) (h : LTramWiresModel w L a) (kk : G l w L E M lv (pc + 3) (.ref (a + 4) :: st)) : G l w L E M lv pc (.ref a :: st) := g_getR cx (ci := 9) rfl in_X9 4 (by decide) tf_X9_19 rfl (LTramWiresModel_o h) (Nat.le_of_ble_eq_true rfl) rfl hd kk
set_option maxRecDepth 100000 in
theorem tf_X9_22 : Cond.fieldLink RX9 22 "TramWiresModel" (TX9 6).2.1 (TX9 6).2.2.1 ∈ TB := tb_m (List.mem_of_getElem? (i := 745) (by decide +kernel)) rfl
theorem fg_X9_22 {l : Launch} {w : Wp} {L : Ly} {E : Cx} {M : Mm} {lv : List (Nat × Value)} {pc : Nat} {st : List Value} {cc : ByteArray} {maxL n a : Nat} (cx : Ok w L E RX9 cc maxL n) (hd : decode cc pc = .ok (.getfield 22, 3)) (h : LTramWiresModel w L a) (kk : G l w L E M lv (pc + 3) (.ref (a + 5) :: st)) : G l w L E M lv pc (.ref a :: st) := g_getR cx (ci := 9) rfl in_X9 6 (by decide) tf_X9_22 rfl (LTramWiresModel_o h) (Nat.le_of_ble_eq_true rfl) rfl hd kk
set_option maxRecDepth 100000 in
theorem tf_X9_29 : Cond.fieldLink RX9 29 "TramWiresModel" (TX9 3).2.1 (TX9 3).2.2.1 ∈ TB := tb_m (List.mem_of_getElem? (i := 742) (by decide +kernel)) rfl
theorem fg_X9_29 {l : Launch} {w : Wp} {L : Ly} {E : Cx} {M : Mm} {lv : List (Nat × Value)} {pc : Nat} {st : List Value} {cc : ByteArray} {maxL n a : Nat} (cx : Ok w L E RX9 cc maxL n) (hd : decode cc pc = .ok (.getfield 29, 3)) (h : LTramWiresModel w L a) (kk : G l w L E M lv (pc + 3) (.int (M a 3) :: st)) : G l w L E M lv pc (.ref a :: st) := g_getI cx (ci := 9) rfl in_X9 3 (by decide) tf_X9_29 rfl (LTramWiresModel_o h) (Nat.le_of_ble_eq_true rfl) rfl hd kk
theorem fp_X9_29 {l : Launch} {w : Wp} {L : Ly} {E : Cx} {M : Mm} {lv : List (Nat × Value)} {pc : Nat} {st : List Value} {cc : ByteArray} {maxL n a : Nat} (cx : Ok w L E RX9 cc maxL n) {x : Int32} {A : Mm → OR} {R0 : Int32 × Mm} (hd : decode cc pc = .ok (.putfield 29, 3)) (h : LTramWiresModel w L a) (hf : bnd (mst M a 3 x) A = some R0) (kk : ∀ M1 : Mm, A M1 = some R0 → G l w L E M1 lv (pc + 3) st) : G l w L E M lv pc (.int x :: .ref a :: st) := g_putI cx (ci := 9) rfl in_X9 tyX9 tyX9_ok nmX9 3 (by decide) tf_X9_29 rfl rfl (by decide +kernel) (LTramWiresModel_o h) (Nat.le_of_ble_eq_true rfl) rfl hd hf kk
set_option maxRecDepth 100000 in
theorem tf_X9_132 : Cond.fieldLink RX9 132 "TramWiresModel" (TX9 5).2.1 (TX9 5).2.2.1 ∈ TB := tb_m (List.mem_of_getElem? (i := 744) (by decide +kernel)) rfl
theorem fg_X9_132 {l : Launch} {w : Wp} {L : Ly} {E : Cx} {M : Mm} {lv : List (Nat × Value)} {pc : Nat} {st : List Value} {cc : ByteArray} {maxL n a : Nat} (cx : Ok w L E RX9 cc maxL n) (hd : decode cc pc = .ok (.getfield 132, 3)) (h : LTramWiresModel w L a) (kk : G l w L E M lv (pc + 3) (.int (M a 5) :: st)) : G l w L E M lv pc (.ref a :: st) := g_getI cx (ci := 9) rfl in_X9 5 (by decide) tf_X9_132 rfl (LTramWiresModel_o h) (Nat.le_of_ble_eq_true rfl) rfl hd kk
theorem fp_X9_132 {l : Launch} {w : Wp} {L : Ly} {E : Cx} {M : Mm} {lv : List (Nat × Value)} {pc : Nat} {st : List Value} {cc : ByteArray} {maxL n a : Nat} (cx : Ok w L E RX9 cc maxL n) {x : Int32} {A : Mm → OR} {R0 : Int32 × Mm} (hd : decode cc pc = .ok (.putfield 132, 3)) (h : LTramWiresModel w L a) (hf : bnd (mst M a 5 x) A = some R0) (kk : ∀ M1 : Mm, A M1 = some R0 → G l w L E M1 lv (pc + 3) st) : G l w L E M lv pc (.int x :: .ref a :: st) := g_putI cx (ci := 9) rfl in_X9 tyX9 tyX9_ok nmX9 5 (by decide) tf_X9_132 rfl rfl (by decide +kernel) (LTramWiresModel_o h) (Nat.le_of_ble_eq_true rfl) rfl hd hf kk
set_option maxRecDepth 100000 in
theorem tf_X9_156 : Cond.fieldLink RX9 156 "TramWiresModel" (TX9 7).2.1 (TX9 7).2.2.1 ∈ TB := tb_m (List.mem_of_getElem? (i := 746) (by decide +kernel)) rfl
theorem fg_X9_156 {l : Launch} {w : Wp} {L : Ly} {E : Cx} {M : Mm} {lv : List (Nat × Value)} {pc : Nat} {st : List Value} {cc : ByteArray} {maxL n a : Nat} (cx : Ok w L E RX9 cc maxL n) (hd : decode cc pc = .ok (.getfield 156, 3)) (h : LTramWiresModel w L a) (kk : G l w L E M lv (pc + 3) (.int (M a 7) :: st)) : G l w L E M lv pc (.ref a :: st) := g_getI cx (ci := 9) rfl in_X9 7 (by decide) tf_X9_156 rfl (LTramWiresModel_o h) (Nat.le_of_ble_eq_true rfl) rfl hd kk
theorem fp_X9_156 {l : Launch} {w : Wp} {L : Ly} {E : Cx} {M : Mm} {lv : List (Nat × Value)} {pc : Nat} {st : List Value} {cc : ByteArray} {maxL n a : Nat} (cx : Ok w L E RX9 cc maxL n) {x : Int32} {A : Mm → OR} {R0 : Int32 × Mm} (hd : decode cc pc = .ok (.putfield 156, 3)) (h : LTramWiresModel w L a) (hf : bnd (mst M a 7 x) A = some R0) (kk : ∀ M1 : Mm, A M1 = some R0 → G l w L E M1 lv (pc + 3) st) : G l w L E M lv pc (.int x :: .ref a :: st) := g_putI cx (ci := 9) rfl in_X9 tyX9 tyX9_ok nmX9 7 (by decide) tf_X9_156 rfl rfl (by decide +kernel) (LTramWiresModel_o h) (Nat.le_of_ble_eq_true rfl) rfl hd hf kk
set_option maxRecDepth 100000 in
theorem tf_X9_173 : Cond.fieldLink RX9 173 "TramWiresModel" (TX9 8).2.1 (TX9 8).2.2.1 ∈ TB := tb_m (List.mem_of_getElem? (i := 747) (by decide +kernel)) rfl
theorem fg_X9_173 {l : Launch} {w : Wp} {L : Ly} {E : Cx} {M : Mm} {lv : List (Nat × Value)} {pc : Nat} {st : List Value} {cc : ByteArray} {maxL n a : Nat} (cx : Ok w L E RX9 cc maxL n) (hd : decode cc pc = .ok (.getfield 173, 3)) (h : LTramWiresModel w L a) (kk : G l w L E M lv (pc + 3) (.int (M a 8) :: st)) : G l w L E M lv pc (.ref a :: st) := g_getI cx (ci := 9) rfl in_X9 8 (by decide) tf_X9_173 rfl (LTramWiresModel_o h) (Nat.le_of_ble_eq_true rfl) rfl hd kk
theorem fp_X9_173 {l : Launch} {w : Wp} {L : Ly} {E : Cx} {M : Mm} {lv : List (Nat × Value)} {pc : Nat} {st : List Value} {cc : ByteArray} {maxL n a : Nat} (cx : Ok w L E RX9 cc maxL n) {x : Int32} {A : Mm → OR} {R0 : Int32 × Mm} (hd : decode cc pc = .ok (.putfield 173, 3)) (h : LTramWiresModel w L a) (hf : bnd (mst M a 8 x) A = some R0) (kk : ∀ M1 : Mm, A M1 = some R0 → G l w L E M1 lv (pc + 3) st) : G l w L E M lv pc (.int x :: .ref a :: st) := g_putI cx (ci := 9) rfl in_X9 tyX9 tyX9_ok nmX9 8 (by decide) tf_X9_173 rfl rfl (by decide +kernel) (LTramWiresModel_o h) (Nat.le_of_ble_eq_true rfl) rfl hd hf kk
set_option maxRecDepth 100000 in
theorem tf_X9_179 : Cond.fieldLink RX9 179 "TramWiresModel" (TX9 9).2.1 (TX9 9).2.2.1 ∈ TB := tb_m (List.mem_of_getElem? (i := 748) (by decide +kernel)) rfl
theorem fg_X9_179 {l : Launch} {w : Wp} {L : Ly} {E : Cx} {M : Mm} {lv : List (Nat × Value)} {pc : Nat} {st : List Value} {cc : ByteArray} {maxL n a : Nat} (cx : Ok w L E RX9 cc maxL n) (hd : decode cc pc = .ok (.getfield 179, 3)) (h : LTramWiresModel w L a) (kk : G l w L E M lv (pc + 3) (.int (M a 9) :: st)) : G l w L E M lv pc (.ref a :: st) := g_getI cx (ci := 9) rfl in_X9 9 (by decide) tf_X9_179 rfl (LTramWiresModel_o h) (Nat.le_of_ble_eq_true rfl) rfl hd kk
theorem fp_X9_179 {l : Launch} {w : Wp} {L : Ly} {E : Cx} {M : Mm} {lv : List (Nat × Value)} {pc : Nat} {st : List Value} {cc : ByteArray} {maxL n a : Nat} (cx : Ok w L E RX9 cc maxL n) {x : Int32} {A : Mm → OR} {R0 : Int32 × Mm} (hd : decode cc pc = .ok (.putfield 179, 3)) (h : LTramWiresModel w L a) (hf : bnd (mst M a 9 x) A = some R0) (kk : ∀ M1 : Mm, A M1 = some R0 → G l w L E M1 lv (pc + 3) st) : G l w L E M lv pc (.int x :: .ref a :: st) := g_putI cx (ci := 9) rfl in_X9 tyX9 tyX9_ok nmX9 9 (by decide) tf_X9_179 rfl rfl (by decide +kernel) (LTramWiresModel_o h) (Nat.le_of_ble_eq_true rfl) rfl hd hf kk
set_option maxRecDepth 100000 in
theorem tf_X9_182 : Cond.fieldLink RX9 182 "TramWiresModel" (TX9 10).2.1 (TX9 10).2.2.1 ∈ TB := tb_m (List.mem_of_getElem? (i := 749) (by decide +kernel)) rfl
theorem fg_X9_182 {l : Launch} {w : Wp} {L : Ly} {E : Cx} {M : Mm} {lv : List (Nat × Value)} {pc : Nat} {st : List Value} {cc : ByteArray} {maxL n a : Nat} (cx : Ok w L E RX9 cc maxL n) (hd : decode cc pc = .ok (.getfield 182, 3)) (h : LTramWiresModel w L a) (kk : G l w L E M lv (pc + 3) (.int (M a 10) :: st)) : G l w L E M lv pc (.ref a :: st) := g_getI cx (ci := 9) rfl in_X9 10 (by decide) tf_X9_182 rfl (LTramWiresModel_o h) (Nat.le_of_ble_eq_true rfl) rfl hd kk
theorem fp_X9_182 {l : Launch} {w : Wp} {L : Ly} {E : Cx} {M : Mm} {lv : List (Nat × Value)} {pc : Nat} {st : List Value} {cc : ByteArray} {maxL n a : Nat} (cx : Ok w L E RX9 cc maxL n) {x : Int32} {A : Mm → OR} {R0 : Int32 × Mm} (hd : decode cc pc = .ok (.putfield 182, 3)) (h : LTramWiresModel w L a) (hf : bnd (mst M a 10 x) A = some R0) (kk : ∀ M1 : Mm, A M1 = some R0 → G l w L E M1 lv (pc + 3) st) : G l w L E M lv pc (.int x :: .ref a :: st) := g_putI cx (ci := 9) rfl in_X9 tyX9 tyX9_ok nmX9 10 (by decide) tf_X9_182 rfl rfl (by decide +kernel) (LTramWiresModel_o h) (Nat.le_of_ble_eq_true rfl) rfl hd hf kk
set_option maxRecDepth 100000 in
theorem tf_X9_185 : Cond.fieldLink RX9 185 "TramWiresModel" (TX9 12).2.1 (TX9 12).2.2.1 ∈ TB := tb_m (List.mem_of_getElem? (i := 751) (by decide +kernel)) rfl
theorem fg_X9_185 {l : Launch} {w : Wp} {L : Ly} {E : Cx} {M : Mm} {lv : List (Nat × Value)} {pc : Nat} {st : List Value} {cc : ByteArray} {maxL n a : Nat} (cx : Ok w L E RX9 cc maxL n) (hd : decode cc pc = .ok (.getfield 185, 3)) (h : LTramWiresModel w L a) (kk : G l w L E M lv (pc + 3) (.int (M a 12) :: st)) : G l w L E M lv pc (.ref a :: st) := g_getI cx (ci := 9) rfl in_X9 12 (by decide) tf_X9_185 rfl (LTramWiresModel_o h) (Nat.le_of_ble_eq_true rfl) rfl hd kk
theorem fp_X9_185 {l : Launch} {w : Wp} {L : Ly} {E : Cx} {M : Mm} {lv : List (Nat × Value)} {pc : Nat} {st : List Value} {cc : ByteArray} {maxL n a : Nat} (cx : Ok w L E RX9 cc maxL n) {x : Int32} {A : Mm → OR} {R0 : Int32 × Mm} (hd : decode cc pc = .ok (.putfield 185, 3)) (h : LTramWiresModel w L a) (hf : bnd (mst M a 12 x) A = some R0) (kk : ∀ M1 : Mm, A M1 = some R0 → G l w L E M1 lv (pc + 3) st) : G l w L E M lv pc (.int x :: .ref a :: st) := g_putI cx (ci := 9) rfl in_X9 tyX9 tyX9_ok nmX9 12 (by decide) tf_X9_185 rfl rfl (by decide +kernel) (LTramWiresModel_o h) (Nat.le_of_ble_eq_true rfl) rfl hd hf kk
set_option maxRecDepth 100000 in
theorem tf_X9_188 : Cond.fieldLink RX9 188 "TramWiresModel" (TX9 11).2.1 (TX9 11).2.2.1 ∈ TB := tb_m (List.mem_of_getElem? (i := 750) (by decide +kernel)) rfl
theorem fg_X9_188 {l : Launch} {w : Wp} {L : Ly} {E : Cx} {M : Mm} {lv : List (Nat × Value)} {pc : Nat} {st : List Value} {cc : ByteArray} {maxL n a : Nat} (cx : Ok w L E RX9 cc maxL n) (hd : decode cc pc = .ok (.getfield 188, 3)) (h : LTramWiresModel w L a) (kk : G l w L E M lv (pc + 3) (.int (M a 11) :: st)) : G l w L E M lv pc (.ref a :: st) := g_getI cx (ci := 9) rfl in_X9 11 (by decide) tf_X9_188 rfl (LTramWiresModel_o h) (Nat.le_of_ble_eq_true rfl) rfl hd kk
theorem fp_X9_188 {l : Launch} {w : Wp} {L : Ly} {E : Cx} {M : Mm} {lv : List (Nat × Value)} {pc : Nat} {st : List Value} {cc : ByteArray} {maxL n a : Nat} (cx : Ok w L E RX9 cc maxL n) {x : Int32} {A : Mm → OR} {R0 : Int32 × Mm} (hd : decode cc pc = .ok (.putfield 188, 3)) (h : LTramWiresModel w L a) (hf : bnd (mst M a 11 x) A = some R0) (kk : ∀ M1 : Mm, A M1 = some R0 → G l w L E M1 lv (pc + 3) st) : G l w L E M lv pc (.int x :: .ref a :: st) := g_putI cx (ci := 9) rfl in_X9 tyX9 tyX9_ok nmX9 11 (by decide) tf_X9_188 rfl rfl (by decide +kernel) (LTramWiresModel_o h) (Nat.le_of_ble_eq_true rfl) rfl hd hf kk
end
section
theorem vw_X0 : vwCl[0]? = some (RX0, TX0, 2) := rfl
theorem vw_X1 : vwCl[1]? = some (RX1, TX1, 9) := rfl
theorem vw_X2 : vwCl[2]? = some (RX2, TX2, 8) := rfl
theorem vw_X3 : vwCl[3]? = some (RX3, TX3, 3) := rfl
theorem vw_X4 : vwCl[4]? = some (RX4, TX4, 4) := rfl
theorem vw_X5 : vwCl[5]? = some (RX5, TX5, 10) := rfl
theorem vw_X6 : vwCl[6]? = some (RX6, TX6, 5) := rfl
theorem vw_X7 : vwCl[7]? = some (RX7, TX7, 5) := rfl
theorem vw_X8 : vwCl[8]? = some (RX8, TX8, 5) := rfl
theorem vw_X9 : vwCl[9]? = some (RX9, TX9, 13) := rfl
theorem dX5_copyFrom_0 : decode cX5_copyFrom 0 = .ok (.aload_n 0, 1) := by decide +kernel
theorem dX5_copyFrom_1 : decode cX5_copyFrom 1 = .ok (.aload_n 1, 1) := by decide +kernel
theorem dX5_copyFrom_2 : decode cX5_copyFrom 2 = .ok (.getfield 38, 3) := by decide +kernel
theorem dX5_copyFrom_5 : decode cX5_copyFrom 5 = .ok (.putfield 38, 3) := by decide +kernel
theorem dX5_copyFrom_8 : decode cX5_copyFrom 8 = .ok (.aload_n 0, 1) := by decide +kernel
theorem dX5_copyFrom_9 : decode cX5_copyFrom 9 = .ok (.aload_n 1, 1) := by decide +kernel
theorem dX5_copyFrom_10 : decode cX5_copyFrom 10 = .ok (.getfield 9, 3) := by decide +kernel
theorem dX5_copyFrom_13 : decode cX5_copyFrom 13 = .ok (.putfield 9, 3) := by decide +kernel
theorem dX5_copyFrom_16 : decode cX5_copyFrom 16 = .ok (.aload_n 0, 1) := by decide +kernel
theorem dX5_copyFrom_17 : decode cX5_copyFrom 17 = .ok (.aload_n 1, 1) := by decide +kernel
theorem dX5_copyFrom_18 : decode cX5_copyFrom 18 = .ok (.getfield 41, 3) := by decide +kernel
theorem dX5_copyFrom_21 : decode cX5_copyFrom 21 = .ok (.putfield 41, 3) := by decide +kernel
theorem dX5_copyFrom_24 : decode cX5_copyFrom 24 = .ok (.aload_n 1, 1) := by decide +kernel
theorem dX5_copyFrom_25 : decode cX5_copyFrom 25 = .ok (.getfield 15, 3) := by decide +kernel
theorem dX5_copyFrom_28 : decode cX5_copyFrom 28 = .ok (.iconst 0, 1) := by decide +kernel
theorem dX5_copyFrom_29 : decode cX5_copyFrom 29 = .ok (.aload_n 0, 1) := by decide +kernel
theorem dX5_copyFrom_30 : decode cX5_copyFrom 30 = .ok (.getfield 15, 3) := by decide +kernel
theorem dX5_copyFrom_33 : decode cX5_copyFrom 33 = .ok (.iconst 0, 1) := by decide +kernel
theorem dX5_copyFrom_34 : decode cX5_copyFrom 34 = .ok (.bipush 10, 2) := by decide +kernel
theorem dX5_copyFrom_36 : decode cX5_copyFrom 36 = .ok (.invokestatic 44, 3) := by decide +kernel
theorem dX5_copyFrom_39 : decode cX5_copyFrom 39 = .ok (.aload_n 1, 1) := by decide +kernel
theorem dX5_copyFrom_40 : decode cX5_copyFrom 40 = .ok (.getfield 19, 3) := by decide +kernel
theorem dX5_copyFrom_43 : decode cX5_copyFrom 43 = .ok (.iconst 0, 1) := by decide +kernel
theorem dX5_copyFrom_44 : decode cX5_copyFrom 44 = .ok (.aload_n 0, 1) := by decide +kernel
theorem dX5_copyFrom_45 : decode cX5_copyFrom 45 = .ok (.getfield 19, 3) := by decide +kernel
theorem dX5_copyFrom_48 : decode cX5_copyFrom 48 = .ok (.iconst 0, 1) := by decide +kernel
theorem dX5_copyFrom_49 : decode cX5_copyFrom 49 = .ok (.bipush 10, 2) := by decide +kernel
theorem dX5_copyFrom_51 : decode cX5_copyFrom 51 = .ok (.invokestatic 44, 3) := by decide +kernel
theorem dX5_copyFrom_54 : decode cX5_copyFrom 54 = .ok (.aload_n 1, 1) := by decide +kernel
theorem dX5_copyFrom_55 : decode cX5_copyFrom 55 = .ok (.getfield 23, 3) := by decide +kernel
theorem dX5_copyFrom_58 : decode cX5_copyFrom 58 = .ok (.iconst 0, 1) := by decide +kernel
theorem dX5_copyFrom_59 : decode cX5_copyFrom 59 = .ok (.aload_n 0, 1) := by decide +kernel
theorem dX5_copyFrom_60 : decode cX5_copyFrom 60 = .ok (.getfield 23, 3) := by decide +kernel
theorem dX5_copyFrom_63 : decode cX5_copyFrom 63 = .ok (.iconst 0, 1) := by decide +kernel
theorem dX5_copyFrom_64 : decode cX5_copyFrom 64 = .ok (.bipush 10, 2) := by decide +kernel
theorem dX5_copyFrom_66 : decode cX5_copyFrom 66 = .ok (.invokestatic 44, 3) := by decide +kernel
theorem dX5_copyFrom_69 : decode cX5_copyFrom 69 = .ok (.aload_n 1, 1) := by decide +kernel
theorem dX5_copyFrom_70 : decode cX5_copyFrom 70 = .ok (.getfield 26, 3) := by decide +kernel
theorem dX5_copyFrom_73 : decode cX5_copyFrom 73 = .ok (.iconst 0, 1) := by decide +kernel
theorem dX5_copyFrom_74 : decode cX5_copyFrom 74 = .ok (.aload_n 0, 1) := by decide +kernel
theorem dX5_copyFrom_75 : decode cX5_copyFrom 75 = .ok (.getfield 26, 3) := by decide +kernel
theorem dX5_copyFrom_78 : decode cX5_copyFrom 78 = .ok (.iconst 0, 1) := by decide +kernel
theorem dX5_copyFrom_79 : decode cX5_copyFrom 79 = .ok (.bipush 10, 2) := by decide +kernel
theorem dX5_copyFrom_81 : decode cX5_copyFrom 81 = .ok (.invokestatic 44, 3) := by decide +kernel
theorem dX5_copyFrom_84 : decode cX5_copyFrom 84 = .ok (.aload_n 1, 1) := by decide +kernel
theorem dX5_copyFrom_85 : decode cX5_copyFrom 85 = .ok (.getfield 29, 3) := by decide +kernel
theorem dX5_copyFrom_88 : decode cX5_copyFrom 88 = .ok (.iconst 0, 1) := by decide +kernel
theorem dX5_copyFrom_89 : decode cX5_copyFrom 89 = .ok (.aload_n 0, 1) := by decide +kernel
theorem dX5_copyFrom_90 : decode cX5_copyFrom 90 = .ok (.getfield 29, 3) := by decide +kernel
theorem dX5_copyFrom_93 : decode cX5_copyFrom 93 = .ok (.iconst 0, 1) := by decide +kernel
theorem dX5_copyFrom_94 : decode cX5_copyFrom 94 = .ok (.bipush 10, 2) := by decide +kernel
theorem dX5_copyFrom_96 : decode cX5_copyFrom 96 = .ok (.invokestatic 44, 3) := by decide +kernel
theorem dX5_copyFrom_99 : decode cX5_copyFrom 99 = .ok (.aload_n 1, 1) := by decide +kernel
theorem dX5_copyFrom_100 : decode cX5_copyFrom 100 = .ok (.getfield 32, 3) := by decide +kernel
theorem dX5_copyFrom_103 : decode cX5_copyFrom 103 = .ok (.iconst 0, 1) := by decide +kernel
theorem dX5_copyFrom_104 : decode cX5_copyFrom 104 = .ok (.aload_n 0, 1) := by decide +kernel
theorem dX5_copyFrom_105 : decode cX5_copyFrom 105 = .ok (.getfield 32, 3) := by decide +kernel
theorem dX5_copyFrom_108 : decode cX5_copyFrom 108 = .ok (.iconst 0, 1) := by decide +kernel
theorem dX5_copyFrom_109 : decode cX5_copyFrom 109 = .ok (.bipush 10, 2) := by decide +kernel
theorem dX5_copyFrom_111 : decode cX5_copyFrom 111 = .ok (.invokestatic 44, 3) := by decide +kernel
theorem dX5_copyFrom_114 : decode cX5_copyFrom 114 = .ok (.aload_n 1, 1) := by decide +kernel
theorem dX5_copyFrom_115 : decode cX5_copyFrom 115 = .ok (.getfield 35, 3) := by decide +kernel
theorem dX5_copyFrom_118 : decode cX5_copyFrom 118 = .ok (.iconst 0, 1) := by decide +kernel
theorem dX5_copyFrom_119 : decode cX5_copyFrom 119 = .ok (.aload_n 0, 1) := by decide +kernel
theorem dX5_copyFrom_120 : decode cX5_copyFrom 120 = .ok (.getfield 35, 3) := by decide +kernel
theorem dX5_copyFrom_123 : decode cX5_copyFrom 123 = .ok (.iconst 0, 1) := by decide +kernel
theorem dX5_copyFrom_124 : decode cX5_copyFrom 124 = .ok (.bipush 10, 2) := by decide +kernel
theorem dX5_copyFrom_126 : decode cX5_copyFrom 126 = .ok (.invokestatic 44, 3) := by decide +kernel
theorem dX5_copyFrom_129 : decode cX5_copyFrom 129 = .ok (.return_, 1) := by decide +kernel
theorem dX5_bridgingBuses_0 : decode cX5_bridgingBuses 0 = .ok (.iconst 0, 1) := by decide +kernel
theorem dX5_bridgingBuses_1 : decode cX5_bridgingBuses 1 = .ok (.istore_n 1, 1) := by decide +kernel
theorem dX5_bridgingBuses_2 : decode cX5_bridgingBuses 2 = .ok (.iconst 0, 1) := by decide +kernel
theorem dX5_bridgingBuses_3 : decode cX5_bridgingBuses 3 = .ok (.istore_n 2, 1) := by decide +kernel
theorem dX5_bridgingBuses_4 : decode cX5_bridgingBuses 4 = .ok (.iload_n 2, 1) := by decide +kernel
theorem dX5_bridgingBuses_5 : decode cX5_bridgingBuses 5 = .ok (.bipush 10, 2) := by decide +kernel
theorem dX5_bridgingBuses_7 : decode cX5_bridgingBuses 7 = .ok (.if_icmp .ge 27, 3) := by decide +kernel
theorem dX5_bridgingBuses_10 : decode cX5_bridgingBuses 10 = .ok (.aload_n 0, 1) := by decide +kernel
theorem dX5_bridgingBuses_11 : decode cX5_bridgingBuses 11 = .ok (.getfield 19, 3) := by decide +kernel
theorem dX5_bridgingBuses_14 : decode cX5_bridgingBuses 14 = .ok (.iload_n 2, 1) := by decide +kernel
theorem dX5_bridgingBuses_15 : decode cX5_bridgingBuses 15 = .ok (.baload, 1) := by decide +kernel
theorem dX5_bridgingBuses_16 : decode cX5_bridgingBuses 16 = .ok (.ifCond .eq 12, 3) := by decide +kernel
theorem dX5_bridgingBuses_19 : decode cX5_bridgingBuses 19 = .ok (.iload_n 1, 1) := by decide +kernel
theorem dX5_bridgingBuses_20 : decode cX5_bridgingBuses 20 = .ok (.aload_n 0, 1) := by decide +kernel
theorem dX5_bridgingBuses_21 : decode cX5_bridgingBuses 21 = .ok (.getfield 15, 3) := by decide +kernel
theorem dX5_bridgingBuses_24 : decode cX5_bridgingBuses 24 = .ok (.iload_n 2, 1) := by decide +kernel
theorem dX5_bridgingBuses_25 : decode cX5_bridgingBuses 25 = .ok (.iaload, 1) := by decide +kernel
theorem dX5_bridgingBuses_26 : decode cX5_bridgingBuses 26 = .ok (.iadd, 1) := by decide +kernel
theorem dX5_bridgingBuses_27 : decode cX5_bridgingBuses 27 = .ok (.istore_n 1, 1) := by decide +kernel
theorem dX5_bridgingBuses_28 : decode cX5_bridgingBuses 28 = .ok (.iinc 2 1, 3) := by decide +kernel
theorem dX5_bridgingBuses_31 : decode cX5_bridgingBuses 31 = .ok (.goto (-27), 3) := by decide +kernel
theorem dX5_bridgingBuses_34 : decode cX5_bridgingBuses 34 = .ok (.iload_n 1, 1) := by decide +kernel
theorem dX5_bridgingBuses_35 : decode cX5_bridgingBuses 35 = .ok (.ireturn, 1) := by decide +kernel
theorem dX5_freeBuses_0 : decode cX5_freeBuses 0 = .ok (.aload_n 0, 1) := by decide +kernel
theorem dX5_freeBuses_1 : decode cX5_freeBuses 1 = .ok (.getfield 9, 3) := by decide +kernel
theorem dX5_freeBuses_4 : decode cX5_freeBuses 4 = .ok (.aload_n 0, 1) := by decide +kernel
theorem dX5_freeBuses_5 : decode cX5_freeBuses 5 = .ok (.invokevirtual 50, 3) := by decide +kernel
theorem dX5_freeBuses_8 : decode cX5_freeBuses 8 = .ok (.isub, 1) := by decide +kernel
theorem dX5_freeBuses_9 : decode cX5_freeBuses 9 = .ok (.ireturn, 1) := by decide +kernel
theorem dX5_allTools_0 : decode cX5_allTools 0 = .ok (.iconst 0, 1) := by decide +kernel
theorem dX5_allTools_1 : decode cX5_allTools 1 = .ok (.istore_n 1, 1) := by decide +kernel
theorem dX5_allTools_2 : decode cX5_allTools 2 = .ok (.iconst 0, 1) := by decide +kernel
theorem dX5_allTools_3 : decode cX5_allTools 3 = .ok (.istore_n 2, 1) := by decide +kernel
theorem dX5_allTools_4 : decode cX5_allTools 4 = .ok (.iload_n 2, 1) := by decide +kernel
theorem dX5_allTools_5 : decode cX5_allTools 5 = .ok (.bipush 10, 2) := by decide +kernel
theorem dX5_allTools_7 : decode cX5_allTools 7 = .ok (.if_icmp .ge 18, 3) := by decide +kernel
theorem dX5_allTools_10 : decode cX5_allTools 10 = .ok (.iload_n 1, 1) := by decide +kernel
theorem dX5_allTools_11 : decode cX5_allTools 11 = .ok (.aload_n 0, 1) := by decide +kernel
theorem dX5_allTools_12 : decode cX5_allTools 12 = .ok (.getfield 35, 3) := by decide +kernel
theorem dX5_allTools_15 : decode cX5_allTools 15 = .ok (.iload_n 2, 1) := by decide +kernel
theorem dX5_allTools_16 : decode cX5_allTools 16 = .ok (.iaload, 1) := by decide +kernel
theorem dX5_allTools_17 : decode cX5_allTools 17 = .ok (.iadd, 1) := by decide +kernel
theorem dX5_allTools_18 : decode cX5_allTools 18 = .ok (.istore_n 1, 1) := by decide +kernel
theorem dX5_allTools_19 : decode cX5_allTools 19 = .ok (.iinc 2 1, 3) := by decide +kernel
theorem dX5_allTools_22 : decode cX5_allTools 22 = .ok (.goto (-18), 3) := by decide +kernel
theorem dX5_allTools_25 : decode cX5_allTools 25 = .ok (.iload_n 1, 1) := by decide +kernel
theorem dX5_allTools_26 : decode cX5_allTools 26 = .ok (.ireturn, 1) := by decide +kernel
theorem dX5_lateGangs_0 : decode cX5_lateGangs 0 = .ok (.iconst 0, 1) := by decide +kernel
theorem dX5_lateGangs_1 : decode cX5_lateGangs 1 = .ok (.istore_n 1, 1) := by decide +kernel
theorem dX5_lateGangs_2 : decode cX5_lateGangs 2 = .ok (.iconst 0, 1) := by decide +kernel
theorem dX5_lateGangs_3 : decode cX5_lateGangs 3 = .ok (.istore_n 2, 1) := by decide +kernel
theorem dX5_lateGangs_4 : decode cX5_lateGangs 4 = .ok (.iload_n 2, 1) := by decide +kernel
theorem dX5_lateGangs_5 : decode cX5_lateGangs 5 = .ok (.bipush 10, 2) := by decide +kernel
theorem dX5_lateGangs_7 : decode cX5_lateGangs 7 = .ok (.if_icmp .ge 34, 3) := by decide +kernel
theorem dX5_lateGangs_10 : decode cX5_lateGangs 10 = .ok (.aload_n 0, 1) := by decide +kernel
theorem dX5_lateGangs_11 : decode cX5_lateGangs 11 = .ok (.getfield 26, 3) := by decide +kernel
theorem dX5_lateGangs_14 : decode cX5_lateGangs 14 = .ok (.iload_n 2, 1) := by decide +kernel
theorem dX5_lateGangs_15 : decode cX5_lateGangs 15 = .ok (.baload, 1) := by decide +kernel
theorem dX5_lateGangs_16 : decode cX5_lateGangs 16 = .ok (.ifCond .eq 19, 3) := by decide +kernel
theorem dX5_lateGangs_19 : decode cX5_lateGangs 19 = .ok (.aload_n 0, 1) := by decide +kernel
theorem dX5_lateGangs_20 : decode cX5_lateGangs 20 = .ok (.getfield 38, 3) := by decide +kernel
theorem dX5_lateGangs_23 : decode cX5_lateGangs 23 = .ok (.aload_n 0, 1) := by decide +kernel
theorem dX5_lateGangs_24 : decode cX5_lateGangs 24 = .ok (.getfield 32, 3) := by decide +kernel
theorem dX5_lateGangs_27 : decode cX5_lateGangs 27 = .ok (.iload_n 2, 1) := by decide +kernel
theorem dX5_lateGangs_28 : decode cX5_lateGangs 28 = .ok (.iaload, 1) := by decide +kernel
theorem dX5_lateGangs_29 : decode cX5_lateGangs 29 = .ok (.if_icmp .le 6, 3) := by decide +kernel
theorem dX5_lateGangs_32 : decode cX5_lateGangs 32 = .ok (.iinc 1 1, 3) := by decide +kernel
theorem dX5_lateGangs_35 : decode cX5_lateGangs 35 = .ok (.iinc 2 1, 3) := by decide +kernel
theorem dX5_lateGangs_38 : decode cX5_lateGangs 38 = .ok (.goto (-34), 3) := by decide +kernel
theorem dX5_lateGangs_41 : decode cX5_lateGangs 41 = .ok (.iload_n 1, 1) := by decide +kernel
theorem dX5_lateGangs_42 : decode cX5_lateGangs 42 = .ok (.ireturn, 1) := by decide +kernel
theorem dX5_bringGang_0 : decode cX5_bringGang 0 = .ok (.aload_n 0, 1) := by decide +kernel
theorem dX5_bringGang_1 : decode cX5_bringGang 1 = .ok (.getfield 26, 3) := by decide +kernel
theorem dX5_bringGang_4 : decode cX5_bringGang 4 = .ok (.iload_n 1, 1) := by decide +kernel
theorem dX5_bringGang_5 : decode cX5_bringGang 5 = .ok (.iconst 1, 1) := by decide +kernel
theorem dX5_bringGang_6 : decode cX5_bringGang 6 = .ok (.bastore, 1) := by decide +kernel
theorem dX5_bringGang_7 : decode cX5_bringGang 7 = .ok (.aload_n 0, 1) := by decide +kernel
theorem dX5_bringGang_8 : decode cX5_bringGang 8 = .ok (.getfield 29, 3) := by decide +kernel
theorem dX5_bringGang_11 : decode cX5_bringGang 11 = .ok (.iload_n 1, 1) := by decide +kernel
theorem dX5_bringGang_12 : decode cX5_bringGang 12 = .ok (.iload_n 2, 1) := by decide +kernel
theorem dX5_bringGang_13 : decode cX5_bringGang 13 = .ok (.iastore, 1) := by decide +kernel
theorem dX5_bringGang_14 : decode cX5_bringGang 14 = .ok (.aload_n 0, 1) := by decide +kernel
theorem dX5_bringGang_15 : decode cX5_bringGang 15 = .ok (.getfield 32, 3) := by decide +kernel
theorem dX5_bringGang_18 : decode cX5_bringGang 18 = .ok (.iload_n 1, 1) := by decide +kernel
theorem dX5_bringGang_19 : decode cX5_bringGang 19 = .ok (.iload_n 3, 1) := by decide +kernel
theorem dX5_bringGang_20 : decode cX5_bringGang 20 = .ok (.iastore, 1) := by decide +kernel
theorem dX5_bringGang_21 : decode cX5_bringGang 21 = .ok (.return_, 1) := by decide +kernel
theorem dX5_sendGangOff_0 : decode cX5_sendGangOff 0 = .ok (.iconst 0, 1) := by decide +kernel
theorem dX5_sendGangOff_1 : decode cX5_sendGangOff 1 = .ok (.aload_n 0, 1) := by decide +kernel
theorem dX5_sendGangOff_2 : decode cX5_sendGangOff 2 = .ok (.getfield 38, 3) := by decide +kernel
theorem dX5_sendGangOff_5 : decode cX5_sendGangOff 5 = .ok (.aload_n 0, 1) := by decide +kernel
theorem dX5_sendGangOff_6 : decode cX5_sendGangOff 6 = .ok (.getfield 32, 3) := by decide +kernel
theorem dX5_sendGangOff_9 : decode cX5_sendGangOff 9 = .ok (.iload_n 1, 1) := by decide +kernel
theorem dX5_sendGangOff_10 : decode cX5_sendGangOff 10 = .ok (.iaload, 1) := by decide +kernel
theorem dX5_sendGangOff_11 : decode cX5_sendGangOff 11 = .ok (.isub, 1) := by decide +kernel
theorem dX5_sendGangOff_12 : decode cX5_sendGangOff 12 = .ok (.invokestatic 54, 3) := by decide +kernel
theorem dX5_sendGangOff_15 : decode cX5_sendGangOff 15 = .ok (.istore_n 3, 1) := by decide +kernel
theorem dX5_sendGangOff_16 : decode cX5_sendGangOff 16 = .ok (.aload_n 0, 1) := by decide +kernel
theorem dX5_sendGangOff_17 : decode cX5_sendGangOff 17 = .ok (.getfield 26, 3) := by decide +kernel
theorem dX5_sendGangOff_20 : decode cX5_sendGangOff 20 = .ok (.iload_n 1, 1) := by decide +kernel
theorem dX5_sendGangOff_21 : decode cX5_sendGangOff 21 = .ok (.iconst 0, 1) := by decide +kernel
theorem dX5_sendGangOff_22 : decode cX5_sendGangOff 22 = .ok (.bastore, 1) := by decide +kernel
theorem dX5_sendGangOff_23 : decode cX5_sendGangOff 23 = .ok (.aload_n 0, 1) := by decide +kernel
theorem dX5_sendGangOff_24 : decode cX5_sendGangOff 24 = .ok (.getfield 35, 3) := by decide +kernel
theorem dX5_sendGangOff_27 : decode cX5_sendGangOff 27 = .ok (.iload_n 1, 1) := by decide +kernel
theorem dX5_sendGangOff_28 : decode cX5_sendGangOff 28 = .ok (.dup2, 1) := by decide +kernel
theorem dX5_sendGangOff_29 : decode cX5_sendGangOff 29 = .ok (.iaload, 1) := by decide +kernel
theorem dX5_sendGangOff_30 : decode cX5_sendGangOff 30 = .ok (.aload_n 0, 1) := by decide +kernel
theorem dX5_sendGangOff_31 : decode cX5_sendGangOff 31 = .ok (.getfield 29, 3) := by decide +kernel
theorem dX5_sendGangOff_34 : decode cX5_sendGangOff 34 = .ok (.iload_n 1, 1) := by decide +kernel
theorem dX5_sendGangOff_35 : decode cX5_sendGangOff 35 = .ok (.iaload, 1) := by decide +kernel
theorem dX5_sendGangOff_36 : decode cX5_sendGangOff 36 = .ok (.iload_n 2, 1) := by decide +kernel
theorem dX5_sendGangOff_37 : decode cX5_sendGangOff 37 = .ok (.isub, 1) := by decide +kernel
theorem dX5_sendGangOff_38 : decode cX5_sendGangOff 38 = .ok (.iadd, 1) := by decide +kernel
theorem dX5_sendGangOff_39 : decode cX5_sendGangOff 39 = .ok (.iastore, 1) := by decide +kernel
theorem dX5_sendGangOff_40 : decode cX5_sendGangOff 40 = .ok (.aload_n 0, 1) := by decide +kernel
theorem dX5_sendGangOff_41 : decode cX5_sendGangOff 41 = .ok (.dup, 1) := by decide +kernel
theorem dX5_sendGangOff_42 : decode cX5_sendGangOff 42 = .ok (.getfield 41, 3) := by decide +kernel
theorem dX5_sendGangOff_45 : decode cX5_sendGangOff 45 = .ok (.iload_n 3, 1) := by decide +kernel
theorem dX5_sendGangOff_46 : decode cX5_sendGangOff 46 = .ok (.iadd, 1) := by decide +kernel
theorem dX5_sendGangOff_47 : decode cX5_sendGangOff 47 = .ok (.putfield 41, 3) := by decide +kernel
theorem dX5_sendGangOff_50 : decode cX5_sendGangOff 50 = .ok (.iload_n 3, 1) := by decide +kernel
theorem dX5_sendGangOff_51 : decode cX5_sendGangOff 51 = .ok (.ireturn, 1) := by decide +kernel
theorem dX2_copyFrom_0 : decode cX2_copyFrom 0 = .ok (.aload_n 0, 1) := by decide +kernel
theorem dX2_copyFrom_1 : decode cX2_copyFrom 1 = .ok (.aload_n 1, 1) := by decide +kernel
theorem dX2_copyFrom_2 : decode cX2_copyFrom 2 = .ok (.getfield 31, 3) := by decide +kernel
theorem dX2_copyFrom_5 : decode cX2_copyFrom 5 = .ok (.putfield 31, 3) := by decide +kernel
theorem dX2_copyFrom_8 : decode cX2_copyFrom 8 = .ok (.aload_n 0, 1) := by decide +kernel
theorem dX2_copyFrom_9 : decode cX2_copyFrom 9 = .ok (.aload_n 1, 1) := by decide +kernel
theorem dX2_copyFrom_10 : decode cX2_copyFrom 10 = .ok (.getfield 35, 3) := by decide +kernel
theorem dX2_copyFrom_13 : decode cX2_copyFrom 13 = .ok (.putfield 35, 3) := by decide +kernel
theorem dX2_copyFrom_16 : decode cX2_copyFrom 16 = .ok (.aload_n 1, 1) := by decide +kernel
theorem dX2_copyFrom_17 : decode cX2_copyFrom 17 = .ok (.getfield 9, 3) := by decide +kernel
theorem dX2_copyFrom_20 : decode cX2_copyFrom 20 = .ok (.iconst 0, 1) := by decide +kernel
theorem dX2_copyFrom_21 : decode cX2_copyFrom 21 = .ok (.aload_n 0, 1) := by decide +kernel
theorem dX2_copyFrom_22 : decode cX2_copyFrom 22 = .ok (.getfield 9, 3) := by decide +kernel
theorem dX2_copyFrom_25 : decode cX2_copyFrom 25 = .ok (.iconst 0, 1) := by decide +kernel
theorem dX2_copyFrom_26 : decode cX2_copyFrom 26 = .ok (.bipush 10, 2) := by decide +kernel
theorem dX2_copyFrom_28 : decode cX2_copyFrom 28 = .ok (.invokestatic 38, 3) := by decide +kernel
theorem dX2_copyFrom_31 : decode cX2_copyFrom 31 = .ok (.aload_n 1, 1) := by decide +kernel
theorem dX2_copyFrom_32 : decode cX2_copyFrom 32 = .ok (.getfield 15, 3) := by decide +kernel
theorem dX2_copyFrom_35 : decode cX2_copyFrom 35 = .ok (.iconst 0, 1) := by decide +kernel
theorem dX2_copyFrom_36 : decode cX2_copyFrom 36 = .ok (.aload_n 0, 1) := by decide +kernel
theorem dX2_copyFrom_37 : decode cX2_copyFrom 37 = .ok (.getfield 15, 3) := by decide +kernel
theorem dX2_copyFrom_40 : decode cX2_copyFrom 40 = .ok (.iconst 0, 1) := by decide +kernel
theorem dX2_copyFrom_41 : decode cX2_copyFrom 41 = .ok (.bipush 16, 2) := by decide +kernel
theorem dX2_copyFrom_43 : decode cX2_copyFrom 43 = .ok (.invokestatic 38, 3) := by decide +kernel
theorem dX2_copyFrom_46 : decode cX2_copyFrom 46 = .ok (.aload_n 1, 1) := by decide +kernel
theorem dX2_copyFrom_47 : decode cX2_copyFrom 47 = .ok (.getfield 18, 3) := by decide +kernel
theorem dX2_copyFrom_50 : decode cX2_copyFrom 50 = .ok (.iconst 0, 1) := by decide +kernel
theorem dX2_copyFrom_51 : decode cX2_copyFrom 51 = .ok (.aload_n 0, 1) := by decide +kernel
theorem dX2_copyFrom_52 : decode cX2_copyFrom 52 = .ok (.getfield 18, 3) := by decide +kernel
theorem dX2_copyFrom_55 : decode cX2_copyFrom 55 = .ok (.iconst 0, 1) := by decide +kernel
theorem dX2_copyFrom_56 : decode cX2_copyFrom 56 = .ok (.bipush 16, 2) := by decide +kernel
theorem dX2_copyFrom_58 : decode cX2_copyFrom 58 = .ok (.invokestatic 38, 3) := by decide +kernel
theorem dX2_copyFrom_61 : decode cX2_copyFrom 61 = .ok (.aload_n 1, 1) := by decide +kernel
theorem dX2_copyFrom_62 : decode cX2_copyFrom 62 = .ok (.getfield 21, 3) := by decide +kernel
theorem dX2_copyFrom_65 : decode cX2_copyFrom 65 = .ok (.iconst 0, 1) := by decide +kernel
theorem dX2_copyFrom_66 : decode cX2_copyFrom 66 = .ok (.aload_n 0, 1) := by decide +kernel
theorem dX2_copyFrom_67 : decode cX2_copyFrom 67 = .ok (.getfield 21, 3) := by decide +kernel
theorem dX2_copyFrom_70 : decode cX2_copyFrom 70 = .ok (.iconst 0, 1) := by decide +kernel
theorem dX2_copyFrom_71 : decode cX2_copyFrom 71 = .ok (.bipush 16, 2) := by decide +kernel
theorem dX2_copyFrom_73 : decode cX2_copyFrom 73 = .ok (.invokestatic 38, 3) := by decide +kernel
theorem dX2_copyFrom_76 : decode cX2_copyFrom 76 = .ok (.aload_n 1, 1) := by decide +kernel
theorem dX2_copyFrom_77 : decode cX2_copyFrom 77 = .ok (.getfield 25, 3) := by decide +kernel
theorem dX2_copyFrom_80 : decode cX2_copyFrom 80 = .ok (.iconst 0, 1) := by decide +kernel
theorem dX2_copyFrom_81 : decode cX2_copyFrom 81 = .ok (.aload_n 0, 1) := by decide +kernel
theorem dX2_copyFrom_82 : decode cX2_copyFrom 82 = .ok (.getfield 25, 3) := by decide +kernel
theorem dX2_copyFrom_85 : decode cX2_copyFrom 85 = .ok (.iconst 0, 1) := by decide +kernel
theorem dX2_copyFrom_86 : decode cX2_copyFrom 86 = .ok (.bipush 10, 2) := by decide +kernel
theorem dX2_copyFrom_88 : decode cX2_copyFrom 88 = .ok (.invokestatic 38, 3) := by decide +kernel
theorem dX2_copyFrom_91 : decode cX2_copyFrom 91 = .ok (.aload_n 1, 1) := by decide +kernel
theorem dX2_copyFrom_92 : decode cX2_copyFrom 92 = .ok (.getfield 28, 3) := by decide +kernel
theorem dX2_copyFrom_95 : decode cX2_copyFrom 95 = .ok (.iconst 0, 1) := by decide +kernel
theorem dX2_copyFrom_96 : decode cX2_copyFrom 96 = .ok (.aload_n 0, 1) := by decide +kernel
theorem dX2_copyFrom_97 : decode cX2_copyFrom 97 = .ok (.getfield 28, 3) := by decide +kernel
theorem dX2_copyFrom_100 : decode cX2_copyFrom 100 = .ok (.iconst 0, 1) := by decide +kernel
theorem dX2_copyFrom_101 : decode cX2_copyFrom 101 = .ok (.bipush 10, 2) := by decide +kernel
theorem dX2_copyFrom_103 : decode cX2_copyFrom 103 = .ok (.invokestatic 38, 3) := by decide +kernel
theorem dX2_copyFrom_106 : decode cX2_copyFrom 106 = .ok (.return_, 1) := by decide +kernel
theorem dX2_feed_0 : decode cX2_feed 0 = .ok (.iconst 0, 1) := by decide +kernel
theorem dX2_feed_1 : decode cX2_feed 1 = .ok (.istore_n 1, 1) := by decide +kernel
theorem dX2_feed_2 : decode cX2_feed 2 = .ok (.iload_n 1, 1) := by decide +kernel
theorem dX2_feed_3 : decode cX2_feed 3 = .ok (.aload_n 0, 1) := by decide +kernel
theorem dX2_feed_4 : decode cX2_feed 4 = .ok (.getfield 31, 3) := by decide +kernel
theorem dX2_feed_7 : decode cX2_feed 7 = .ok (.if_icmp .ge 16, 3) := by decide +kernel
theorem dX2_feed_10 : decode cX2_feed 10 = .ok (.aload_n 0, 1) := by decide +kernel
theorem dX2_feed_11 : decode cX2_feed 11 = .ok (.getfield 28, 3) := by decide +kernel
theorem dX2_feed_14 : decode cX2_feed 14 = .ok (.iload_n 1, 1) := by decide +kernel
theorem dX2_feed_15 : decode cX2_feed 15 = .ok (.iconst 0, 1) := by decide +kernel
theorem dX2_feed_16 : decode cX2_feed 16 = .ok (.bastore, 1) := by decide +kernel
theorem dX2_feed_17 : decode cX2_feed 17 = .ok (.iinc 1 1, 3) := by decide +kernel
theorem dX2_feed_20 : decode cX2_feed 20 = .ok (.goto (-18), 3) := by decide +kernel
theorem dX2_feed_23 : decode cX2_feed 23 = .ok (.iconst 0, 1) := by decide +kernel
theorem dX2_feed_24 : decode cX2_feed 24 = .ok (.istore_n 1, 1) := by decide +kernel
theorem dX2_feed_25 : decode cX2_feed 25 = .ok (.iload_n 1, 1) := by decide +kernel
theorem dX2_feed_26 : decode cX2_feed 26 = .ok (.aload_n 0, 1) := by decide +kernel
theorem dX2_feed_27 : decode cX2_feed 27 = .ok (.getfield 31, 3) := by decide +kernel
theorem dX2_feed_30 : decode cX2_feed 30 = .ok (.if_icmp .ge 31, 3) := by decide +kernel
theorem dX2_feed_33 : decode cX2_feed 33 = .ok (.aload_n 0, 1) := by decide +kernel
theorem dX2_feed_34 : decode cX2_feed 34 = .ok (.getfield 9, 3) := by decide +kernel
theorem dX2_feed_37 : decode cX2_feed 37 = .ok (.iload_n 1, 1) := by decide +kernel
theorem dX2_feed_38 : decode cX2_feed 38 = .ok (.iaload, 1) := by decide +kernel
theorem dX2_feed_39 : decode cX2_feed 39 = .ok (.iconst 2, 1) := by decide +kernel
theorem dX2_feed_40 : decode cX2_feed 40 = .ok (.if_icmp .ne 15, 3) := by decide +kernel
theorem dX2_feed_43 : decode cX2_feed 43 = .ok (.aload_n 0, 1) := by decide +kernel
theorem dX2_feed_44 : decode cX2_feed 44 = .ok (.getfield 28, 3) := by decide +kernel
theorem dX2_feed_47 : decode cX2_feed 47 = .ok (.aload_n 0, 1) := by decide +kernel
theorem dX2_feed_48 : decode cX2_feed 48 = .ok (.getfield 25, 3) := by decide +kernel
theorem dX2_feed_51 : decode cX2_feed 51 = .ok (.iload_n 1, 1) := by decide +kernel
theorem dX2_feed_52 : decode cX2_feed 52 = .ok (.iaload, 1) := by decide +kernel
theorem dX2_feed_53 : decode cX2_feed 53 = .ok (.iconst 1, 1) := by decide +kernel
theorem dX2_feed_54 : decode cX2_feed 54 = .ok (.bastore, 1) := by decide +kernel
theorem dX2_feed_55 : decode cX2_feed 55 = .ok (.iinc 1 1, 3) := by decide +kernel
theorem dX2_feed_58 : decode cX2_feed 58 = .ok (.goto (-33), 3) := by decide +kernel
theorem dX2_feed_61 : decode cX2_feed 61 = .ok (.iconst 0, 1) := by decide +kernel
theorem dX2_feed_62 : decode cX2_feed 62 = .ok (.istore_n 1, 1) := by decide +kernel
theorem dX2_feed_63 : decode cX2_feed 63 = .ok (.iload_n 1, 1) := by decide +kernel
theorem dX2_feed_64 : decode cX2_feed 64 = .ok (.aload_n 0, 1) := by decide +kernel
theorem dX2_feed_65 : decode cX2_feed 65 = .ok (.getfield 31, 3) := by decide +kernel
theorem dX2_feed_68 : decode cX2_feed 68 = .ok (.if_icmp .ge 26, 3) := by decide +kernel
theorem dX2_feed_71 : decode cX2_feed 71 = .ok (.aload_n 0, 1) := by decide +kernel
theorem dX2_feed_72 : decode cX2_feed 72 = .ok (.getfield 28, 3) := by decide +kernel
theorem dX2_feed_75 : decode cX2_feed 75 = .ok (.iload_n 1, 1) := by decide +kernel
theorem dX2_feed_76 : decode cX2_feed 76 = .ok (.aload_n 0, 1) := by decide +kernel
theorem dX2_feed_77 : decode cX2_feed 77 = .ok (.getfield 28, 3) := by decide +kernel
theorem dX2_feed_80 : decode cX2_feed 80 = .ok (.aload_n 0, 1) := by decide +kernel
theorem dX2_feed_81 : decode cX2_feed 81 = .ok (.getfield 25, 3) := by decide +kernel
theorem dX2_feed_84 : decode cX2_feed 84 = .ok (.iload_n 1, 1) := by decide +kernel
theorem dX2_feed_85 : decode cX2_feed 85 = .ok (.iaload, 1) := by decide +kernel
theorem dX2_feed_86 : decode cX2_feed 86 = .ok (.baload, 1) := by decide +kernel
theorem dX2_feed_87 : decode cX2_feed 87 = .ok (.bastore, 1) := by decide +kernel
theorem dX2_feed_88 : decode cX2_feed 88 = .ok (.iinc 1 1, 3) := by decide +kernel
theorem dX2_feed_91 : decode cX2_feed 91 = .ok (.goto (-28), 3) := by decide +kernel
theorem dX2_feed_94 : decode cX2_feed 94 = .ok (.return_, 1) := by decide +kernel
theorem dX2_setFeeder_0 : decode cX2_setFeeder 0 = .ok (.aload_n 0, 1) := by decide +kernel
theorem dX2_setFeeder_1 : decode cX2_setFeeder 1 = .ok (.getfield 9, 3) := by decide +kernel
theorem dX2_setFeeder_4 : decode cX2_setFeeder 4 = .ok (.iload_n 1, 1) := by decide +kernel
theorem dX2_setFeeder_5 : decode cX2_setFeeder 5 = .ok (.iload_n 2, 1) := by decide +kernel
theorem dX2_setFeeder_6 : decode cX2_setFeeder 6 = .ok (.iastore, 1) := by decide +kernel
theorem dX2_setFeeder_7 : decode cX2_setFeeder 7 = .ok (.aload_n 0, 1) := by decide +kernel
theorem dX2_setFeeder_8 : decode cX2_setFeeder 8 = .ok (.invokevirtual 44, 3) := by decide +kernel
theorem dX2_setFeeder_11 : decode cX2_setFeeder 11 = .ok (.return_, 1) := by decide +kernel
theorem dX2_shareLowest_0 : decode cX2_shareLowest 0 = .ok (.iconst 0, 1) := by decide +kernel
theorem dX2_shareLowest_1 : decode cX2_shareLowest 1 = .ok (.istore_n 1, 1) := by decide +kernel
theorem dX2_shareLowest_2 : decode cX2_shareLowest 2 = .ok (.iload_n 1, 1) := by decide +kernel
theorem dX2_shareLowest_3 : decode cX2_shareLowest 3 = .ok (.aload_n 0, 1) := by decide +kernel
theorem dX2_shareLowest_4 : decode cX2_shareLowest 4 = .ok (.getfield 35, 3) := by decide +kernel
theorem dX2_shareLowest_7 : decode cX2_shareLowest 7 = .ok (.if_icmp .ge 85, 3) := by decide +kernel
theorem dX2_shareLowest_10 : decode cX2_shareLowest 10 = .ok (.aload_n 0, 1) := by decide +kernel
theorem dX2_shareLowest_11 : decode cX2_shareLowest 11 = .ok (.getfield 21, 3) := by decide +kernel
theorem dX2_shareLowest_14 : decode cX2_shareLowest 14 = .ok (.iload_n 1, 1) := by decide +kernel
theorem dX2_shareLowest_15 : decode cX2_shareLowest 15 = .ok (.baload, 1) := by decide +kernel
theorem dX2_shareLowest_16 : decode cX2_shareLowest 16 = .ok (.ifCond .eq 70, 3) := by decide +kernel
theorem dX2_shareLowest_19 : decode cX2_shareLowest 19 = .ok (.aload_n 0, 1) := by decide +kernel
theorem dX2_shareLowest_20 : decode cX2_shareLowest 20 = .ok (.getfield 25, 3) := by decide +kernel
theorem dX2_shareLowest_23 : decode cX2_shareLowest 23 = .ok (.aload_n 0, 1) := by decide +kernel
theorem dX2_shareLowest_24 : decode cX2_shareLowest 24 = .ok (.getfield 15, 3) := by decide +kernel
theorem dX2_shareLowest_27 : decode cX2_shareLowest 27 = .ok (.iload_n 1, 1) := by decide +kernel
theorem dX2_shareLowest_28 : decode cX2_shareLowest 28 = .ok (.iaload, 1) := by decide +kernel
theorem dX2_shareLowest_29 : decode cX2_shareLowest 29 = .ok (.iaload, 1) := by decide +kernel
theorem dX2_shareLowest_30 : decode cX2_shareLowest 30 = .ok (.istore_n 2, 1) := by decide +kernel
theorem dX2_shareLowest_31 : decode cX2_shareLowest 31 = .ok (.aload_n 0, 1) := by decide +kernel
theorem dX2_shareLowest_32 : decode cX2_shareLowest 32 = .ok (.getfield 25, 3) := by decide +kernel
theorem dX2_shareLowest_35 : decode cX2_shareLowest 35 = .ok (.aload_n 0, 1) := by decide +kernel
theorem dX2_shareLowest_36 : decode cX2_shareLowest 36 = .ok (.getfield 18, 3) := by decide +kernel
theorem dX2_shareLowest_39 : decode cX2_shareLowest 39 = .ok (.iload_n 1, 1) := by decide +kernel
theorem dX2_shareLowest_40 : decode cX2_shareLowest 40 = .ok (.iaload, 1) := by decide +kernel
theorem dX2_shareLowest_41 : decode cX2_shareLowest 41 = .ok (.iaload, 1) := by decide +kernel
theorem dX2_shareLowest_42 : decode cX2_shareLowest 42 = .ok (.istore_n 3, 1) := by decide +kernel
theorem dX2_shareLowest_43 : decode cX2_shareLowest 43 = .ok (.aload_n 0, 1) := by decide +kernel
theorem dX2_shareLowest_44 : decode cX2_shareLowest 44 = .ok (.getfield 25, 3) := by decide +kernel
theorem dX2_shareLowest_47 : decode cX2_shareLowest 47 = .ok (.aload_n 0, 1) := by decide +kernel
theorem dX2_shareLowest_48 : decode cX2_shareLowest 48 = .ok (.getfield 15, 3) := by decide +kernel
theorem dX2_shareLowest_51 : decode cX2_shareLowest 51 = .ok (.iload_n 1, 1) := by decide +kernel
theorem dX2_shareLowest_52 : decode cX2_shareLowest 52 = .ok (.iaload, 1) := by decide +kernel
theorem dX2_shareLowest_53 : decode cX2_shareLowest 53 = .ok (.iload_n 2, 1) := by decide +kernel
theorem dX2_shareLowest_54 : decode cX2_shareLowest 54 = .ok (.iload_n 3, 1) := by decide +kernel
theorem dX2_shareLowest_55 : decode cX2_shareLowest 55 = .ok (.if_icmp .ge 7, 3) := by decide +kernel
theorem dX2_shareLowest_58 : decode cX2_shareLowest 58 = .ok (.iload_n 2, 1) := by decide +kernel
theorem dX2_shareLowest_59 : decode cX2_shareLowest 59 = .ok (.goto 4, 3) := by decide +kernel
theorem dX2_shareLowest_62 : decode cX2_shareLowest 62 = .ok (.iload_n 3, 1) := by decide +kernel
theorem dX2_shareLowest_63 : decode cX2_shareLowest 63 = .ok (.iastore, 1) := by decide +kernel
theorem dX2_shareLowest_64 : decode cX2_shareLowest 64 = .ok (.aload_n 0, 1) := by decide +kernel
theorem dX2_shareLowest_65 : decode cX2_shareLowest 65 = .ok (.getfield 25, 3) := by decide +kernel
theorem dX2_shareLowest_68 : decode cX2_shareLowest 68 = .ok (.aload_n 0, 1) := by decide +kernel
theorem dX2_shareLowest_69 : decode cX2_shareLowest 69 = .ok (.getfield 18, 3) := by decide +kernel
theorem dX2_shareLowest_72 : decode cX2_shareLowest 72 = .ok (.iload_n 1, 1) := by decide +kernel
theorem dX2_shareLowest_73 : decode cX2_shareLowest 73 = .ok (.iaload, 1) := by decide +kernel
theorem dX2_shareLowest_74 : decode cX2_shareLowest 74 = .ok (.aload_n 0, 1) := by decide +kernel
theorem dX2_shareLowest_75 : decode cX2_shareLowest 75 = .ok (.getfield 25, 3) := by decide +kernel
theorem dX2_shareLowest_78 : decode cX2_shareLowest 78 = .ok (.aload_n 0, 1) := by decide +kernel
theorem dX2_shareLowest_79 : decode cX2_shareLowest 79 = .ok (.getfield 15, 3) := by decide +kernel
theorem dX2_shareLowest_82 : decode cX2_shareLowest 82 = .ok (.iload_n 1, 1) := by decide +kernel
theorem dX2_shareLowest_83 : decode cX2_shareLowest 83 = .ok (.iaload, 1) := by decide +kernel
theorem dX2_shareLowest_84 : decode cX2_shareLowest 84 = .ok (.iaload, 1) := by decide +kernel
theorem dX2_shareLowest_85 : decode cX2_shareLowest 85 = .ok (.iastore, 1) := by decide +kernel
theorem dX2_shareLowest_86 : decode cX2_shareLowest 86 = .ok (.iinc 1 1, 3) := by decide +kernel
theorem dX2_shareLowest_89 : decode cX2_shareLowest 89 = .ok (.goto (-87), 3) := by decide +kernel
theorem dX2_shareLowest_92 : decode cX2_shareLowest 92 = .ok (.return_, 1) := by decide +kernel
theorem dX2_setIsolator_0 : decode cX2_setIsolator 0 = .ok (.aload_n 0, 1) := by decide +kernel
theorem dX2_setIsolator_1 : decode cX2_setIsolator 1 = .ok (.getfield 21, 3) := by decide +kernel
theorem dX2_setIsolator_4 : decode cX2_setIsolator 4 = .ok (.iload_n 1, 1) := by decide +kernel
theorem dX2_setIsolator_5 : decode cX2_setIsolator 5 = .ok (.iload_n 2, 1) := by decide +kernel
theorem dX2_setIsolator_6 : decode cX2_setIsolator 6 = .ok (.bastore, 1) := by decide +kernel
theorem dX2_setIsolator_7 : decode cX2_setIsolator 7 = .ok (.iconst 0, 1) := by decide +kernel
theorem dX2_setIsolator_8 : decode cX2_setIsolator 8 = .ok (.istore_n 3, 1) := by decide +kernel
theorem dX2_setIsolator_9 : decode cX2_setIsolator 9 = .ok (.iload_n 3, 1) := by decide +kernel
theorem dX2_setIsolator_10 : decode cX2_setIsolator 10 = .ok (.aload_n 0, 1) := by decide +kernel
theorem dX2_setIsolator_11 : decode cX2_setIsolator 11 = .ok (.getfield 31, 3) := by decide +kernel
theorem dX2_setIsolator_14 : decode cX2_setIsolator 14 = .ok (.if_icmp .ge 16, 3) := by decide +kernel
theorem dX2_setIsolator_17 : decode cX2_setIsolator 17 = .ok (.aload_n 0, 1) := by decide +kernel
theorem dX2_setIsolator_18 : decode cX2_setIsolator 18 = .ok (.getfield 25, 3) := by decide +kernel
theorem dX2_setIsolator_21 : decode cX2_setIsolator 21 = .ok (.iload_n 3, 1) := by decide +kernel
theorem dX2_setIsolator_22 : decode cX2_setIsolator 22 = .ok (.iload_n 3, 1) := by decide +kernel
theorem dX2_setIsolator_23 : decode cX2_setIsolator 23 = .ok (.iastore, 1) := by decide +kernel
theorem dX2_setIsolator_24 : decode cX2_setIsolator 24 = .ok (.iinc 3 1, 3) := by decide +kernel
theorem dX2_setIsolator_27 : decode cX2_setIsolator 27 = .ok (.goto (-18), 3) := by decide +kernel
theorem dX2_setIsolator_30 : decode cX2_setIsolator 30 = .ok (.iconst 1, 1) := by decide +kernel
theorem dX2_setIsolator_31 : decode cX2_setIsolator 31 = .ok (.istore_n 3, 1) := by decide +kernel
theorem dX2_setIsolator_32 : decode cX2_setIsolator 32 = .ok (.iload_n 3, 1) := by decide +kernel
theorem dX2_setIsolator_33 : decode cX2_setIsolator 33 = .ok (.aload_n 0, 1) := by decide +kernel
theorem dX2_setIsolator_34 : decode cX2_setIsolator 34 = .ok (.getfield 31, 3) := by decide +kernel
theorem dX2_setIsolator_37 : decode cX2_setIsolator 37 = .ok (.if_icmp .ge 13, 3) := by decide +kernel
theorem dX2_setIsolator_40 : decode cX2_setIsolator 40 = .ok (.aload_n 0, 1) := by decide +kernel
theorem dX2_setIsolator_41 : decode cX2_setIsolator 41 = .ok (.invokevirtual 47, 3) := by decide +kernel
theorem dX2_setIsolator_44 : decode cX2_setIsolator 44 = .ok (.iinc 3 1, 3) := by decide +kernel
theorem dX2_setIsolator_47 : decode cX2_setIsolator 47 = .ok (.goto (-15), 3) := by decide +kernel
theorem dX2_setIsolator_50 : decode cX2_setIsolator 50 = .ok (.aload_n 0, 1) := by decide +kernel
theorem dX2_setIsolator_51 : decode cX2_setIsolator 51 = .ok (.invokevirtual 44, 3) := by decide +kernel
theorem dX2_setIsolator_54 : decode cX2_setIsolator 54 = .ok (.return_, 1) := by decide +kernel
theorem dX2_areTogether_0 : decode cX2_areTogether 0 = .ok (.aload_n 0, 1) := by decide +kernel
theorem dX2_areTogether_1 : decode cX2_areTogether 1 = .ok (.getfield 25, 3) := by decide +kernel
theorem dX2_areTogether_4 : decode cX2_areTogether 4 = .ok (.iload_n 1, 1) := by decide +kernel
theorem dX2_areTogether_5 : decode cX2_areTogether 5 = .ok (.iaload, 1) := by decide +kernel
theorem dX2_areTogether_6 : decode cX2_areTogether 6 = .ok (.aload_n 0, 1) := by decide +kernel
theorem dX2_areTogether_7 : decode cX2_areTogether 7 = .ok (.getfield 25, 3) := by decide +kernel
theorem dX2_areTogether_10 : decode cX2_areTogether 10 = .ok (.iload_n 2, 1) := by decide +kernel
theorem dX2_areTogether_11 : decode cX2_areTogether 11 = .ok (.iaload, 1) := by decide +kernel
theorem dX2_areTogether_12 : decode cX2_areTogether 12 = .ok (.if_icmp .ne 7, 3) := by decide +kernel
theorem dX2_areTogether_15 : decode cX2_areTogether 15 = .ok (.iconst 1, 1) := by decide +kernel
theorem dX2_areTogether_16 : decode cX2_areTogether 16 = .ok (.goto 4, 3) := by decide +kernel
theorem dX2_areTogether_19 : decode cX2_areTogether 19 = .ok (.iconst 0, 1) := by decide +kernel
theorem dX2_areTogether_20 : decode cX2_areTogether 20 = .ok (.ireturn, 1) := by decide +kernel
theorem dX2_groupSize_0 : decode cX2_groupSize 0 = .ok (.iconst 0, 1) := by decide +kernel
theorem dX2_groupSize_1 : decode cX2_groupSize 1 = .ok (.istore_n 2, 1) := by decide +kernel
theorem dX2_groupSize_2 : decode cX2_groupSize 2 = .ok (.iconst 0, 1) := by decide +kernel
theorem dX2_groupSize_3 : decode cX2_groupSize 3 = .ok (.istore_n 3, 1) := by decide +kernel
theorem dX2_groupSize_4 : decode cX2_groupSize 4 = .ok (.iload_n 3, 1) := by decide +kernel
theorem dX2_groupSize_5 : decode cX2_groupSize 5 = .ok (.aload_n 0, 1) := by decide +kernel
theorem dX2_groupSize_6 : decode cX2_groupSize 6 = .ok (.getfield 31, 3) := by decide +kernel
theorem dX2_groupSize_9 : decode cX2_groupSize 9 = .ok (.if_icmp .ge 21, 3) := by decide +kernel
theorem dX2_groupSize_12 : decode cX2_groupSize 12 = .ok (.aload_n 0, 1) := by decide +kernel
theorem dX2_groupSize_13 : decode cX2_groupSize 13 = .ok (.iload_n 3, 1) := by decide +kernel
theorem dX2_groupSize_14 : decode cX2_groupSize 14 = .ok (.iload_n 1, 1) := by decide +kernel
theorem dX2_groupSize_15 : decode cX2_groupSize 15 = .ok (.invokevirtual 50, 3) := by decide +kernel
theorem dX2_groupSize_18 : decode cX2_groupSize 18 = .ok (.ifCond .eq 6, 3) := by decide +kernel
theorem dX2_groupSize_21 : decode cX2_groupSize 21 = .ok (.iinc 2 1, 3) := by decide +kernel
theorem dX2_groupSize_24 : decode cX2_groupSize 24 = .ok (.iinc 3 1, 3) := by decide +kernel
theorem dX2_groupSize_27 : decode cX2_groupSize 27 = .ok (.goto (-23), 3) := by decide +kernel
theorem dX2_groupSize_30 : decode cX2_groupSize 30 = .ok (.iload_n 2, 1) := by decide +kernel
theorem dX2_groupSize_31 : decode cX2_groupSize 31 = .ok (.ireturn, 1) := by decide +kernel
theorem dX2_groups_0 : decode cX2_groups 0 = .ok (.iconst 0, 1) := by decide +kernel
theorem dX2_groups_1 : decode cX2_groups 1 = .ok (.istore_n 1, 1) := by decide +kernel
theorem dX2_groups_2 : decode cX2_groups 2 = .ok (.iconst 0, 1) := by decide +kernel
theorem dX2_groups_3 : decode cX2_groups 3 = .ok (.istore_n 2, 1) := by decide +kernel
theorem dX2_groups_4 : decode cX2_groups 4 = .ok (.iload_n 2, 1) := by decide +kernel
theorem dX2_groups_5 : decode cX2_groups 5 = .ok (.aload_n 0, 1) := by decide +kernel
theorem dX2_groups_6 : decode cX2_groups 6 = .ok (.getfield 31, 3) := by decide +kernel
theorem dX2_groups_9 : decode cX2_groups 9 = .ok (.if_icmp .ge 22, 3) := by decide +kernel
theorem dX2_groups_12 : decode cX2_groups 12 = .ok (.aload_n 0, 1) := by decide +kernel
theorem dX2_groups_13 : decode cX2_groups 13 = .ok (.getfield 25, 3) := by decide +kernel
theorem dX2_groups_16 : decode cX2_groups 16 = .ok (.iload_n 2, 1) := by decide +kernel
theorem dX2_groups_17 : decode cX2_groups 17 = .ok (.iaload, 1) := by decide +kernel
theorem dX2_groups_18 : decode cX2_groups 18 = .ok (.iload_n 2, 1) := by decide +kernel
theorem dX2_groups_19 : decode cX2_groups 19 = .ok (.if_icmp .ne 6, 3) := by decide +kernel
theorem dX2_groups_22 : decode cX2_groups 22 = .ok (.iinc 1 1, 3) := by decide +kernel
theorem dX2_groups_25 : decode cX2_groups 25 = .ok (.iinc 2 1, 3) := by decide +kernel
theorem dX2_groups_28 : decode cX2_groups 28 = .ok (.goto (-24), 3) := by decide +kernel
theorem dX2_groups_31 : decode cX2_groups 31 = .ok (.iload_n 1, 1) := by decide +kernel
theorem dX2_groups_32 : decode cX2_groups 32 = .ok (.ireturn, 1) := by decide +kernel
theorem dX2_isClosedAt_0 : decode cX2_isClosedAt 0 = .ok (.aload_n 0, 1) := by decide +kernel
theorem dX2_isClosedAt_1 : decode cX2_isClosedAt 1 = .ok (.getfield 21, 3) := by decide +kernel
theorem dX2_isClosedAt_4 : decode cX2_isClosedAt 4 = .ok (.iload_n 1, 1) := by decide +kernel
theorem dX2_isClosedAt_5 : decode cX2_isClosedAt 5 = .ok (.baload, 1) := by decide +kernel
theorem dX2_isClosedAt_6 : decode cX2_isClosedAt 6 = .ok (.ifCond .eq 27, 3) := by decide +kernel
theorem dX2_isClosedAt_9 : decode cX2_isClosedAt 9 = .ok (.aload_n 0, 1) := by decide +kernel
theorem dX2_isClosedAt_10 : decode cX2_isClosedAt 10 = .ok (.getfield 15, 3) := by decide +kernel
theorem dX2_isClosedAt_13 : decode cX2_isClosedAt 13 = .ok (.iload_n 1, 1) := by decide +kernel
theorem dX2_isClosedAt_14 : decode cX2_isClosedAt 14 = .ok (.iaload, 1) := by decide +kernel
theorem dX2_isClosedAt_15 : decode cX2_isClosedAt 15 = .ok (.iload_n 2, 1) := by decide +kernel
theorem dX2_isClosedAt_16 : decode cX2_isClosedAt 16 = .ok (.if_icmp .eq 13, 3) := by decide +kernel
theorem dX2_isClosedAt_19 : decode cX2_isClosedAt 19 = .ok (.aload_n 0, 1) := by decide +kernel
theorem dX2_isClosedAt_20 : decode cX2_isClosedAt 20 = .ok (.getfield 18, 3) := by decide +kernel
theorem dX2_isClosedAt_23 : decode cX2_isClosedAt 23 = .ok (.iload_n 1, 1) := by decide +kernel
theorem dX2_isClosedAt_24 : decode cX2_isClosedAt 24 = .ok (.iaload, 1) := by decide +kernel
theorem dX2_isClosedAt_25 : decode cX2_isClosedAt 25 = .ok (.iload_n 2, 1) := by decide +kernel
theorem dX2_isClosedAt_26 : decode cX2_isClosedAt 26 = .ok (.if_icmp .ne 7, 3) := by decide +kernel
theorem dX2_isClosedAt_29 : decode cX2_isClosedAt 29 = .ok (.iconst 1, 1) := by decide +kernel
theorem dX2_isClosedAt_30 : decode cX2_isClosedAt 30 = .ok (.goto 4, 3) := by decide +kernel
theorem dX2_isClosedAt_33 : decode cX2_isClosedAt 33 = .ok (.iconst 0, 1) := by decide +kernel
theorem dX2_isClosedAt_34 : decode cX2_isClosedAt 34 = .ok (.ireturn, 1) := by decide +kernel
theorem dX2_closedAt_0 : decode cX2_closedAt 0 = .ok (.iconst 0, 1) := by decide +kernel
theorem dX2_closedAt_1 : decode cX2_closedAt 1 = .ok (.istore_n 2, 1) := by decide +kernel
theorem dX2_closedAt_2 : decode cX2_closedAt 2 = .ok (.iconst 0, 1) := by decide +kernel
theorem dX2_closedAt_3 : decode cX2_closedAt 3 = .ok (.istore_n 3, 1) := by decide +kernel
theorem dX2_closedAt_4 : decode cX2_closedAt 4 = .ok (.iload_n 3, 1) := by decide +kernel
theorem dX2_closedAt_5 : decode cX2_closedAt 5 = .ok (.aload_n 0, 1) := by decide +kernel
theorem dX2_closedAt_6 : decode cX2_closedAt 6 = .ok (.getfield 35, 3) := by decide +kernel
theorem dX2_closedAt_9 : decode cX2_closedAt 9 = .ok (.if_icmp .ge 21, 3) := by decide +kernel
theorem dX2_closedAt_12 : decode cX2_closedAt 12 = .ok (.aload_n 0, 1) := by decide +kernel
theorem dX2_closedAt_13 : decode cX2_closedAt 13 = .ok (.iload_n 3, 1) := by decide +kernel
theorem dX2_closedAt_14 : decode cX2_closedAt 14 = .ok (.iload_n 1, 1) := by decide +kernel
theorem dX2_closedAt_15 : decode cX2_closedAt 15 = .ok (.invokevirtual 54, 3) := by decide +kernel
theorem dX2_closedAt_18 : decode cX2_closedAt 18 = .ok (.ifCond .eq 6, 3) := by decide +kernel
theorem dX2_closedAt_21 : decode cX2_closedAt 21 = .ok (.iinc 2 1, 3) := by decide +kernel
theorem dX2_closedAt_24 : decode cX2_closedAt 24 = .ok (.iinc 3 1, 3) := by decide +kernel
theorem dX2_closedAt_27 : decode cX2_closedAt 27 = .ok (.goto (-23), 3) := by decide +kernel
theorem dX2_closedAt_30 : decode cX2_closedAt 30 = .ok (.iload_n 2, 1) := by decide +kernel
theorem dX2_closedAt_31 : decode cX2_closedAt 31 = .ok (.ireturn, 1) := by decide +kernel
theorem dX1_copyFrom_0 : decode cX1_copyFrom 0 = .ok (.aload_n 0, 1) := by decide +kernel
theorem dX1_copyFrom_1 : decode cX1_copyFrom 1 = .ok (.aload_n 1, 1) := by decide +kernel
theorem dX1_copyFrom_2 : decode cX1_copyFrom 2 = .ok (.getfield 34, 3) := by decide +kernel
theorem dX1_copyFrom_5 : decode cX1_copyFrom 5 = .ok (.putfield 34, 3) := by decide +kernel
theorem dX1_copyFrom_8 : decode cX1_copyFrom 8 = .ok (.aload_n 0, 1) := by decide +kernel
theorem dX1_copyFrom_9 : decode cX1_copyFrom 9 = .ok (.aload_n 1, 1) := by decide +kernel
theorem dX1_copyFrom_10 : decode cX1_copyFrom 10 = .ok (.getfield 38, 3) := by decide +kernel
theorem dX1_copyFrom_13 : decode cX1_copyFrom 13 = .ok (.putfield 38, 3) := by decide +kernel
theorem dX1_copyFrom_16 : decode cX1_copyFrom 16 = .ok (.aload_n 1, 1) := by decide +kernel
theorem dX1_copyFrom_17 : decode cX1_copyFrom 17 = .ok (.getfield 9, 3) := by decide +kernel
theorem dX1_copyFrom_20 : decode cX1_copyFrom 20 = .ok (.iconst 0, 1) := by decide +kernel
theorem dX1_copyFrom_21 : decode cX1_copyFrom 21 = .ok (.aload_n 0, 1) := by decide +kernel
theorem dX1_copyFrom_22 : decode cX1_copyFrom 22 = .ok (.getfield 9, 3) := by decide +kernel
theorem dX1_copyFrom_25 : decode cX1_copyFrom 25 = .ok (.iconst 0, 1) := by decide +kernel
theorem dX1_copyFrom_26 : decode cX1_copyFrom 26 = .ok (.bipush 24, 2) := by decide +kernel
theorem dX1_copyFrom_28 : decode cX1_copyFrom 28 = .ok (.invokestatic 41, 3) := by decide +kernel
theorem dX1_copyFrom_31 : decode cX1_copyFrom 31 = .ok (.aload_n 1, 1) := by decide +kernel
theorem dX1_copyFrom_32 : decode cX1_copyFrom 32 = .ok (.getfield 15, 3) := by decide +kernel
theorem dX1_copyFrom_35 : decode cX1_copyFrom 35 = .ok (.iconst 0, 1) := by decide +kernel
theorem dX1_copyFrom_36 : decode cX1_copyFrom 36 = .ok (.aload_n 0, 1) := by decide +kernel
theorem dX1_copyFrom_37 : decode cX1_copyFrom 37 = .ok (.getfield 15, 3) := by decide +kernel
theorem dX1_copyFrom_40 : decode cX1_copyFrom 40 = .ok (.iconst 0, 1) := by decide +kernel
theorem dX1_copyFrom_41 : decode cX1_copyFrom 41 = .ok (.bipush 24, 2) := by decide +kernel
theorem dX1_copyFrom_43 : decode cX1_copyFrom 43 = .ok (.invokestatic 41, 3) := by decide +kernel
theorem dX1_copyFrom_46 : decode cX1_copyFrom 46 = .ok (.aload_n 1, 1) := by decide +kernel
theorem dX1_copyFrom_47 : decode cX1_copyFrom 47 = .ok (.getfield 18, 3) := by decide +kernel
theorem dX1_copyFrom_50 : decode cX1_copyFrom 50 = .ok (.iconst 0, 1) := by decide +kernel
theorem dX1_copyFrom_51 : decode cX1_copyFrom 51 = .ok (.aload_n 0, 1) := by decide +kernel
theorem dX1_copyFrom_52 : decode cX1_copyFrom 52 = .ok (.getfield 18, 3) := by decide +kernel
theorem dX1_copyFrom_55 : decode cX1_copyFrom 55 = .ok (.iconst 0, 1) := by decide +kernel
theorem dX1_copyFrom_56 : decode cX1_copyFrom 56 = .ok (.bipush 24, 2) := by decide +kernel
theorem dX1_copyFrom_58 : decode cX1_copyFrom 58 = .ok (.invokestatic 41, 3) := by decide +kernel
theorem dX1_copyFrom_61 : decode cX1_copyFrom 61 = .ok (.aload_n 1, 1) := by decide +kernel
theorem dX1_copyFrom_62 : decode cX1_copyFrom 62 = .ok (.getfield 21, 3) := by decide +kernel
theorem dX1_copyFrom_65 : decode cX1_copyFrom 65 = .ok (.iconst 0, 1) := by decide +kernel
theorem dX1_copyFrom_66 : decode cX1_copyFrom 66 = .ok (.aload_n 0, 1) := by decide +kernel
theorem dX1_copyFrom_67 : decode cX1_copyFrom 67 = .ok (.getfield 21, 3) := by decide +kernel
theorem dX1_copyFrom_70 : decode cX1_copyFrom 70 = .ok (.iconst 0, 1) := by decide +kernel
theorem dX1_copyFrom_71 : decode cX1_copyFrom 71 = .ok (.bipush 10, 2) := by decide +kernel
theorem dX1_copyFrom_73 : decode cX1_copyFrom 73 = .ok (.invokestatic 41, 3) := by decide +kernel
theorem dX1_copyFrom_76 : decode cX1_copyFrom 76 = .ok (.aload_n 1, 1) := by decide +kernel
theorem dX1_copyFrom_77 : decode cX1_copyFrom 77 = .ok (.getfield 24, 3) := by decide +kernel
theorem dX1_copyFrom_80 : decode cX1_copyFrom 80 = .ok (.iconst 0, 1) := by decide +kernel
theorem dX1_copyFrom_81 : decode cX1_copyFrom 81 = .ok (.aload_n 0, 1) := by decide +kernel
theorem dX1_copyFrom_82 : decode cX1_copyFrom 82 = .ok (.getfield 24, 3) := by decide +kernel
theorem dX1_copyFrom_85 : decode cX1_copyFrom 85 = .ok (.iconst 0, 1) := by decide +kernel
theorem dX1_copyFrom_86 : decode cX1_copyFrom 86 = .ok (.bipush 16, 2) := by decide +kernel
theorem dX1_copyFrom_88 : decode cX1_copyFrom 88 = .ok (.invokestatic 41, 3) := by decide +kernel
theorem dX1_copyFrom_91 : decode cX1_copyFrom 91 = .ok (.return_, 1) := by decide +kernel
theorem dX1_setBy_0 : decode cX1_setBy 0 = .ok (.aload_n 0, 1) := by decide +kernel
theorem dX1_setBy_1 : decode cX1_setBy 1 = .ok (.getfield 15, 3) := by decide +kernel
theorem dX1_setBy_4 : decode cX1_setBy 4 = .ok (.iload_n 1, 1) := by decide +kernel
theorem dX1_setBy_5 : decode cX1_setBy 5 = .ok (.iaload, 1) := by decide +kernel
theorem dX1_setBy_6 : decode cX1_setBy 6 = .ok (.istore 4, 2) := by decide +kernel
theorem dX1_setBy_8 : decode cX1_setBy 8 = .ok (.aload_n 0, 1) := by decide +kernel
theorem dX1_setBy_9 : decode cX1_setBy 9 = .ok (.getfield 9, 3) := by decide +kernel
theorem dX1_setBy_12 : decode cX1_setBy 12 = .ok (.iload_n 1, 1) := by decide +kernel
theorem dX1_setBy_13 : decode cX1_setBy 13 = .ok (.iaload, 1) := by decide +kernel
theorem dX1_setBy_14 : decode cX1_setBy 14 = .ok (.tableswitch 62 2 5 #[30, 38, 46, 54], 30) := by decide +kernel
theorem dX1_setBy_44 : decode cX1_setBy 44 = .ok (.aload_n 3, 1) := by decide +kernel
theorem dX1_setBy_45 : decode cX1_setBy 45 = .ok (.iload 4, 2) := by decide +kernel
theorem dX1_setBy_47 : decode cX1_setBy 47 = .ok (.iconst 0, 1) := by decide +kernel
theorem dX1_setBy_48 : decode cX1_setBy 48 = .ok (.bastore, 1) := by decide +kernel
theorem dX1_setBy_49 : decode cX1_setBy 49 = .ok (.goto 27, 3) := by decide +kernel
theorem dX1_setBy_52 : decode cX1_setBy 52 = .ok (.aload_n 3, 1) := by decide +kernel
theorem dX1_setBy_53 : decode cX1_setBy 53 = .ok (.iload 4, 2) := by decide +kernel
theorem dX1_setBy_55 : decode cX1_setBy 55 = .ok (.iconst 1, 1) := by decide +kernel
theorem dX1_setBy_56 : decode cX1_setBy 56 = .ok (.bastore, 1) := by decide +kernel
theorem dX1_setBy_57 : decode cX1_setBy 57 = .ok (.goto 19, 3) := by decide +kernel
theorem dX1_setBy_60 : decode cX1_setBy 60 = .ok (.aload_n 2, 1) := by decide +kernel
theorem dX1_setBy_61 : decode cX1_setBy 61 = .ok (.iload 4, 2) := by decide +kernel
theorem dX1_setBy_63 : decode cX1_setBy 63 = .ok (.iconst 1, 1) := by decide +kernel
theorem dX1_setBy_64 : decode cX1_setBy 64 = .ok (.iastore, 1) := by decide +kernel
theorem dX1_setBy_65 : decode cX1_setBy 65 = .ok (.goto 11, 3) := by decide +kernel
theorem dX1_setBy_68 : decode cX1_setBy 68 = .ok (.aload_n 2, 1) := by decide +kernel
theorem dX1_setBy_69 : decode cX1_setBy 69 = .ok (.iload 4, 2) := by decide +kernel
theorem dX1_setBy_71 : decode cX1_setBy 71 = .ok (.iconst 2, 1) := by decide +kernel
theorem dX1_setBy_72 : decode cX1_setBy 72 = .ok (.iastore, 1) := by decide +kernel
theorem dX1_setBy_73 : decode cX1_setBy 73 = .ok (.goto 3, 3) := by decide +kernel
theorem dX1_setBy_76 : decode cX1_setBy 76 = .ok (.return_, 1) := by decide +kernel
theorem dX1_dropOldest_0 : decode cX1_dropOldest 0 = .ok (.aload_n 0, 1) := by decide +kernel
theorem dX1_dropOldest_1 : decode cX1_dropOldest 1 = .ok (.iconst 0, 1) := by decide +kernel
theorem dX1_dropOldest_2 : decode cX1_dropOldest 2 = .ok (.aload_n 0, 1) := by decide +kernel
theorem dX1_dropOldest_3 : decode cX1_dropOldest 3 = .ok (.getfield 21, 3) := by decide +kernel
theorem dX1_dropOldest_6 : decode cX1_dropOldest 6 = .ok (.aload_n 0, 1) := by decide +kernel
theorem dX1_dropOldest_7 : decode cX1_dropOldest 7 = .ok (.getfield 24, 3) := by decide +kernel
theorem dX1_dropOldest_10 : decode cX1_dropOldest 10 = .ok (.invokevirtual 50, 3) := by decide +kernel
theorem dX1_dropOldest_13 : decode cX1_dropOldest 13 = .ok (.aload_n 0, 1) := by decide +kernel
theorem dX1_dropOldest_14 : decode cX1_dropOldest 14 = .ok (.bipush 23, 2) := by decide +kernel
theorem dX1_dropOldest_16 : decode cX1_dropOldest 16 = .ok (.putfield 38, 3) := by decide +kernel
theorem dX1_dropOldest_19 : decode cX1_dropOldest 19 = .ok (.aload_n 0, 1) := by decide +kernel
theorem dX1_dropOldest_20 : decode cX1_dropOldest 20 = .ok (.getfield 9, 3) := by decide +kernel
theorem dX1_dropOldest_23 : decode cX1_dropOldest 23 = .ok (.iconst 1, 1) := by decide +kernel
theorem dX1_dropOldest_24 : decode cX1_dropOldest 24 = .ok (.aload_n 0, 1) := by decide +kernel
theorem dX1_dropOldest_25 : decode cX1_dropOldest 25 = .ok (.getfield 9, 3) := by decide +kernel
theorem dX1_dropOldest_28 : decode cX1_dropOldest 28 = .ok (.iconst 0, 1) := by decide +kernel
theorem dX1_dropOldest_29 : decode cX1_dropOldest 29 = .ok (.aload_n 0, 1) := by decide +kernel
theorem dX1_dropOldest_30 : decode cX1_dropOldest 30 = .ok (.getfield 38, 3) := by decide +kernel
theorem dX1_dropOldest_33 : decode cX1_dropOldest 33 = .ok (.invokestatic 41, 3) := by decide +kernel
theorem dX1_dropOldest_36 : decode cX1_dropOldest 36 = .ok (.aload_n 0, 1) := by decide +kernel
theorem dX1_dropOldest_37 : decode cX1_dropOldest 37 = .ok (.getfield 15, 3) := by decide +kernel
theorem dX1_dropOldest_40 : decode cX1_dropOldest 40 = .ok (.iconst 1, 1) := by decide +kernel
theorem dX1_dropOldest_41 : decode cX1_dropOldest 41 = .ok (.aload_n 0, 1) := by decide +kernel
theorem dX1_dropOldest_42 : decode cX1_dropOldest 42 = .ok (.getfield 15, 3) := by decide +kernel
theorem dX1_dropOldest_45 : decode cX1_dropOldest 45 = .ok (.iconst 0, 1) := by decide +kernel
theorem dX1_dropOldest_46 : decode cX1_dropOldest 46 = .ok (.aload_n 0, 1) := by decide +kernel
theorem dX1_dropOldest_47 : decode cX1_dropOldest 47 = .ok (.getfield 38, 3) := by decide +kernel
theorem dX1_dropOldest_50 : decode cX1_dropOldest 50 = .ok (.invokestatic 41, 3) := by decide +kernel
theorem dX1_dropOldest_53 : decode cX1_dropOldest 53 = .ok (.aload_n 0, 1) := by decide +kernel
theorem dX1_dropOldest_54 : decode cX1_dropOldest 54 = .ok (.getfield 18, 3) := by decide +kernel
theorem dX1_dropOldest_57 : decode cX1_dropOldest 57 = .ok (.iconst 1, 1) := by decide +kernel
theorem dX1_dropOldest_58 : decode cX1_dropOldest 58 = .ok (.aload_n 0, 1) := by decide +kernel
theorem dX1_dropOldest_59 : decode cX1_dropOldest 59 = .ok (.getfield 18, 3) := by decide +kernel
theorem dX1_dropOldest_62 : decode cX1_dropOldest 62 = .ok (.iconst 0, 1) := by decide +kernel
theorem dX1_dropOldest_63 : decode cX1_dropOldest 63 = .ok (.aload_n 0, 1) := by decide +kernel
theorem dX1_dropOldest_64 : decode cX1_dropOldest 64 = .ok (.getfield 38, 3) := by decide +kernel
theorem dX1_dropOldest_67 : decode cX1_dropOldest 67 = .ok (.invokestatic 41, 3) := by decide +kernel
theorem dX1_dropOldest_70 : decode cX1_dropOldest 70 = .ok (.return_, 1) := by decide +kernel
theorem dX1_write_0 : decode cX1_write 0 = .ok (.aload_n 0, 1) := by decide +kernel
theorem dX1_write_1 : decode cX1_write 1 = .ok (.getfield 38, 3) := by decide +kernel
theorem dX1_write_4 : decode cX1_write 4 = .ok (.bipush 24, 2) := by decide +kernel
theorem dX1_write_6 : decode cX1_write 6 = .ok (.if_icmp .lt 7, 3) := by decide +kernel
theorem dX1_write_9 : decode cX1_write 9 = .ok (.aload_n 0, 1) := by decide +kernel
theorem dX1_write_10 : decode cX1_write 10 = .ok (.invokevirtual 47, 3) := by decide +kernel
theorem dX1_write_13 : decode cX1_write 13 = .ok (.aload_n 0, 1) := by decide +kernel
theorem dX1_write_14 : decode cX1_write 14 = .ok (.getfield 9, 3) := by decide +kernel
theorem dX1_write_17 : decode cX1_write 17 = .ok (.aload_n 0, 1) := by decide +kernel
theorem dX1_write_18 : decode cX1_write 18 = .ok (.getfield 38, 3) := by decide +kernel
theorem dX1_write_21 : decode cX1_write 21 = .ok (.iload_n 1, 1) := by decide +kernel
theorem dX1_write_22 : decode cX1_write 22 = .ok (.iastore, 1) := by decide +kernel
theorem dX1_write_23 : decode cX1_write 23 = .ok (.aload_n 0, 1) := by decide +kernel
theorem dX1_write_24 : decode cX1_write 24 = .ok (.getfield 15, 3) := by decide +kernel
theorem dX1_write_27 : decode cX1_write 27 = .ok (.aload_n 0, 1) := by decide +kernel
theorem dX1_write_28 : decode cX1_write 28 = .ok (.getfield 38, 3) := by decide +kernel
theorem dX1_write_31 : decode cX1_write 31 = .ok (.iload_n 2, 1) := by decide +kernel
theorem dX1_write_32 : decode cX1_write 32 = .ok (.iastore, 1) := by decide +kernel
theorem dX1_write_33 : decode cX1_write 33 = .ok (.aload_n 0, 1) := by decide +kernel
theorem dX1_write_34 : decode cX1_write 34 = .ok (.getfield 18, 3) := by decide +kernel
theorem dX1_write_37 : decode cX1_write 37 = .ok (.aload_n 0, 1) := by decide +kernel
theorem dX1_write_38 : decode cX1_write 38 = .ok (.getfield 38, 3) := by decide +kernel
theorem dX1_write_41 : decode cX1_write 41 = .ok (.iload_n 3, 1) := by decide +kernel
theorem dX1_write_42 : decode cX1_write 42 = .ok (.iastore, 1) := by decide +kernel
theorem dX1_write_43 : decode cX1_write 43 = .ok (.aload_n 0, 1) := by decide +kernel
theorem dX1_write_44 : decode cX1_write 44 = .ok (.dup, 1) := by decide +kernel
theorem dX1_write_45 : decode cX1_write 45 = .ok (.getfield 38, 3) := by decide +kernel
theorem dX1_write_48 : decode cX1_write 48 = .ok (.iconst 1, 1) := by decide +kernel
theorem dX1_write_49 : decode cX1_write 49 = .ok (.iadd, 1) := by decide +kernel
theorem dX1_write_50 : decode cX1_write 50 = .ok (.putfield 38, 3) := by decide +kernel
theorem dX1_write_53 : decode cX1_write 53 = .ok (.aload_n 0, 1) := by decide +kernel
theorem dX1_write_54 : decode cX1_write 54 = .ok (.dup, 1) := by decide +kernel
theorem dX1_write_55 : decode cX1_write 55 = .ok (.getfield 34, 3) := by decide +kernel
theorem dX1_write_58 : decode cX1_write 58 = .ok (.iconst 1, 1) := by decide +kernel
theorem dX1_write_59 : decode cX1_write 59 = .ok (.iadd, 1) := by decide +kernel
theorem dX1_write_60 : decode cX1_write 60 = .ok (.putfield 34, 3) := by decide +kernel
theorem dX1_write_63 : decode cX1_write 63 = .ok (.return_, 1) := by decide +kernel
theorem dX1_tell_0 : decode cX1_tell 0 = .ok (.aload_n 0, 1) := by decide +kernel
theorem dX1_tell_1 : decode cX1_tell 1 = .ok (.getfield 21, 3) := by decide +kernel
theorem dX1_tell_4 : decode cX1_tell 4 = .ok (.iconst 0, 1) := by decide +kernel
theorem dX1_tell_5 : decode cX1_tell 5 = .ok (.aload_n 0, 1) := by decide +kernel
theorem dX1_tell_6 : decode cX1_tell 6 = .ok (.getfield 28, 3) := by decide +kernel
theorem dX1_tell_9 : decode cX1_tell 9 = .ok (.iconst 0, 1) := by decide +kernel
theorem dX1_tell_10 : decode cX1_tell 10 = .ok (.bipush 10, 2) := by decide +kernel
theorem dX1_tell_12 : decode cX1_tell 12 = .ok (.invokestatic 41, 3) := by decide +kernel
theorem dX1_tell_15 : decode cX1_tell 15 = .ok (.aload_n 0, 1) := by decide +kernel
theorem dX1_tell_16 : decode cX1_tell 16 = .ok (.getfield 24, 3) := by decide +kernel
theorem dX1_tell_19 : decode cX1_tell 19 = .ok (.iconst 0, 1) := by decide +kernel
theorem dX1_tell_20 : decode cX1_tell 20 = .ok (.aload_n 0, 1) := by decide +kernel
theorem dX1_tell_21 : decode cX1_tell 21 = .ok (.getfield 31, 3) := by decide +kernel
theorem dX1_tell_24 : decode cX1_tell 24 = .ok (.iconst 0, 1) := by decide +kernel
theorem dX1_tell_25 : decode cX1_tell 25 = .ok (.bipush 16, 2) := by decide +kernel
theorem dX1_tell_27 : decode cX1_tell 27 = .ok (.invokestatic 41, 3) := by decide +kernel
theorem dX1_tell_30 : decode cX1_tell 30 = .ok (.iconst 0, 1) := by decide +kernel
theorem dX1_tell_31 : decode cX1_tell 31 = .ok (.istore_n 1, 1) := by decide +kernel
theorem dX1_tell_32 : decode cX1_tell 32 = .ok (.iload_n 1, 1) := by decide +kernel
theorem dX1_tell_33 : decode cX1_tell 33 = .ok (.aload_n 0, 1) := by decide +kernel
theorem dX1_tell_34 : decode cX1_tell 34 = .ok (.getfield 38, 3) := by decide +kernel
theorem dX1_tell_37 : decode cX1_tell 37 = .ok (.if_icmp .ge 22, 3) := by decide +kernel
theorem dX1_tell_40 : decode cX1_tell 40 = .ok (.aload_n 0, 1) := by decide +kernel
theorem dX1_tell_41 : decode cX1_tell 41 = .ok (.iload_n 1, 1) := by decide +kernel
theorem dX1_tell_42 : decode cX1_tell 42 = .ok (.aload_n 0, 1) := by decide +kernel
theorem dX1_tell_43 : decode cX1_tell 43 = .ok (.getfield 28, 3) := by decide +kernel
theorem dX1_tell_46 : decode cX1_tell 46 = .ok (.aload_n 0, 1) := by decide +kernel
theorem dX1_tell_47 : decode cX1_tell 47 = .ok (.getfield 31, 3) := by decide +kernel
theorem dX1_tell_50 : decode cX1_tell 50 = .ok (.invokevirtual 50, 3) := by decide +kernel
theorem dX1_tell_53 : decode cX1_tell 53 = .ok (.iinc 1 1, 3) := by decide +kernel
theorem dX1_tell_56 : decode cX1_tell 56 = .ok (.goto (-24), 3) := by decide +kernel
theorem dX1_tell_59 : decode cX1_tell 59 = .ok (.return_, 1) := by decide +kernel
end
section
/-! X5_copyFrom -/
def f_X5_copyFrom (a0 a1 : Nat) (M : Mm) : OR := bnd (mst M a0 0 (M a1 0)) fun M1 => bnd (mst M1 a0 1 (M1 a1 1)) fun M2 => bnd (mst M2 a0 2 (M2 a1 2)) fun M3 => cpk 0 0 10 10 10 (bnd (mrow M3 (a0 + 1) (va_cpy (M3 (a1 + 1)) (M3 (a0 + 1)) (ix 0) (ix 0) (ix 10))) fun M4 => cpk 0 0 10 10 10 (bnd (mrow M4 (a0 + 2) (va_cpy (M4 (a1 + 2)) (M4 (a0 + 2)) (ix 0) (ix 0) (ix 10))) fun M5 => cpk 0 0 10 10 10 (bnd (mrow M5 (a0 + 3) (va_cpy (M5 (a1 + 3)) (M5 (a0 + 3)) (ix 0) (ix 0) (ix 10))) fun M6 => cpk 0 0 10 10 10 (bnd (mrow M6 (a0 + 4) (va_cpy (M6 (a1 + 4)) (M6 (a0 + 4)) (ix 0) (ix 0) (ix 10))) fun M7 => cpk 0 0 10 10 10 (bnd (mrow M7 (a0 + 5) (va_cpy (M7 (a1 + 5)) (M7 (a0 + 5)) (ix 0) (ix 0) (ix 10))) fun M8 => cpk 0 0 10 10 10 (bnd (mrow M8 (a0 + 6) (va_cpy (M8 (a1 + 6)) (M8 (a0 + 6)) (ix 0) (ix 0) (ix 10))) fun M9 => cpk 0 0 10 10 10 (bnd (mrow M9 (a0 + 7) (va_cpy (M9 (a1 + 7)) (M9 (a0 + 7)) (ix 0) (ix 0) (ix 10))) fun M10 => some (0, M10))))))))
set_option maxHeartbeats 4000000 in
set_option maxRecDepth 100000 in
theorem c_X5_copyFrom {l : Launch} {w : Wp} {L : Ly} {a0 a1 : Nat} {M : Mm} {R0 : Int32 × Mm} (h0 : LService w L (a0)) (h1 : LService w L (a1)) (hf : f_X5_copyFrom a0 a1 M = some R0) : CT l w L yX5_copyFrom cX5_copyFrom 2 none 1 [.ref a0, .ref a1] M R0 := by
  unfold f_X5_copyFrom at hf
  refine CT_of pn_X5 (Nat.le_of_ble_eq_true rfl) (fun E cx en => ?_)
  have cx : Ok w L E RX5 cX5_copyFrom 2 1 := cx
  show G l w L E M [(0, .ref a0), (1, .ref a1)] 0 []
  refine g_aload_n (pc := 0) cx dX5_copyFrom_0 rfl 0 rfl ?_
  refine g_aload_n (pc := 1) cx dX5_copyFrom_1 rfl 1 rfl ?_
  refine fg_X5_38 (pc := 2) cx dX5_copyFrom_2 h1 ?_
  refine fp_X5_38 (pc := 5) cx dX5_copyFrom_5 h0 hf (fun M1 hf => ?_)
  refine g_aload_n (pc := 8) cx dX5_copyFrom_8 rfl 0 rfl ?_
  refine g_aload_n (pc := 9) cx dX5_copyFrom_9 rfl 1 rfl ?_
  refine fg_X5_9 (pc := 10) cx dX5_copyFrom_10 h1 ?_
  refine fp_X5_9 (pc := 13) cx dX5_copyFrom_13 h0 hf (fun M2 hf => ?_)
  refine g_aload_n (pc := 16) cx dX5_copyFrom_16 rfl 0 rfl ?_
  refine g_aload_n (pc := 17) cx dX5_copyFrom_17 rfl 1 rfl ?_
  refine fg_X5_41 (pc := 18) cx dX5_copyFrom_18 h1 ?_
  refine fp_X5_41 (pc := 21) cx dX5_copyFrom_21 h0 hf (fun M3 hf => ?_)
  refine g_aload_n (pc := 24) cx dX5_copyFrom_24 rfl 1 rfl ?_
  refine fg_X5_15 (pc := 25) cx dX5_copyFrom_25 h1 ?_
  refine g_iconst (pc := 28) (v := 0) cx dX5_copyFrom_28 (by decide) ?_
  refine g_aload_n (pc := 29) cx dX5_copyFrom_29 rfl 0 rfl ?_
  refine fg_X5_15 (pc := 30) cx dX5_copyFrom_30 h0 ?_
  refine g_iconst (pc := 33) (v := 0) cx dX5_copyFrom_33 (by decide) ?_
  refine g_bipush (pc := 34) (v := 10) cx dX5_copyFrom_34 (by decide) ?_
  refine g_cpyI (pc := 36) cx (by decide) tm_X5_44 (LService_needed h1) (LService_needed h0) dX5_copyFrom_36 hf (Nat.le_of_ble_eq_true rfl) (fun M4 hf => ?_)
  refine g_aload_n (pc := 39) cx dX5_copyFrom_39 rfl 1 rfl ?_
  refine fg_X5_19 (pc := 40) cx dX5_copyFrom_40 h1 ?_
  refine g_iconst (pc := 43) (v := 0) cx dX5_copyFrom_43 (by decide) ?_
  refine g_aload_n (pc := 44) cx dX5_copyFrom_44 rfl 0 rfl ?_
  refine fg_X5_19 (pc := 45) cx dX5_copyFrom_45 h0 ?_
  refine g_iconst (pc := 48) (v := 0) cx dX5_copyFrom_48 (by decide) ?_
  refine g_bipush (pc := 49) (v := 10) cx dX5_copyFrom_49 (by decide) ?_
  refine g_cpyZ (pc := 51) cx (by decide) tm_X5_44 (LService_bridged h1) (LService_bridged h0) dX5_copyFrom_51 hf (Nat.le_of_ble_eq_true rfl) (fun M5 hf => ?_)
  refine g_aload_n (pc := 54) cx dX5_copyFrom_54 rfl 1 rfl ?_
  refine fg_X5_23 (pc := 55) cx dX5_copyFrom_55 h1 ?_
  refine g_iconst (pc := 58) (v := 0) cx dX5_copyFrom_58 (by decide) ?_
  refine g_aload_n (pc := 59) cx dX5_copyFrom_59 rfl 0 rfl ?_
  refine fg_X5_23 (pc := 60) cx dX5_copyFrom_60 h0 ?_
  refine g_iconst (pc := 63) (v := 0) cx dX5_copyFrom_63 (by decide) ?_
  refine g_bipush (pc := 64) (v := 10) cx dX5_copyFrom_64 (by decide) ?_
  refine g_cpyZ (pc := 66) cx (by decide) tm_X5_44 (LService_earthed h1) (LService_earthed h0) dX5_copyFrom_66 hf (Nat.le_of_ble_eq_true rfl) (fun M6 hf => ?_)
  refine g_aload_n (pc := 69) cx dX5_copyFrom_69 rfl 1 rfl ?_
  refine fg_X5_26 (pc := 70) cx dX5_copyFrom_70 h1 ?_
  refine g_iconst (pc := 73) (v := 0) cx dX5_copyFrom_73 (by decide) ?_
  refine g_aload_n (pc := 74) cx dX5_copyFrom_74 rfl 0 rfl ?_
  refine fg_X5_26 (pc := 75) cx dX5_copyFrom_75 h0 ?_
  refine g_iconst (pc := 78) (v := 0) cx dX5_copyFrom_78 (by decide) ?_
  refine g_bipush (pc := 79) (v := 10) cx dX5_copyFrom_79 (by decide) ?_
  refine g_cpyZ (pc := 81) cx (by decide) tm_X5_44 (LService_gang h1) (LService_gang h0) dX5_copyFrom_81 hf (Nat.le_of_ble_eq_true rfl) (fun M7 hf => ?_)
  refine g_aload_n (pc := 84) cx dX5_copyFrom_84 rfl 1 rfl ?_
  refine fg_X5_29 (pc := 85) cx dX5_copyFrom_85 h1 ?_
  refine g_iconst (pc := 88) (v := 0) cx dX5_copyFrom_88 (by decide) ?_
  refine g_aload_n (pc := 89) cx dX5_copyFrom_89 rfl 0 rfl ?_
  refine fg_X5_29 (pc := 90) cx dX5_copyFrom_90 h0 ?_
  refine g_iconst (pc := 93) (v := 0) cx dX5_copyFrom_93 (by decide) ?_
  refine g_bipush (pc := 94) (v := 10) cx dX5_copyFrom_94 (by decide) ?_
  refine g_cpyI (pc := 96) cx (by decide) tm_X5_44 (LService_brought h1) (LService_brought h0) dX5_copyFrom_96 hf (Nat.le_of_ble_eq_true rfl) (fun M8 hf => ?_)
  refine g_aload_n (pc := 99) cx dX5_copyFrom_99 rfl 1 rfl ?_
  refine fg_X5_32 (pc := 100) cx dX5_copyFrom_100 h1 ?_
  refine g_iconst (pc := 103) (v := 0) cx dX5_copyFrom_103 (by decide) ?_
  refine g_aload_n (pc := 104) cx dX5_copyFrom_104 rfl 0 rfl ?_
  refine fg_X5_32 (pc := 105) cx dX5_copyFrom_105 h0 ?_
  refine g_iconst (pc := 108) (v := 0) cx dX5_copyFrom_108 (by decide) ?_
  refine g_bipush (pc := 109) (v := 10) cx dX5_copyFrom_109 (by decide) ?_
  refine g_cpyI (pc := 111) cx (by decide) tm_X5_44 (LService_until h1) (LService_until h0) dX5_copyFrom_111 hf (Nat.le_of_ble_eq_true rfl) (fun M9 hf => ?_)
  refine g_aload_n (pc := 114) cx dX5_copyFrom_114 rfl 1 rfl ?_
  refine fg_X5_35 (pc := 115) cx dX5_copyFrom_115 h1 ?_
  refine g_iconst (pc := 118) (v := 0) cx dX5_copyFrom_118 (by decide) ?_
  refine g_aload_n (pc := 119) cx dX5_copyFrom_119 rfl 0 rfl ?_
  refine fg_X5_35 (pc := 120) cx dX5_copyFrom_120 h0 ?_
  refine g_iconst (pc := 123) (v := 0) cx dX5_copyFrom_123 (by decide) ?_
  refine g_bipush (pc := 124) (v := 10) cx dX5_copyFrom_124 (by decide) ?_
  refine g_cpyI (pc := 126) cx (by decide) tm_X5_44 (LService_tools h1) (LService_tools h0) dX5_copyFrom_126 hf (Nat.le_of_ble_eq_true rfl) (fun M10 hf => ?_)
  exact g_vret (pc := 129) cx en dX5_copyFrom_129 hf
/-! X5_bridgingBuses -/
def b_X5_bridgingBuses_28 (a0 : Nat) (rc4 : Mm → Int32 → Int32 → OR) (M : Mm) (x1 x2 : Int32) : OR := rc4 M x1 (x2 + 1)
def l_X5_bridgingBuses_4 (a0 : Nat) : Nat → Mm → Int32 → Int32 → OR
  | 0, _, _, _ => none
  | k + 1, M, x1, x2 => if x2 < 10 then ckd x2 10 (if (zb (M (a0 + 2) (ix x2))) = 0 then b_X5_bridgingBuses_28 a0 (l_X5_bridgingBuses_4 a0 k) M x1 x2 else ckd x2 10 (bnd (x1 + (M (a0 + 1) (ix x2))) fun v1 => b_X5_bridgingBuses_28 a0 (l_X5_bridgingBuses_4 a0 k) M v1 x2)) else some (x1, M)
def f_X5_bridgingBuses (a0 : Nat) (M : Mm) : OR := l_X5_bridgingBuses_4 a0 FU M 0 0
set_option maxHeartbeats 4000000 in
set_option maxRecDepth 100000 in
theorem w_X5_bridgingBuses_28 {l : Launch} {w : Wp} {L : Ly} {E : Cx} {a0 : Nat} {rc4 : Mm → Int32 → Int32 → OR} {x1 x2 : Int32} {R0 : Int32 × Mm} (cx : Ok w L E RX5 cX5_bridgingBuses 3 0) (en : En w L E (some .int) R0) (h0 : LService w L (a0)) (hrc4 : ∀ (M : Mm) (x1 x2 : Int32), rc4 M x1 x2 = some R0 → G l w L E M [(0, .ref a0), (1, .int x1), (2, .int x2)] 4 []) {M : Mm} (hf : b_X5_bridgingBuses_28 a0 rc4 M x1 x2 = some R0) : G l w L E M [(0, .ref a0), (1, .int x1), (2, .int x2)] 28 [] := by
  unfold b_X5_bridgingBuses_28 at hf
  refine g_iinc (pc := 28) cx [(2, .int (x2 + 1)), (0, .ref a0), (1, .int x1)] dX5_bridgingBuses_28 2 rfl rfl (by decide) rfl ?_
  refine g_goto (pc := 31) (tgt := 4) cx dX5_bridgingBuses_31 rfl ?_
  refine g_sub [1, 2, 0] [(0, .ref a0), (1, .int x1), (2, .int (x2 + 1))] rfl ?_
  exact hrc4 _ _ _ hf
set_option maxHeartbeats 4000000 in
set_option maxRecDepth 100000 in
theorem w_X5_bridgingBuses_4 {l : Launch} {w : Wp} {L : Ly} {E : Cx} {a0 : Nat} {R0 : Int32 × Mm} (cx : Ok w L E RX5 cX5_bridgingBuses 3 0) (en : En w L E (some .int) R0) (h0 : LService w L (a0)) : ∀ (k : Nat) {M : Mm} {x1 x2 : Int32}, l_X5_bridgingBuses_4 a0 k M x1 x2 = some R0 → G l w L E M [(0, .ref a0), (1, .int x1), (2, .int x2)] 4 [] := by
  intro k
  induction k with
  | zero =>
    intro M x1 x2 hf
    exact absurd hf (by simp [l_X5_bridgingBuses_4])
  | succ k ih =>
    intro M x1 x2 hf
    unfold l_X5_bridgingBuses_4 at hf
    refine g_iload_n (pc := 4) cx dX5_bridgingBuses_4 rfl 2 rfl ?_
    refine g_bipush (pc := 5) (v := 10) cx dX5_bridgingBuses_5 (by decide) ?_
    refine g_icmp_ge (pc := 7) (tgt := 34) cx dX5_bridgingBuses_7 rfl hf (fun hf => ?_) (fun hf => ?_)
    · refine g_aload_n (pc := 10) cx dX5_bridgingBuses_10 rfl 0 rfl ?_
      refine fg_X5_19 (pc := 11) cx dX5_bridgingBuses_11 h0 ?_
      refine g_iload_n (pc := 14) cx dX5_bridgingBuses_14 rfl 2 rfl ?_
      refine g_zald (pc := 15) cx (LService_bridged h0) dX5_bridgingBuses_15 hf (fun hf => ?_)
      refine g_if_eq (pc := 16) (tgt := 28) cx dX5_bridgingBuses_16 rfl hf (fun hf => ?_) (fun hf => ?_)
      · exact w_X5_bridgingBuses_28 cx en h0 (fun _ _ _ hf => ih hf) hf
      · refine g_iload_n (pc := 19) cx dX5_bridgingBuses_19 rfl 1 rfl ?_
        refine g_aload_n (pc := 20) cx dX5_bridgingBuses_20 rfl 0 rfl ?_
        refine fg_X5_15 (pc := 21) cx dX5_bridgingBuses_21 h0 ?_
        refine g_iload_n (pc := 24) cx dX5_bridgingBuses_24 rfl 2 rfl ?_
        refine g_iald (pc := 25) cx (LService_needed h0) dX5_bridgingBuses_25 hf (fun hf => ?_)
        refine g_iadd (pc := 26) cx dX5_bridgingBuses_26 ?_
        refine g_nm hf (fun v1 hf => ?_)
        refine g_istore_n (pc := 27) cx [(1, .int v1), (0, .ref a0), (2, .int x2)] dX5_bridgingBuses_27 rfl (by decide) rfl ?_
        refine g_sub [1, 0, 2] [(0, .ref a0), (1, .int v1), (2, .int x2)] rfl ?_
        exact w_X5_bridgingBuses_28 cx en h0 (fun _ _ _ hf => ih hf) hf
    · refine g_iload_n (pc := 34) cx dX5_bridgingBuses_34 rfl 1 rfl ?_
      exact g_iret (pc := 35) cx en dX5_bridgingBuses_35 rfl hf
set_option maxHeartbeats 4000000 in
set_option maxRecDepth 100000 in
theorem c_X5_bridgingBuses {l : Launch} {w : Wp} {L : Ly} {a0 : Nat} {M : Mm} {R0 : Int32 × Mm} (h0 : LService w L (a0)) (hf : f_X5_bridgingBuses a0 M = some R0) : CT l w L yX5_bridgingBuses cX5_bridgingBuses 3 (some .int) 0 [.ref a0] M R0 := by
  unfold f_X5_bridgingBuses at hf
  refine CT_of pn_X5 (Nat.le_of_ble_eq_true rfl) (fun E cx en => ?_)
  have cx : Ok w L E RX5 cX5_bridgingBuses 3 0 := cx
  show G l w L E M [(0, .ref a0)] 0 []
  refine g_iconst (pc := 0) (v := 0) cx dX5_bridgingBuses_0 (by decide) ?_
  refine g_istore_n (pc := 1) cx [(1, .int 0), (0, .ref a0)] dX5_bridgingBuses_1 rfl (by decide) rfl ?_
  refine g_iconst (pc := 2) (v := 0) cx dX5_bridgingBuses_2 (by decide) ?_
  refine g_istore_n (pc := 3) cx [(2, .int 0), (1, .int 0), (0, .ref a0)] dX5_bridgingBuses_3 rfl (by decide) rfl ?_
  refine g_sub [2, 1, 0] [(0, .ref a0), (1, .int 0), (2, .int 0)] rfl ?_
  exact w_X5_bridgingBuses_4 cx en h0 FU hf
/-! X5_freeBuses -/
def f_X5_freeBuses (a0 : Nat) (M : Mm) : OR := obn (f_X5_bridgingBuses a0 M) fun q3 M1 => (some (((M a0 1) - q3), M1))
set_option maxHeartbeats 4000000 in
set_option maxRecDepth 100000 in
theorem c_X5_freeBuses {l : Launch} {w : Wp} {L : Ly} {a0 : Nat} {M : Mm} {R0 : Int32 × Mm} (h0 : LService w L (a0)) (hf : f_X5_freeBuses a0 M = some R0) : CT l w L yX5_freeBuses cX5_freeBuses 1 (some .int) 1 [.ref a0] M R0 := by
  unfold f_X5_freeBuses at hf
  refine CT_of pn_X5 (Nat.le_of_ble_eq_true rfl) (fun E cx en => ?_)
  have cx : Ok w L E RX5 cX5_freeBuses 1 1 := cx
  show G l w L E M [(0, .ref a0)] 0 []
  refine g_aload_n (pc := 0) cx dX5_freeBuses_0 rfl 0 rfl ?_
  refine fg_X5_9 (pc := 1) cx dX5_freeBuses_1 h0 ?_
  refine g_aload_n (pc := 4) cx dX5_freeBuses_4 rfl 0 rfl ?_
  obtain ⟨q3, M1, hc2, hf⟩ := obn_some2 hf
  refine g_callVi (pc := 5) [] [.int (M a0 1)] cx lk_X5_50 vw_X5 (LService_o h0) (by decide) (c_X5_bridgingBuses h0 hc2) dX5_freeBuses_5 (Nat.le_of_ble_eq_true rfl) ?_
  refine g_isub (pc := 8) cx dX5_freeBuses_8 ?_
  exact g_iret (pc := 9) cx en dX5_freeBuses_9 rfl hf
/-! X5_allTools -/
def l_X5_allTools_4 (a0 : Nat) : Nat → Mm → Int32 → Int32 → OR
  | 0, _, _, _ => none
  | k + 1, M, x1, x2 => if x2 < 10 then ckd x2 10 (bnd (x1 + (M (a0 + 7) (ix x2))) fun v1 => l_X5_allTools_4 a0 k M v1 (x2 + 1)) else some (x1, M)
def f_X5_allTools (a0 : Nat) (M : Mm) : OR := l_X5_allTools_4 a0 FU M 0 0
set_option maxHeartbeats 4000000 in
set_option maxRecDepth 100000 in
theorem w_X5_allTools_4 {l : Launch} {w : Wp} {L : Ly} {E : Cx} {a0 : Nat} {R0 : Int32 × Mm} (cx : Ok w L E RX5 cX5_allTools 3 0) (en : En w L E (some .int) R0) (h0 : LService w L (a0)) : ∀ (k : Nat) {M : Mm} {x1 x2 : Int32}, l_X5_allTools_4 a0 k M x1 x2 = some R0 → G l w L E M [(0, .ref a0), (1, .int x1), (2, .int x2)] 4 [] := by
  intro k
  induction k with
  | zero =>
    intro M x1 x2 hf
    exact absurd hf (by simp [l_X5_allTools_4])
  | succ k ih =>
    intro M x1 x2 hf
    unfold l_X5_allTools_4 at hf
    refine g_iload_n (pc := 4) cx dX5_allTools_4 rfl 2 rfl ?_
    refine g_bipush (pc := 5) (v := 10) cx dX5_allTools_5 (by decide) ?_
    refine g_icmp_ge (pc := 7) (tgt := 25) cx dX5_allTools_7 rfl hf (fun hf => ?_) (fun hf => ?_)
    · refine g_iload_n (pc := 10) cx dX5_allTools_10 rfl 1 rfl ?_
      refine g_aload_n (pc := 11) cx dX5_allTools_11 rfl 0 rfl ?_
      refine fg_X5_35 (pc := 12) cx dX5_allTools_12 h0 ?_
      refine g_iload_n (pc := 15) cx dX5_allTools_15 rfl 2 rfl ?_
      refine g_iald (pc := 16) cx (LService_tools h0) dX5_allTools_16 hf (fun hf => ?_)
      refine g_iadd (pc := 17) cx dX5_allTools_17 ?_
      refine g_nm hf (fun v1 hf => ?_)
      refine g_istore_n (pc := 18) cx [(1, .int v1), (0, .ref a0), (2, .int x2)] dX5_allTools_18 rfl (by decide) rfl ?_
      refine g_iinc (pc := 19) cx [(2, .int (x2 + 1)), (1, .int v1), (0, .ref a0)] dX5_allTools_19 2 rfl rfl (by decide) rfl ?_
      refine g_goto (pc := 22) (tgt := 4) cx dX5_allTools_22 rfl ?_
      refine g_sub [2, 1, 0] [(0, .ref a0), (1, .int v1), (2, .int (x2 + 1))] rfl ?_
      exact ih hf
    · refine g_iload_n (pc := 25) cx dX5_allTools_25 rfl 1 rfl ?_
      exact g_iret (pc := 26) cx en dX5_allTools_26 rfl hf
set_option maxHeartbeats 4000000 in
set_option maxRecDepth 100000 in
theorem c_X5_allTools {l : Launch} {w : Wp} {L : Ly} {a0 : Nat} {M : Mm} {R0 : Int32 × Mm} (h0 : LService w L (a0)) (hf : f_X5_allTools a0 M = some R0) : CT l w L yX5_allTools cX5_allTools 3 (some .int) 0 [.ref a0] M R0 := by
  unfold f_X5_allTools at hf
  refine CT_of pn_X5 (Nat.le_of_ble_eq_true rfl) (fun E cx en => ?_)
  have cx : Ok w L E RX5 cX5_allTools 3 0 := cx
  show G l w L E M [(0, .ref a0)] 0 []
  refine g_iconst (pc := 0) (v := 0) cx dX5_allTools_0 (by decide) ?_
  refine g_istore_n (pc := 1) cx [(1, .int 0), (0, .ref a0)] dX5_allTools_1 rfl (by decide) rfl ?_
  refine g_iconst (pc := 2) (v := 0) cx dX5_allTools_2 (by decide) ?_
  refine g_istore_n (pc := 3) cx [(2, .int 0), (1, .int 0), (0, .ref a0)] dX5_allTools_3 rfl (by decide) rfl ?_
  refine g_sub [2, 1, 0] [(0, .ref a0), (1, .int 0), (2, .int 0)] rfl ?_
  exact w_X5_allTools_4 cx en h0 FU hf
/-! X5_lateGangs -/
def b_X5_lateGangs_35 (a0 : Nat) (rc4 : Mm → Int32 → Int32 → OR) (M : Mm) (x1 x2 : Int32) : OR := rc4 M x1 (x2 + 1)
def l_X5_lateGangs_4 (a0 : Nat) : Nat → Mm → Int32 → Int32 → OR
  | 0, _, _, _ => none
  | k + 1, M, x1, x2 => if x2 < 10 then ckd x2 10 (if (zb (M (a0 + 4) (ix x2))) = 0 then b_X5_lateGangs_35 a0 (l_X5_lateGangs_4 a0 k) M x1 x2 else ckd x2 10 (if (M (a0 + 6) (ix x2)) < (M a0 0) then b_X5_lateGangs_35 a0 (l_X5_lateGangs_4 a0 k) M (x1 + 1) x2 else b_X5_lateGangs_35 a0 (l_X5_lateGangs_4 a0 k) M x1 x2)) else some (x1, M)
def f_X5_lateGangs (a0 : Nat) (M : Mm) : OR := l_X5_lateGangs_4 a0 FU M 0 0
set_option maxHeartbeats 4000000 in
set_option maxRecDepth 100000 in
theorem w_X5_lateGangs_35 {l : Launch} {w : Wp} {L : Ly} {E : Cx} {a0 : Nat} {rc4 : Mm → Int32 → Int32 → OR} {x1 x2 : Int32} {R0 : Int32 × Mm} (cx : Ok w L E RX5 cX5_lateGangs 3 0) (en : En w L E (some .int) R0) (h0 : LService w L (a0)) (hrc4 : ∀ (M : Mm) (x1 x2 : Int32), rc4 M x1 x2 = some R0 → G l w L E M [(0, .ref a0), (1, .int x1), (2, .int x2)] 4 []) {M : Mm} (hf : b_X5_lateGangs_35 a0 rc4 M x1 x2 = some R0) : G l w L E M [(0, .ref a0), (1, .int x1), (2, .int x2)] 35 [] := by
  unfold b_X5_lateGangs_35 at hf
  refine g_iinc (pc := 35) cx [(2, .int (x2 + 1)), (0, .ref a0), (1, .int x1)] dX5_lateGangs_35 2 rfl rfl (by decide) rfl ?_
  refine g_goto (pc := 38) (tgt := 4) cx dX5_lateGangs_38 rfl ?_
  refine g_sub [1, 2, 0] [(0, .ref a0), (1, .int x1), (2, .int (x2 + 1))] rfl ?_
  exact hrc4 _ _ _ hf
set_option maxHeartbeats 4000000 in
set_option maxRecDepth 100000 in
theorem w_X5_lateGangs_4 {l : Launch} {w : Wp} {L : Ly} {E : Cx} {a0 : Nat} {R0 : Int32 × Mm} (cx : Ok w L E RX5 cX5_lateGangs 3 0) (en : En w L E (some .int) R0) (h0 : LService w L (a0)) : ∀ (k : Nat) {M : Mm} {x1 x2 : Int32}, l_X5_lateGangs_4 a0 k M x1 x2 = some R0 → G l w L E M [(0, .ref a0), (1, .int x1), (2, .int x2)] 4 [] := by
  intro k
  induction k with
  | zero =>
    intro M x1 x2 hf
    exact absurd hf (by simp [l_X5_lateGangs_4])
  | succ k ih =>
    intro M x1 x2 hf
    unfold l_X5_lateGangs_4 at hf
    refine g_iload_n (pc := 4) cx dX5_lateGangs_4 rfl 2 rfl ?_
    refine g_bipush (pc := 5) (v := 10) cx dX5_lateGangs_5 (by decide) ?_
    refine g_icmp_ge (pc := 7) (tgt := 41) cx dX5_lateGangs_7 rfl hf (fun hf => ?_) (fun hf => ?_)
    · refine g_aload_n (pc := 10) cx dX5_lateGangs_10 rfl 0 rfl ?_
      refine fg_X5_26 (pc := 11) cx dX5_lateGangs_11 h0 ?_
      refine g_iload_n (pc := 14) cx dX5_lateGangs_14 rfl 2 rfl ?_
      refine g_zald (pc := 15) cx (LService_gang h0) dX5_lateGangs_15 hf (fun hf => ?_)
      refine g_if_eq (pc := 16) (tgt := 35) cx dX5_lateGangs_16 rfl hf (fun hf => ?_) (fun hf => ?_)
      · exact w_X5_lateGangs_35 cx en h0 (fun _ _ _ hf => ih hf) hf
      · refine g_aload_n (pc := 19) cx dX5_lateGangs_19 rfl 0 rfl ?_
        refine fg_X5_38 (pc := 20) cx dX5_lateGangs_20 h0 ?_
        refine g_aload_n (pc := 23) cx dX5_lateGangs_23 rfl 0 rfl ?_
        refine fg_X5_32 (pc := 24) cx dX5_lateGangs_24 h0 ?_
        refine g_iload_n (pc := 27) cx dX5_lateGangs_27 rfl 2 rfl ?_
        refine g_iald (pc := 28) cx (LService_until h0) dX5_lateGangs_28 hf (fun hf => ?_)
        refine g_icmp_le (pc := 29) (tgt := 35) cx dX5_lateGangs_29 rfl hf (fun hf => ?_) (fun hf => ?_)
        · refine g_iinc (pc := 32) cx [(1, .int (x1 + 1)), (0, .ref a0), (2, .int x2)] dX5_lateGangs_32 1 rfl rfl (by decide) rfl ?_
          refine g_sub [1, 0, 2] [(0, .ref a0), (1, .int (x1 + 1)), (2, .int x2)] rfl ?_
          exact w_X5_lateGangs_35 cx en h0 (fun _ _ _ hf => ih hf) hf
        · exact w_X5_lateGangs_35 cx en h0 (fun _ _ _ hf => ih hf) hf
    · refine g_iload_n (pc := 41) cx dX5_lateGangs_41 rfl 1 rfl ?_
      exact g_iret (pc := 42) cx en dX5_lateGangs_42 rfl hf
set_option maxHeartbeats 4000000 in
set_option maxRecDepth 100000 in
theorem c_X5_lateGangs {l : Launch} {w : Wp} {L : Ly} {a0 : Nat} {M : Mm} {R0 : Int32 × Mm} (h0 : LService w L (a0)) (hf : f_X5_lateGangs a0 M = some R0) : CT l w L yX5_lateGangs cX5_lateGangs 3 (some .int) 0 [.ref a0] M R0 := by
  unfold f_X5_lateGangs at hf
  refine CT_of pn_X5 (Nat.le_of_ble_eq_true rfl) (fun E cx en => ?_)
  have cx : Ok w L E RX5 cX5_lateGangs 3 0 := cx
  show G l w L E M [(0, .ref a0)] 0 []
  refine g_iconst (pc := 0) (v := 0) cx dX5_lateGangs_0 (by decide) ?_
  refine g_istore_n (pc := 1) cx [(1, .int 0), (0, .ref a0)] dX5_lateGangs_1 rfl (by decide) rfl ?_
  refine g_iconst (pc := 2) (v := 0) cx dX5_lateGangs_2 (by decide) ?_
  refine g_istore_n (pc := 3) cx [(2, .int 0), (1, .int 0), (0, .ref a0)] dX5_lateGangs_3 rfl (by decide) rfl ?_
  refine g_sub [2, 1, 0] [(0, .ref a0), (1, .int 0), (2, .int 0)] rfl ?_
  exact w_X5_lateGangs_4 cx en h0 FU hf
/-! X5_bringGang -/
def f_X5_bringGang (a0 : Nat) (M : Mm) (x1 x2 x3 : Int32) : OR := ckd x1 10 (bnd (mst M (a0 + 4) (ix x1) 1) fun M1 => ckd x1 10 (bnd (mst M1 (a0 + 5) (ix x1) x2) fun M2 => ckd x1 10 (bnd (mst M2 (a0 + 6) (ix x1) x3) fun M3 => some (0, M3))))
set_option maxHeartbeats 4000000 in
set_option maxRecDepth 100000 in
theorem c_X5_bringGang {l : Launch} {w : Wp} {L : Ly} {a0 : Nat} {M : Mm} {x1 x2 x3 : Int32} {R0 : Int32 × Mm} (h0 : LService w L (a0)) (hf : f_X5_bringGang a0 M x1 x2 x3 = some R0) : CT l w L yX5_bringGang cX5_bringGang 4 none 0 [.ref a0, .int x1, .int x2, .int x3] M R0 := by
  unfold f_X5_bringGang at hf
  refine CT_of pn_X5 (Nat.le_of_ble_eq_true rfl) (fun E cx en => ?_)
  have cx : Ok w L E RX5 cX5_bringGang 4 0 := cx
  show G l w L E M [(0, .ref a0), (1, .int x1), (2, .int x2), (3, .int x3)] 0 []
  refine g_aload_n (pc := 0) cx dX5_bringGang_0 rfl 0 rfl ?_
  refine fg_X5_26 (pc := 1) cx dX5_bringGang_1 h0 ?_
  refine g_iload_n (pc := 4) cx dX5_bringGang_4 rfl 1 rfl ?_
  refine g_iconst (pc := 5) (v := 1) cx dX5_bringGang_5 (by decide) ?_
  refine g_zast (pc := 6) cx (LService_gang h0) dX5_bringGang_6 hf (fun M1 hf => ?_)
  refine g_aload_n (pc := 7) cx dX5_bringGang_7 rfl 0 rfl ?_
  refine fg_X5_29 (pc := 8) cx dX5_bringGang_8 h0 ?_
  refine g_iload_n (pc := 11) cx dX5_bringGang_11 rfl 1 rfl ?_
  refine g_iload_n (pc := 12) cx dX5_bringGang_12 rfl 2 rfl ?_
  refine g_iast (pc := 13) cx (LService_brought h0) dX5_bringGang_13 hf (fun M2 hf => ?_)
  refine g_aload_n (pc := 14) cx dX5_bringGang_14 rfl 0 rfl ?_
  refine fg_X5_32 (pc := 15) cx dX5_bringGang_15 h0 ?_
  refine g_iload_n (pc := 18) cx dX5_bringGang_18 rfl 1 rfl ?_
  refine g_iload_n (pc := 19) cx dX5_bringGang_19 rfl 3 rfl ?_
  refine g_iast (pc := 20) cx (LService_until h0) dX5_bringGang_20 hf (fun M3 hf => ?_)
  exact g_vret (pc := 21) cx en dX5_bringGang_21 hf
/-! X5_sendGangOff -/
def f_X5_sendGangOff (a0 : Nat) (M : Mm) (x1 x2 : Int32) : OR := ckd x1 10 (bnd (if 0 < ((M a0 0) - (M (a0 + 6) (ix x1))) then ((M a0 0) - (M (a0 + 6) (ix x1))) else 0) fun v1 => ckd x1 10 (bnd (mst M (a0 + 4) (ix x1) 0) fun M2 => ckd x1 10 (ckd x1 10 (ckd x1 10 (bnd (mst M2 (a0 + 7) (ix x1) ((M2 (a0 + 7) (ix x1)) + ((M2 (a0 + 5) (ix x1)) - x2))) fun M3 => bnd (mst M3 a0 2 ((M3 a0 2) + v1)) fun M4 => some (v1, M4))))))
set_option maxHeartbeats 4000000 in
set_option maxRecDepth 100000 in
theorem c_X5_sendGangOff {l : Launch} {w : Wp} {L : Ly} {a0 : Nat} {M : Mm} {x1 x2 : Int32} {R0 : Int32 × Mm} (h0 : LService w L (a0)) (hf : f_X5_sendGangOff a0 M x1 x2 = some R0) : CT l w L yX5_sendGangOff cX5_sendGangOff 4 (some .int) 1 [.ref a0, .int x1, .int x2] M R0 := by
  unfold f_X5_sendGangOff at hf
  refine CT_of pn_X5 (Nat.le_of_ble_eq_true rfl) (fun E cx en => ?_)
  have cx : Ok w L E RX5 cX5_sendGangOff 4 1 := cx
  show G l w L E M [(0, .ref a0), (1, .int x1), (2, .int x2)] 0 []
  refine g_iconst (pc := 0) (v := 0) cx dX5_sendGangOff_0 (by decide) ?_
  refine g_aload_n (pc := 1) cx dX5_sendGangOff_1 rfl 0 rfl ?_
  refine fg_X5_38 (pc := 2) cx dX5_sendGangOff_2 h0 ?_
  refine g_aload_n (pc := 5) cx dX5_sendGangOff_5 rfl 0 rfl ?_
  refine fg_X5_32 (pc := 6) cx dX5_sendGangOff_6 h0 ?_
  refine g_iload_n (pc := 9) cx dX5_sendGangOff_9 rfl 1 rfl ?_
  refine g_iald (pc := 10) cx (LService_until h0) dX5_sendGangOff_10 hf (fun hf => ?_)
  refine g_isub (pc := 11) cx dX5_sendGangOff_11 ?_
  refine g_max (pc := 12) cx (by decide) tm_X5_54 dX5_sendGangOff_12 (Nat.le_of_ble_eq_true rfl) ?_
  refine g_nm hf (fun v1 hf => ?_)
  refine g_istore_n (pc := 15) cx [(3, .int v1), (0, .ref a0), (1, .int x1), (2, .int x2)] dX5_sendGangOff_15 rfl (by decide) rfl ?_
  refine g_aload_n (pc := 16) cx dX5_sendGangOff_16 rfl 1 rfl ?_
  refine fg_X5_26 (pc := 17) cx dX5_sendGangOff_17 h0 ?_
  refine g_iload_n (pc := 20) cx dX5_sendGangOff_20 rfl 2 rfl ?_
  refine g_iconst (pc := 21) (v := 0) cx dX5_sendGangOff_21 (by decide) ?_
  refine g_zast (pc := 22) cx (LService_gang h0) dX5_sendGangOff_22 hf (fun M2 hf => ?_)
  refine g_aload_n (pc := 23) cx dX5_sendGangOff_23 rfl 1 rfl ?_
  refine fg_X5_35 (pc := 24) cx dX5_sendGangOff_24 h0 ?_
  refine g_iload_n (pc := 27) cx dX5_sendGangOff_27 rfl 2 rfl ?_
  refine g_dup2 (pc := 28) cx dX5_sendGangOff_28 rfl rfl ?_
  refine g_iald (pc := 29) cx (LService_tools h0) dX5_sendGangOff_29 hf (fun hf => ?_)
  refine g_aload_n (pc := 30) cx dX5_sendGangOff_30 rfl 1 rfl ?_
  refine fg_X5_29 (pc := 31) cx dX5_sendGangOff_31 h0 ?_
  refine g_iload_n (pc := 34) cx dX5_sendGangOff_34 rfl 2 rfl ?_
  refine g_iald (pc := 35) cx (LService_brought h0) dX5_sendGangOff_35 hf (fun hf => ?_)
  refine g_iload_n (pc := 36) cx dX5_sendGangOff_36 rfl 3 rfl ?_
  refine g_isub (pc := 37) cx dX5_sendGangOff_37 ?_
  refine g_iadd (pc := 38) cx dX5_sendGangOff_38 ?_
  refine g_iast (pc := 39) cx (LService_tools h0) dX5_sendGangOff_39 hf (fun M3 hf => ?_)
  refine g_aload_n (pc := 40) cx dX5_sendGangOff_40 rfl 1 rfl ?_
  refine g_dup (pc := 41) cx dX5_sendGangOff_41 rfl ?_
  refine fg_X5_41 (pc := 42) cx dX5_sendGangOff_42 h0 ?_
  refine g_iload_n (pc := 45) cx dX5_sendGangOff_45 rfl 0 rfl ?_
  refine g_iadd (pc := 46) cx dX5_sendGangOff_46 ?_
  refine fp_X5_41 (pc := 47) cx dX5_sendGangOff_47 h0 hf (fun M4 hf => ?_)
  refine g_iload_n (pc := 50) cx dX5_sendGangOff_50 rfl 0 rfl ?_
  exact g_iret (pc := 51) cx en dX5_sendGangOff_51 rfl hf
/-! X2_copyFrom -/
def f_X2_copyFrom (a0 a1 : Nat) (M : Mm) : OR := bnd (mst M a0 0 (M a1 0)) fun M1 => bnd (mst M1 a0 1 (M1 a1 1)) fun M2 => cpk 0 0 10 10 10 (bnd (mrow M2 (a0 + 1) (va_cpy (M2 (a1 + 1)) (M2 (a0 + 1)) (ix 0) (ix 0) (ix 10))) fun M3 => cpk 0 0 16 16 16 (bnd (mrow M3 (a0 + 2) (va_cpy (M3 (a1 + 2)) (M3 (a0 + 2)) (ix 0) (ix 0) (ix 16))) fun M4 => cpk 0 0 16 16 16 (bnd (mrow M4 (a0 + 3) (va_cpy (M4 (a1 + 3)) (M4 (a0 + 3)) (ix 0) (ix 0) (ix 16))) fun M5 => cpk 0 0 16 16 16 (bnd (mrow M5 (a0 + 4) (va_cpy (M5 (a1 + 4)) (M5 (a0 + 4)) (ix 0) (ix 0) (ix 16))) fun M6 => cpk 0 0 10 10 10 (bnd (mrow M6 (a0 + 5) (va_cpy (M6 (a1 + 5)) (M6 (a0 + 5)) (ix 0) (ix 0) (ix 10))) fun M7 => cpk 0 0 10 10 10 (bnd (mrow M7 (a0 + 6) (va_cpy (M7 (a1 + 6)) (M7 (a0 + 6)) (ix 0) (ix 0) (ix 10))) fun M8 => some (0, M8)))))))
set_option maxHeartbeats 4000000 in
set_option maxRecDepth 100000 in
theorem c_X2_copyFrom {l : Launch} {w : Wp} {L : Ly} {a0 a1 : Nat} {M : Mm} {R0 : Int32 × Mm} (h0 : LNet w L (a0)) (h1 : LNet w L (a1)) (hf : f_X2_copyFrom a0 a1 M = some R0) : CT l w L yX2_copyFrom cX2_copyFrom 2 none 1 [.ref a0, .ref a1] M R0 := by
  unfold f_X2_copyFrom at hf
  refine CT_of pn_X2 (Nat.le_of_ble_eq_true rfl) (fun E cx en => ?_)
  have cx : Ok w L E RX2 cX2_copyFrom 2 1 := cx
  show G l w L E M [(0, .ref a0), (1, .ref a1)] 0 []
  refine g_aload_n (pc := 0) cx dX2_copyFrom_0 rfl 0 rfl ?_
  refine g_aload_n (pc := 1) cx dX2_copyFrom_1 rfl 1 rfl ?_
  refine fg_X2_31 (pc := 2) cx dX2_copyFrom_2 h1 ?_
  refine fp_X2_31 (pc := 5) cx dX2_copyFrom_5 h0 hf (fun M1 hf => ?_)
  refine g_aload_n (pc := 8) cx dX2_copyFrom_8 rfl 0 rfl ?_
  refine g_aload_n (pc := 9) cx dX2_copyFrom_9 rfl 1 rfl ?_
  refine fg_X2_35 (pc := 10) cx dX2_copyFrom_10 h1 ?_
  refine fp_X2_35 (pc := 13) cx dX2_copyFrom_13 h0 hf (fun M2 hf => ?_)
  refine g_aload_n (pc := 16) cx dX2_copyFrom_16 rfl 1 rfl ?_
  refine fg_X2_9 (pc := 17) cx dX2_copyFrom_17 h1 ?_
  refine g_iconst (pc := 20) (v := 0) cx dX2_copyFrom_20 (by decide) ?_
  refine g_aload_n (pc := 21) cx dX2_copyFrom_21 rfl 0 rfl ?_
  refine fg_X2_9 (pc := 22) cx dX2_copyFrom_22 h0 ?_
  refine g_iconst (pc := 25) (v := 0) cx dX2_copyFrom_25 (by decide) ?_
  refine g_bipush (pc := 26) (v := 10) cx dX2_copyFrom_26 (by decide) ?_
  refine g_cpyI (pc := 28) cx (by decide) tm_X2_38 (LNet_feeder h1) (LNet_feeder h0) dX2_copyFrom_28 hf (Nat.le_of_ble_eq_true rfl) (fun M3 hf => ?_)
  refine g_aload_n (pc := 31) cx dX2_copyFrom_31 rfl 1 rfl ?_
  refine fg_X2_15 (pc := 32) cx dX2_copyFrom_32 h1 ?_
  refine g_iconst (pc := 35) (v := 0) cx dX2_copyFrom_35 (by decide) ?_
  refine g_aload_n (pc := 36) cx dX2_copyFrom_36 rfl 0 rfl ?_
  refine fg_X2_15 (pc := 37) cx dX2_copyFrom_37 h0 ?_
  refine g_iconst (pc := 40) (v := 0) cx dX2_copyFrom_40 (by decide) ?_
  refine g_bipush (pc := 41) (v := 16) cx dX2_copyFrom_41 (by decide) ?_
  refine g_cpyI (pc := 43) cx (by decide) tm_X2_38 (LNet_one h1) (LNet_one h0) dX2_copyFrom_43 hf (Nat.le_of_ble_eq_true rfl) (fun M4 hf => ?_)
  refine g_aload_n (pc := 46) cx dX2_copyFrom_46 rfl 1 rfl ?_
  refine fg_X2_18 (pc := 47) cx dX2_copyFrom_47 h1 ?_
  refine g_iconst (pc := 50) (v := 0) cx dX2_copyFrom_50 (by decide) ?_
  refine g_aload_n (pc := 51) cx dX2_copyFrom_51 rfl 0 rfl ?_
  refine fg_X2_18 (pc := 52) cx dX2_copyFrom_52 h0 ?_
  refine g_iconst (pc := 55) (v := 0) cx dX2_copyFrom_55 (by decide) ?_
  refine g_bipush (pc := 56) (v := 16) cx dX2_copyFrom_56 (by decide) ?_
  refine g_cpyI (pc := 58) cx (by decide) tm_X2_38 (LNet_other h1) (LNet_other h0) dX2_copyFrom_58 hf (Nat.le_of_ble_eq_true rfl) (fun M5 hf => ?_)
  refine g_aload_n (pc := 61) cx dX2_copyFrom_61 rfl 1 rfl ?_
  refine fg_X2_21 (pc := 62) cx dX2_copyFrom_62 h1 ?_
  refine g_iconst (pc := 65) (v := 0) cx dX2_copyFrom_65 (by decide) ?_
  refine g_aload_n (pc := 66) cx dX2_copyFrom_66 rfl 0 rfl ?_
  refine fg_X2_21 (pc := 67) cx dX2_copyFrom_67 h0 ?_
  refine g_iconst (pc := 70) (v := 0) cx dX2_copyFrom_70 (by decide) ?_
  refine g_bipush (pc := 71) (v := 16) cx dX2_copyFrom_71 (by decide) ?_
  refine g_cpyZ (pc := 73) cx (by decide) tm_X2_38 (LNet_closed h1) (LNet_closed h0) dX2_copyFrom_73 hf (Nat.le_of_ble_eq_true rfl) (fun M6 hf => ?_)
  refine g_aload_n (pc := 76) cx dX2_copyFrom_76 rfl 1 rfl ?_
  refine fg_X2_25 (pc := 77) cx dX2_copyFrom_77 h1 ?_
  refine g_iconst (pc := 80) (v := 0) cx dX2_copyFrom_80 (by decide) ?_
  refine g_aload_n (pc := 81) cx dX2_copyFrom_81 rfl 0 rfl ?_
  refine fg_X2_25 (pc := 82) cx dX2_copyFrom_82 h0 ?_
  refine g_iconst (pc := 85) (v := 0) cx dX2_copyFrom_85 (by decide) ?_
  refine g_bipush (pc := 86) (v := 10) cx dX2_copyFrom_86 (by decide) ?_
  refine g_cpyI (pc := 88) cx (by decide) tm_X2_38 (LNet_lowest h1) (LNet_lowest h0) dX2_copyFrom_88 hf (Nat.le_of_ble_eq_true rfl) (fun M7 hf => ?_)
  refine g_aload_n (pc := 91) cx dX2_copyFrom_91 rfl 1 rfl ?_
  refine fg_X2_28 (pc := 92) cx dX2_copyFrom_92 h1 ?_
  refine g_iconst (pc := 95) (v := 0) cx dX2_copyFrom_95 (by decide) ?_
  refine g_aload_n (pc := 96) cx dX2_copyFrom_96 rfl 0 rfl ?_
  refine fg_X2_28 (pc := 97) cx dX2_copyFrom_97 h0 ?_
  refine g_iconst (pc := 100) (v := 0) cx dX2_copyFrom_100 (by decide) ?_
  refine g_bipush (pc := 101) (v := 10) cx dX2_copyFrom_101 (by decide) ?_
  refine g_cpyZ (pc := 103) cx (by decide) tm_X2_38 (LNet_live h1) (LNet_live h0) dX2_copyFrom_103 hf (Nat.le_of_ble_eq_true rfl) (fun M8 hf => ?_)
  exact g_vret (pc := 106) cx en dX2_copyFrom_106 hf
/-! X2_feed -/
def b_X2_feed_55 (a0 : Nat) (rc25 : Mm → Int32 → OR) (M : Mm) (x1 : Int32) : OR := rc25 M (x1 + 1)
def l_X2_feed_63 (a0 : Nat) : Nat → Mm → Int32 → OR
  | 0, _, _ => none
  | k + 1, M, x1 => if x1 < (M a0 0) then ckd x1 10 (ckd (M (a0 + 5) (ix x1)) 10 (ckd x1 10 (bnd (mst M (a0 + 6) (ix x1) (zb (M (a0 + 6) (ix (M (a0 + 5) (ix x1)))))) fun M1 => l_X2_feed_63 a0 k M1 (x1 + 1)))) else some (0, M)
def l_X2_feed_25 (a0 : Nat) : Nat → Mm → Int32 → OR
  | 0, _, _ => none
  | k + 1, M, x1 => if x1 < (M a0 0) then ckd x1 10 (if (M (a0 + 1) (ix x1)) = 2 then ckd x1 10 (ckd (M (a0 + 5) (ix x1)) 10 (bnd (mst M (a0 + 6) (ix (M (a0 + 5) (ix x1))) 1) fun M1 => b_X2_feed_55 a0 (l_X2_feed_25 a0 k) M1 x1)) else b_X2_feed_55 a0 (l_X2_feed_25 a0 k) M x1) else l_X2_feed_63 a0 FU M 0
def l_X2_feed_2 (a0 : Nat) : Nat → Mm → Int32 → OR
  | 0, _, _ => none
  | k + 1, M, x1 => if x1 < (M a0 0) then ckd x1 10 (bnd (mst M (a0 + 6) (ix x1) 0) fun M1 => l_X2_feed_2 a0 k M1 (x1 + 1)) else l_X2_feed_25 a0 FU M 0
def f_X2_feed (a0 : Nat) (M : Mm) : OR := l_X2_feed_2 a0 FU M 0
set_option maxHeartbeats 4000000 in
set_option maxRecDepth 100000 in
theorem w_X2_feed_55 {l : Launch} {w : Wp} {L : Ly} {E : Cx} {a0 : Nat} {rc25 : Mm → Int32 → OR} {x1 : Int32} {R0 : Int32 × Mm} (cx : Ok w L E RX2 cX2_feed 2 0) (en : En w L E none R0) (h0 : LNet w L (a0)) (hrc25 : ∀ (M : Mm) (x1 : Int32), rc25 M x1 = some R0 → G l w L E M [(0, .ref a0), (1, .int x1)] 25 []) {M : Mm} (hf : b_X2_feed_55 a0 rc25 M x1 = some R0) : G l w L E M [(0, .ref a0), (1, .int x1)] 55 [] := by
  unfold b_X2_feed_55 at hf
  refine g_iinc (pc := 55) cx [(1, .int (x1 + 1)), (0, .ref a0)] dX2_feed_55 1 rfl rfl (by decide) rfl ?_
  refine g_goto (pc := 58) (tgt := 25) cx dX2_feed_58 rfl ?_
  refine g_sub [1, 0] [(0, .ref a0), (1, .int (x1 + 1))] rfl ?_
  exact hrc25 _ _ hf
set_option maxHeartbeats 4000000 in
set_option maxRecDepth 100000 in
theorem w_X2_feed_63 {l : Launch} {w : Wp} {L : Ly} {E : Cx} {a0 : Nat} {R0 : Int32 × Mm} (cx : Ok w L E RX2 cX2_feed 2 0) (en : En w L E none R0) (h0 : LNet w L (a0)) : ∀ (k : Nat) {M : Mm} {x1 : Int32}, l_X2_feed_63 a0 k M x1 = some R0 → G l w L E M [(0, .ref a0), (1, .int x1)] 63 [] := by
  intro k
  induction k with
  | zero =>
    intro M x1 hf
    exact absurd hf (by simp [l_X2_feed_63])
  | succ k ih =>
    intro M x1 hf
    unfold l_X2_feed_63 at hf
    refine g_iload_n (pc := 63) cx dX2_feed_63 rfl 1 rfl ?_
    refine g_aload_n (pc := 64) cx dX2_feed_64 rfl 0 rfl ?_
    refine fg_X2_31 (pc := 65) cx dX2_feed_65 h0 ?_
    refine g_icmp_ge (pc := 68) (tgt := 94) cx dX2_feed_68 rfl hf (fun hf => ?_) (fun hf => ?_)
    · refine g_aload_n (pc := 71) cx dX2_feed_71 rfl 0 rfl ?_
      refine fg_X2_28 (pc := 72) cx dX2_feed_72 h0 ?_
      refine g_iload_n (pc := 75) cx dX2_feed_75 rfl 1 rfl ?_
      refine g_aload_n (pc := 76) cx dX2_feed_76 rfl 0 rfl ?_
      refine fg_X2_28 (pc := 77) cx dX2_feed_77 h0 ?_
      refine g_aload_n (pc := 80) cx dX2_feed_80 rfl 0 rfl ?_
      refine fg_X2_25 (pc := 81) cx dX2_feed_81 h0 ?_
      refine g_iload_n (pc := 84) cx dX2_feed_84 rfl 1 rfl ?_
      refine g_iald (pc := 85) cx (LNet_lowest h0) dX2_feed_85 hf (fun hf => ?_)
      refine g_zald (pc := 86) cx (LNet_live h0) dX2_feed_86 hf (fun hf => ?_)
      refine g_zast (pc := 87) cx (LNet_live h0) dX2_feed_87 hf (fun M1 hf => ?_)
      refine g_iinc (pc := 88) cx [(1, .int (x1 + 1)), (0, .ref a0)] dX2_feed_88 1 rfl rfl (by decide) rfl ?_
      refine g_goto (pc := 91) (tgt := 63) cx dX2_feed_91 rfl ?_
      refine g_sub [1, 0] [(0, .ref a0), (1, .int (x1 + 1))] rfl ?_
      exact ih hf
    · exact g_vret (pc := 94) cx en dX2_feed_94 hf
set_option maxHeartbeats 4000000 in
set_option maxRecDepth 100000 in
theorem w_X2_feed_25 {l : Launch} {w : Wp} {L : Ly} {E : Cx} {a0 : Nat} {R0 : Int32 × Mm} (cx : Ok w L E RX2 cX2_feed 2 0) (en : En w L E none R0) (h0 : LNet w L (a0)) : ∀ (k : Nat) {M : Mm} {x1 : Int32}, l_X2_feed_25 a0 k M x1 = some R0 → G l w L E M [(0, .ref a0), (1, .int x1)] 25 [] := by
  intro k
  induction k with
  | zero =>
    intro M x1 hf
    exact absurd hf (by simp [l_X2_feed_25])
  | succ k ih =>
    intro M x1 hf
    unfold l_X2_feed_25 at hf
    refine g_iload_n (pc := 25) cx dX2_feed_25 rfl 1 rfl ?_
    refine g_aload_n (pc := 26) cx dX2_feed_26 rfl 0 rfl ?_
    refine fg_X2_31 (pc := 27) cx dX2_feed_27 h0 ?_
    refine g_icmp_ge (pc := 30) (tgt := 61) cx dX2_feed_30 rfl hf (fun hf => ?_) (fun hf => ?_)
    · refine g_aload_n (pc := 33) cx dX2_feed_33 rfl 0 rfl ?_
      refine fg_X2_9 (pc := 34) cx dX2_feed_34 h0 ?_
      refine g_iload_n (pc := 37) cx dX2_feed_37 rfl 1 rfl ?_
      refine g_iald (pc := 38) cx (LNet_feeder h0) dX2_feed_38 hf (fun hf => ?_)
      refine g_iconst (pc := 39) (v := 2) cx dX2_feed_39 (by decide) ?_
      refine g_icmp_ne (pc := 40) (tgt := 55) cx dX2_feed_40 rfl hf (fun hf => ?_) (fun hf => ?_)
      · refine g_aload_n (pc := 43) cx dX2_feed_43 rfl 0 rfl ?_
        refine fg_X2_28 (pc := 44) cx dX2_feed_44 h0 ?_
        refine g_aload_n (pc := 47) cx dX2_feed_47 rfl 0 rfl ?_
        refine fg_X2_25 (pc := 48) cx dX2_feed_48 h0 ?_
        refine g_iload_n (pc := 51) cx dX2_feed_51 rfl 1 rfl ?_
        refine g_iald (pc := 52) cx (LNet_lowest h0) dX2_feed_52 hf (fun hf => ?_)
        refine g_iconst (pc := 53) (v := 1) cx dX2_feed_53 (by decide) ?_
        refine g_zast (pc := 54) cx (LNet_live h0) dX2_feed_54 hf (fun M1 hf => ?_)
        exact w_X2_feed_55 cx en h0 (fun _ _ hf => ih hf) hf
      · exact w_X2_feed_55 cx en h0 (fun _ _ hf => ih hf) hf
    · refine g_iconst (pc := 61) (v := 0) cx dX2_feed_61 (by decide) ?_
      refine g_istore_n (pc := 62) cx [(1, .int 0), (0, .ref a0)] dX2_feed_62 rfl (by decide) rfl ?_
      refine g_sub [1, 0] [(0, .ref a0), (1, .int 0)] rfl ?_
      exact w_X2_feed_63 cx en h0 FU hf
set_option maxHeartbeats 4000000 in
set_option maxRecDepth 100000 in
theorem w_X2_feed_2 {l : Launch} {w : Wp} {L : Ly} {E : Cx} {a0 : Nat} {R0 : Int32 × Mm} (cx : Ok w L E RX2 cX2_feed 2 0) (en : En w L E none R0) (h0 : LNet w L (a0)) : ∀ (k : Nat) {M : Mm} {x1 : Int32}, l_X2_feed_2 a0 k M x1 = some R0 → G l w L E M [(0, .ref a0), (1, .int x1)] 2 [] := by
  intro k
  induction k with
  | zero =>
    intro M x1 hf
    exact absurd hf (by simp [l_X2_feed_2])
  | succ k ih =>
    intro M x1 hf
    unfold l_X2_feed_2 at hf
    refine g_iload_n (pc := 2) cx dX2_feed_2 rfl 1 rfl ?_
    refine g_aload_n (pc := 3) cx dX2_feed_3 rfl 0 rfl ?_
    refine fg_X2_31 (pc := 4) cx dX2_feed_4 h0 ?_
    refine g_icmp_ge (pc := 7) (tgt := 23) cx dX2_feed_7 rfl hf (fun hf => ?_) (fun hf => ?_)
    · refine g_aload_n (pc := 10) cx dX2_feed_10 rfl 0 rfl ?_
      refine fg_X2_28 (pc := 11) cx dX2_feed_11 h0 ?_
      refine g_iload_n (pc := 14) cx dX2_feed_14 rfl 1 rfl ?_
      refine g_iconst (pc := 15) (v := 0) cx dX2_feed_15 (by decide) ?_
      refine g_zast (pc := 16) cx (LNet_live h0) dX2_feed_16 hf (fun M1 hf => ?_)
      refine g_iinc (pc := 17) cx [(1, .int (x1 + 1)), (0, .ref a0)] dX2_feed_17 1 rfl rfl (by decide) rfl ?_
      refine g_goto (pc := 20) (tgt := 2) cx dX2_feed_20 rfl ?_
      refine g_sub [1, 0] [(0, .ref a0), (1, .int (x1 + 1))] rfl ?_
      exact ih hf
    · refine g_iconst (pc := 23) (v := 0) cx dX2_feed_23 (by decide) ?_
      refine g_istore_n (pc := 24) cx [(1, .int 0), (0, .ref a0)] dX2_feed_24 rfl (by decide) rfl ?_
      refine g_sub [1, 0] [(0, .ref a0), (1, .int 0)] rfl ?_
      exact w_X2_feed_25 cx en h0 FU hf
set_option maxHeartbeats 4000000 in
set_option maxRecDepth 100000 in
theorem c_X2_feed {l : Launch} {w : Wp} {L : Ly} {a0 : Nat} {M : Mm} {R0 : Int32 × Mm} (h0 : LNet w L (a0)) (hf : f_X2_feed a0 M = some R0) : CT l w L yX2_feed cX2_feed 2 none 0 [.ref a0] M R0 := by
  unfold f_X2_feed at hf
  refine CT_of pn_X2 (Nat.le_of_ble_eq_true rfl) (fun E cx en => ?_)
  have cx : Ok w L E RX2 cX2_feed 2 0 := cx
  show G l w L E M [(0, .ref a0)] 0 []
  refine g_iconst (pc := 0) (v := 0) cx dX2_feed_0 (by decide) ?_
  refine g_istore_n (pc := 1) cx [(1, .int 0), (0, .ref a0)] dX2_feed_1 rfl (by decide) rfl ?_
  refine g_sub [1, 0] [(0, .ref a0), (1, .int 0)] rfl ?_
  exact w_X2_feed_2 cx en h0 FU hf
/-! X2_setFeeder -/
def f_X2_setFeeder (a0 : Nat) (M : Mm) (x1 x2 : Int32) : OR := ckd x1 10 (bnd (mst M (a0 + 1) (ix x1) x2) fun M1 => obn (f_X2_feed a0 M1) fun _ M2 => (some (0, M2)))
set_option maxHeartbeats 4000000 in
set_option maxRecDepth 100000 in
theorem c_X2_setFeeder {l : Launch} {w : Wp} {L : Ly} {a0 : Nat} {M : Mm} {x1 x2 : Int32} {R0 : Int32 × Mm} (h0 : LNet w L (a0)) (hf : f_X2_setFeeder a0 M x1 x2 = some R0) : CT l w L yX2_setFeeder cX2_setFeeder 3 none 1 [.ref a0, .int x1, .int x2] M R0 := by
  unfold f_X2_setFeeder at hf
  refine CT_of pn_X2 (Nat.le_of_ble_eq_true rfl) (fun E cx en => ?_)
  have cx : Ok w L E RX2 cX2_setFeeder 3 1 := cx
  show G l w L E M [(0, .ref a0), (1, .int x1), (2, .int x2)] 0 []
  refine g_aload_n (pc := 0) cx dX2_setFeeder_0 rfl 0 rfl ?_
  refine fg_X2_9 (pc := 1) cx dX2_setFeeder_1 h0 ?_
  refine g_iload_n (pc := 4) cx dX2_setFeeder_4 rfl 1 rfl ?_
  refine g_iload_n (pc := 5) cx dX2_setFeeder_5 rfl 2 rfl ?_
  refine g_iast (pc := 6) cx (LNet_feeder h0) dX2_setFeeder_6 hf (fun M1 hf => ?_)
  refine g_aload_n (pc := 7) cx dX2_setFeeder_7 rfl 0 rfl ?_
  obtain ⟨q4, M2, hc3, hf⟩ := obn_some2 hf
  refine g_callVv (pc := 8) [] [] cx lk_X2_44 vw_X2 (LNet_o h0) (by decide) (c_X2_feed h0 hc3) dX2_setFeeder_8 (Nat.le_of_ble_eq_true rfl) ?_
  exact g_vret (pc := 11) cx en dX2_setFeeder_11 hf
/-! X2_shareLowest -/
def b_X2_shareLowest_86 (a0 : Nat) (rc2 : Mm → Int32 → OR) (M : Mm) (x1 : Int32) : OR := rc2 M (x1 + 1)
def b_X2_shareLowest_63 (a0 : Nat) (rc2 : Mm → Int32 → OR) (M : Mm) (x1 s1 s2 : Int32) : OR := ckd s1 10 (bnd (mst M (a0 + 5) (ix s1) s2) fun M1 => ckd x1 16 (ckd x1 16 (ckd (M1 (a0 + 2) (ix x1)) 10 (ckd (M1 (a0 + 3) (ix x1)) 10 (bnd (mst M1 (a0 + 5) (ix (M1 (a0 + 3) (ix x1))) (M1 (a0 + 5) (ix (M1 (a0 + 2) (ix x1))))) fun M2 => b_X2_shareLowest_86 a0 rc2 M2 x1)))))
def l_X2_shareLowest_2 (a0 : Nat) : Nat → Mm → Int32 → OR
  | 0, _, _ => none
  | k + 1, M, x1 => if x1 < (M a0 1) then ckd x1 16 (if (zb (M (a0 + 4) (ix x1))) = 0 then b_X2_shareLowest_86 a0 (l_X2_shareLowest_2 a0 k) M x1 else ckd x1 16 (ckd (M (a0 + 2) (ix x1)) 10 (bnd (M (a0 + 5) (ix (M (a0 + 2) (ix x1)))) fun v1 => ckd x1 16 (ckd (M (a0 + 3) (ix x1)) 10 (bnd (M (a0 + 5) (ix (M (a0 + 3) (ix x1)))) fun v2 => ckd x1 16 (if v1 < v2 then b_X2_shareLowest_63 a0 (l_X2_shareLowest_2 a0 k) M x1 (M (a0 + 2) (ix x1)) v1 else b_X2_shareLowest_63 a0 (l_X2_shareLowest_2 a0 k) M x1 (M (a0 + 2) (ix x1)) v2)))))) else some (0, M)
def f_X2_shareLowest (a0 : Nat) (M : Mm) : OR := l_X2_shareLowest_2 a0 FU M 0
set_option maxHeartbeats 4000000 in
set_option maxRecDepth 100000 in
theorem w_X2_shareLowest_86 {l : Launch} {w : Wp} {L : Ly} {E : Cx} {a0 : Nat} {rc2 : Mm → Int32 → OR} {x1 : Int32} {R0 : Int32 × Mm} (cx : Ok w L E RX2 cX2_shareLowest 4 0) (en : En w L E none R0) (h0 : LNet w L (a0)) (hrc2 : ∀ (M : Mm) (x1 : Int32), rc2 M x1 = some R0 → G l w L E M [(0, .ref a0), (1, .int x1)] 2 []) {M : Mm} (hf : b_X2_shareLowest_86 a0 rc2 M x1 = some R0) : G l w L E M [(0, .ref a0), (1, .int x1)] 86 [] := by
  unfold b_X2_shareLowest_86 at hf
  refine g_iinc (pc := 86) cx [(1, .int (x1 + 1)), (0, .ref a0)] dX2_shareLowest_86 1 rfl rfl (by decide) rfl ?_
  refine g_goto (pc := 89) (tgt := 2) cx dX2_shareLowest_89 rfl ?_
  refine g_sub [1, 0] [(0, .ref a0), (1, .int (x1 + 1))] rfl ?_
  exact hrc2 _ _ hf
set_option maxHeartbeats 4000000 in
set_option maxRecDepth 100000 in
theorem w_X2_shareLowest_63 {l : Launch} {w : Wp} {L : Ly} {E : Cx} {a0 : Nat} {rc2 : Mm → Int32 → OR} {x1 s1 s2 : Int32} {R0 : Int32 × Mm} (cx : Ok w L E RX2 cX2_shareLowest 4 0) (en : En w L E none R0) (h0 : LNet w L (a0)) (hrc2 : ∀ (M : Mm) (x1 : Int32), rc2 M x1 = some R0 → G l w L E M [(0, .ref a0), (1, .int x1)] 2 []) {M : Mm} (hf : b_X2_shareLowest_63 a0 rc2 M x1 s1 s2 = some R0) : G l w L E M [(0, .ref a0), (1, .int x1)] 63 [.int s2, .int s1, .ref (a0 + 5)] := by
  unfold b_X2_shareLowest_63 at hf
  refine g_iast (pc := 63) cx (LNet_lowest h0) dX2_shareLowest_63 hf (fun M1 hf => ?_)
  refine g_aload_n (pc := 64) cx dX2_shareLowest_64 rfl 0 rfl ?_
  refine fg_X2_25 (pc := 65) cx dX2_shareLowest_65 h0 ?_
  refine g_aload_n (pc := 68) cx dX2_shareLowest_68 rfl 0 rfl ?_
  refine fg_X2_18 (pc := 69) cx dX2_shareLowest_69 h0 ?_
  refine g_iload_n (pc := 72) cx dX2_shareLowest_72 rfl 1 rfl ?_
  refine g_iald (pc := 73) cx (LNet_other h0) dX2_shareLowest_73 hf (fun hf => ?_)
  refine g_aload_n (pc := 74) cx dX2_shareLowest_74 rfl 0 rfl ?_
  refine fg_X2_25 (pc := 75) cx dX2_shareLowest_75 h0 ?_
  refine g_aload_n (pc := 78) cx dX2_shareLowest_78 rfl 0 rfl ?_
  refine fg_X2_15 (pc := 79) cx dX2_shareLowest_79 h0 ?_
  refine g_iload_n (pc := 82) cx dX2_shareLowest_82 rfl 1 rfl ?_
  refine g_iald (pc := 83) cx (LNet_one h0) dX2_shareLowest_83 hf (fun hf => ?_)
  refine g_iald (pc := 84) cx (LNet_lowest h0) dX2_shareLowest_84 hf (fun hf => ?_)
  refine g_iast (pc := 85) cx (LNet_lowest h0) dX2_shareLowest_85 hf (fun M2 hf => ?_)
  exact w_X2_shareLowest_86 cx en h0 hrc2 hf
set_option maxHeartbeats 4000000 in
set_option maxRecDepth 100000 in
theorem w_X2_shareLowest_2 {l : Launch} {w : Wp} {L : Ly} {E : Cx} {a0 : Nat} {R0 : Int32 × Mm} (cx : Ok w L E RX2 cX2_shareLowest 4 0) (en : En w L E none R0) (h0 : LNet w L (a0)) : ∀ (k : Nat) {M : Mm} {x1 : Int32}, l_X2_shareLowest_2 a0 k M x1 = some R0 → G l w L E M [(0, .ref a0), (1, .int x1)] 2 [] := by
  intro k
  induction k with
  | zero =>
    intro M x1 hf
    exact absurd hf (by simp [l_X2_shareLowest_2])
  | succ k ih =>
    intro M x1 hf
    unfold l_X2_shareLowest_2 at hf
    refine g_iload_n (pc := 2) cx dX2_shareLowest_2 rfl 1 rfl ?_
    refine g_aload_n (pc := 3) cx dX2_shareLowest_3 rfl 0 rfl ?_
    refine fg_X2_35 (pc := 4) cx dX2_shareLowest_4 h0 ?_
    refine g_icmp_ge (pc := 7) (tgt := 92) cx dX2_shareLowest_7 rfl hf (fun hf => ?_) (fun hf => ?_)
    · refine g_aload_n (pc := 10) cx dX2_shareLowest_10 rfl 0 rfl ?_
      refine fg_X2_21 (pc := 11) cx dX2_shareLowest_11 h0 ?_
      refine g_iload_n (pc := 14) cx dX2_shareLowest_14 rfl 1 rfl ?_
      refine g_zald (pc := 15) cx (LNet_closed h0) dX2_shareLowest_15 hf (fun hf => ?_)
      refine g_if_eq (pc := 16) (tgt := 86) cx dX2_shareLowest_16 rfl hf (fun hf => ?_) (fun hf => ?_)
      · exact w_X2_shareLowest_86 cx en h0 (fun _ _ hf => ih hf) hf
      · refine g_aload_n (pc := 19) cx dX2_shareLowest_19 rfl 0 rfl ?_
        refine fg_X2_25 (pc := 20) cx dX2_shareLowest_20 h0 ?_
        refine g_aload_n (pc := 23) cx dX2_shareLowest_23 rfl 0 rfl ?_
        refine fg_X2_15 (pc := 24) cx dX2_shareLowest_24 h0 ?_
        refine g_iload_n (pc := 27) cx dX2_shareLowest_27 rfl 1 rfl ?_
        refine g_iald (pc := 28) cx (LNet_one h0) dX2_shareLowest_28 hf (fun hf => ?_)
        refine g_iald (pc := 29) cx (LNet_lowest h0) dX2_shareLowest_29 hf (fun hf => ?_)
        refine g_nm hf (fun v1 hf => ?_)
        refine g_istore_n (pc := 30) cx [(2, .int v1), (0, .ref a0), (1, .int x1)] dX2_shareLowest_30 rfl (by decide) rfl ?_
        refine g_aload_n (pc := 31) cx dX2_shareLowest_31 rfl 1 rfl ?_
        refine fg_X2_25 (pc := 32) cx dX2_shareLowest_32 h0 ?_
        refine g_aload_n (pc := 35) cx dX2_shareLowest_35 rfl 1 rfl ?_
        refine fg_X2_18 (pc := 36) cx dX2_shareLowest_36 h0 ?_
        refine g_iload_n (pc := 39) cx dX2_shareLowest_39 rfl 2 rfl ?_
        refine g_iald (pc := 40) cx (LNet_other h0) dX2_shareLowest_40 hf (fun hf => ?_)
        refine g_iald (pc := 41) cx (LNet_lowest h0) dX2_shareLowest_41 hf (fun hf => ?_)
        refine g_nm hf (fun v2 hf => ?_)
        refine g_istore_n (pc := 42) cx [(3, .int v2), (2, .int v1), (0, .ref a0), (1, .int x1)] dX2_shareLowest_42 rfl (by decide) rfl ?_
        refine g_aload_n (pc := 43) cx dX2_shareLowest_43 rfl 2 rfl ?_
        refine fg_X2_25 (pc := 44) cx dX2_shareLowest_44 h0 ?_
        refine g_aload_n (pc := 47) cx dX2_shareLowest_47 rfl 2 rfl ?_
        refine fg_X2_15 (pc := 48) cx dX2_shareLowest_48 h0 ?_
        refine g_iload_n (pc := 51) cx dX2_shareLowest_51 rfl 3 rfl ?_
        refine g_iald (pc := 52) cx (LNet_one h0) dX2_shareLowest_52 hf (fun hf => ?_)
        refine g_iload_n (pc := 53) cx dX2_shareLowest_53 rfl 1 rfl ?_
        refine g_iload_n (pc := 54) cx dX2_shareLowest_54 rfl 0 rfl ?_
        refine g_icmp_ge (pc := 55) (tgt := 62) cx dX2_shareLowest_55 rfl hf (fun hf => ?_) (fun hf => ?_)
        · refine g_iload_n (pc := 58) cx dX2_shareLowest_58 rfl 1 rfl ?_
          refine g_goto (pc := 59) (tgt := 63) cx dX2_shareLowest_59 rfl ?_
          refine g_sub [2, 3] [(0, .ref a0), (1, .int x1)] rfl ?_
          exact w_X2_shareLowest_63 cx en h0 (fun _ _ hf => ih hf) hf
        · refine g_iload_n (pc := 62) cx dX2_shareLowest_62 rfl 0 rfl ?_
          refine g_sub [2, 3] [(0, .ref a0), (1, .int x1)] rfl ?_
          exact w_X2_shareLowest_63 cx en h0 (fun _ _ hf => ih hf) hf
    · exact g_vret (pc := 92) cx en dX2_shareLowest_92 hf
set_option maxHeartbeats 4000000 in
set_option maxRecDepth 100000 in
theorem c_X2_shareLowest {l : Launch} {w : Wp} {L : Ly} {a0 : Nat} {M : Mm} {R0 : Int32 × Mm} (h0 : LNet w L (a0)) (hf : f_X2_shareLowest a0 M = some R0) : CT l w L yX2_shareLowest cX2_shareLowest 4 none 0 [.ref a0] M R0 := by
  unfold f_X2_shareLowest at hf
  refine CT_of pn_X2 (Nat.le_of_ble_eq_true rfl) (fun E cx en => ?_)
  have cx : Ok w L E RX2 cX2_shareLowest 4 0 := cx
  show G l w L E M [(0, .ref a0)] 0 []
  refine g_iconst (pc := 0) (v := 0) cx dX2_shareLowest_0 (by decide) ?_
  refine g_istore_n (pc := 1) cx [(1, .int 0), (0, .ref a0)] dX2_shareLowest_1 rfl (by decide) rfl ?_
  refine g_sub [1, 0] [(0, .ref a0), (1, .int 0)] rfl ?_
  exact w_X2_shareLowest_2 cx en h0 FU hf
/-! X2_setIsolator -/
def l_X2_setIsolator_32 (a0 : Nat) : Nat → Mm → Int32 → OR
  | 0, _, _ => none
  | k + 1, M, x3 => if x3 < (M a0 0) then obn (f_X2_shareLowest a0 M) fun _ M1 => (l_X2_setIsolator_32 a0 k M1 (x3 + 1)) else obn (f_X2_feed a0 M) fun _ M4 => (some (0, M4))
def l_X2_setIsolator_9 (a0 : Nat) : Nat → Mm → Int32 → OR
  | 0, _, _ => none
  | k + 1, M, x3 => if x3 < (M a0 0) then ckd x3 10 (bnd (mst M (a0 + 5) (ix x3) x3) fun M1 => l_X2_setIsolator_9 a0 k M1 (x3 + 1)) else l_X2_setIsolator_32 a0 FU M 1
def f_X2_setIsolator (a0 : Nat) (M : Mm) (x1 x2 : Int32) : OR := ckd x1 16 (bnd (mst M (a0 + 4) (ix x1) x2) fun M1 => l_X2_setIsolator_9 a0 FU M1 0)
set_option maxHeartbeats 4000000 in
set_option maxRecDepth 100000 in
theorem w_X2_setIsolator_32 {l : Launch} {w : Wp} {L : Ly} {E : Cx} {a0 : Nat} {R0 : Int32 × Mm} (cx : Ok w L E RX2 cX2_setIsolator 4 1) (en : En w L E none R0) (h0 : LNet w L (a0)) : ∀ (k : Nat) {M : Mm} {x3 : Int32}, l_X2_setIsolator_32 a0 k M x3 = some R0 → G l w L E M [(0, .ref a0), (3, .int x3)] 32 [] := by
  intro k
  induction k with
  | zero =>
    intro M x3 hf
    exact absurd hf (by simp [l_X2_setIsolator_32])
  | succ k ih =>
    intro M x3 hf
    unfold l_X2_setIsolator_32 at hf
    refine g_iload_n (pc := 32) cx dX2_setIsolator_32 rfl 1 rfl ?_
    refine g_aload_n (pc := 33) cx dX2_setIsolator_33 rfl 0 rfl ?_
    refine fg_X2_31 (pc := 34) cx dX2_setIsolator_34 h0 ?_
    refine g_icmp_ge (pc := 37) (tgt := 50) cx dX2_setIsolator_37 rfl hf (fun hf => ?_) (fun hf => ?_)
    · refine g_aload_n (pc := 40) cx dX2_setIsolator_40 rfl 0 rfl ?_
      obtain ⟨q3, M1, hc2, hf⟩ := obn_some2 hf
      refine g_callVv (pc := 41) [] [] cx lk_X2_47 vw_X2 (LNet_o h0) (by decide) (c_X2_shareLowest h0 hc2) dX2_setIsolator_41 (Nat.le_of_ble_eq_true rfl) ?_
      refine g_iinc (pc := 44) cx [(3, .int (x3 + 1)), (0, .ref a0)] dX2_setIsolator_44 1 rfl rfl (by decide) rfl ?_
      refine g_goto (pc := 47) (tgt := 32) cx dX2_setIsolator_47 rfl ?_
      refine g_sub [1, 0] [(0, .ref a0), (3, .int (x3 + 1))] rfl ?_
      exact ih hf
    · refine g_aload_n (pc := 50) cx dX2_setIsolator_50 rfl 0 rfl ?_
      obtain ⟨q6, M4, hc5, hf⟩ := obn_some2 hf
      refine g_callVv (pc := 51) [] [] cx lk_X2_44 vw_X2 (LNet_o h0) (by decide) (c_X2_feed h0 hc5) dX2_setIsolator_51 (Nat.le_of_ble_eq_true rfl) ?_
      exact g_vret (pc := 54) cx en dX2_setIsolator_54 hf
set_option maxHeartbeats 4000000 in
set_option maxRecDepth 100000 in
theorem w_X2_setIsolator_9 {l : Launch} {w : Wp} {L : Ly} {E : Cx} {a0 : Nat} {R0 : Int32 × Mm} (cx : Ok w L E RX2 cX2_setIsolator 4 1) (en : En w L E none R0) (h0 : LNet w L (a0)) : ∀ (k : Nat) {M : Mm} {x3 : Int32}, l_X2_setIsolator_9 a0 k M x3 = some R0 → G l w L E M [(0, .ref a0), (3, .int x3)] 9 [] := by
  intro k
  induction k with
  | zero =>
    intro M x3 hf
    exact absurd hf (by simp [l_X2_setIsolator_9])
  | succ k ih =>
    intro M x3 hf
    unfold l_X2_setIsolator_9 at hf
    refine g_iload_n (pc := 9) cx dX2_setIsolator_9 rfl 1 rfl ?_
    refine g_aload_n (pc := 10) cx dX2_setIsolator_10 rfl 0 rfl ?_
    refine fg_X2_31 (pc := 11) cx dX2_setIsolator_11 h0 ?_
    refine g_icmp_ge (pc := 14) (tgt := 30) cx dX2_setIsolator_14 rfl hf (fun hf => ?_) (fun hf => ?_)
    · refine g_aload_n (pc := 17) cx dX2_setIsolator_17 rfl 0 rfl ?_
      refine fg_X2_25 (pc := 18) cx dX2_setIsolator_18 h0 ?_
      refine g_iload_n (pc := 21) cx dX2_setIsolator_21 rfl 1 rfl ?_
      refine g_iload_n (pc := 22) cx dX2_setIsolator_22 rfl 1 rfl ?_
      refine g_iast (pc := 23) cx (LNet_lowest h0) dX2_setIsolator_23 hf (fun M1 hf => ?_)
      refine g_iinc (pc := 24) cx [(3, .int (x3 + 1)), (0, .ref a0)] dX2_setIsolator_24 1 rfl rfl (by decide) rfl ?_
      refine g_goto (pc := 27) (tgt := 9) cx dX2_setIsolator_27 rfl ?_
      refine g_sub [1, 0] [(0, .ref a0), (3, .int (x3 + 1))] rfl ?_
      exact ih hf
    · refine g_iconst (pc := 30) (v := 1) cx dX2_setIsolator_30 (by decide) ?_
      refine g_istore_n (pc := 31) cx [(3, .int 1), (0, .ref a0)] dX2_setIsolator_31 rfl (by decide) rfl ?_
      refine g_sub [1, 0] [(0, .ref a0), (3, .int 1)] rfl ?_
      exact w_X2_setIsolator_32 cx en h0 FU hf
set_option maxHeartbeats 4000000 in
set_option maxRecDepth 100000 in
theorem c_X2_setIsolator {l : Launch} {w : Wp} {L : Ly} {a0 : Nat} {M : Mm} {x1 x2 : Int32} {R0 : Int32 × Mm} (h0 : LNet w L (a0)) (hf : f_X2_setIsolator a0 M x1 x2 = some R0) : CT l w L yX2_setIsolator cX2_setIsolator 4 none 1 [.ref a0, .int x1, .int x2] M R0 := by
  unfold f_X2_setIsolator at hf
  refine CT_of pn_X2 (Nat.le_of_ble_eq_true rfl) (fun E cx en => ?_)
  have cx : Ok w L E RX2 cX2_setIsolator 4 1 := cx
  show G l w L E M [(0, .ref a0), (1, .int x1), (2, .int x2)] 0 []
  refine g_aload_n (pc := 0) cx dX2_setIsolator_0 rfl 0 rfl ?_
  refine fg_X2_21 (pc := 1) cx dX2_setIsolator_1 h0 ?_
  refine g_iload_n (pc := 4) cx dX2_setIsolator_4 rfl 1 rfl ?_
  refine g_iload_n (pc := 5) cx dX2_setIsolator_5 rfl 2 rfl ?_
  refine g_zast (pc := 6) cx (LNet_closed h0) dX2_setIsolator_6 hf (fun M1 hf => ?_)
  refine g_iconst (pc := 7) (v := 0) cx dX2_setIsolator_7 (by decide) ?_
  refine g_istore_n (pc := 8) cx [(3, .int 0), (0, .ref a0), (1, .int x1), (2, .int x2)] dX2_setIsolator_8 rfl (by decide) rfl ?_
  refine g_sub [1, 0] [(0, .ref a0), (3, .int 0)] rfl ?_
  exact w_X2_setIsolator_9 cx en h0 FU hf
/-! X2_areTogether -/
def b_X2_areTogether_20 (a0 : Nat) (M : Mm) (s0 : Int32) : OR := zrk s0 (some (s0, M))
def f_X2_areTogether (a0 : Nat) (M : Mm) (x1 x2 : Int32) : OR := ckd x1 10 (ckd x2 10 (if (M (a0 + 5) (ix x1)) = (M (a0 + 5) (ix x2)) then b_X2_areTogether_20 a0 M 1 else b_X2_areTogether_20 a0 M 0))
set_option maxHeartbeats 4000000 in
set_option maxRecDepth 100000 in
theorem w_X2_areTogether_20 {l : Launch} {w : Wp} {L : Ly} {E : Cx} {a0 : Nat} {s0 : Int32} {R0 : Int32 × Mm} (cx : Ok w L E RX2 cX2_areTogether 3 0) (en : En w L E (some .boolean) R0) (h0 : LNet w L (a0)) {M : Mm} (hf : b_X2_areTogether_20 a0 M s0 = some R0) : G l w L E M [] 20 [.int s0] := by
  unfold b_X2_areTogether_20 at hf
  exact g_zret (pc := 20) cx en dX2_areTogether_20 hf
set_option maxHeartbeats 4000000 in
set_option maxRecDepth 100000 in
theorem c_X2_areTogether {l : Launch} {w : Wp} {L : Ly} {a0 : Nat} {M : Mm} {x1 x2 : Int32} {R0 : Int32 × Mm} (h0 : LNet w L (a0)) (hf : f_X2_areTogether a0 M x1 x2 = some R0) : CT l w L yX2_areTogether cX2_areTogether 3 (some .boolean) 0 [.ref a0, .int x1, .int x2] M R0 := by
  unfold f_X2_areTogether at hf
  refine CT_of pn_X2 (Nat.le_of_ble_eq_true rfl) (fun E cx en => ?_)
  have cx : Ok w L E RX2 cX2_areTogether 3 0 := cx
  show G l w L E M [(0, .ref a0), (1, .int x1), (2, .int x2)] 0 []
  refine g_aload_n (pc := 0) cx dX2_areTogether_0 rfl 0 rfl ?_
  refine fg_X2_25 (pc := 1) cx dX2_areTogether_1 h0 ?_
  refine g_iload_n (pc := 4) cx dX2_areTogether_4 rfl 1 rfl ?_
  refine g_iald (pc := 5) cx (LNet_lowest h0) dX2_areTogether_5 hf (fun hf => ?_)
  refine g_aload_n (pc := 6) cx dX2_areTogether_6 rfl 0 rfl ?_
  refine fg_X2_25 (pc := 7) cx dX2_areTogether_7 h0 ?_
  refine g_iload_n (pc := 10) cx dX2_areTogether_10 rfl 2 rfl ?_
  refine g_iald (pc := 11) cx (LNet_lowest h0) dX2_areTogether_11 hf (fun hf => ?_)
  refine g_icmp_ne (pc := 12) (tgt := 19) cx dX2_areTogether_12 rfl hf (fun hf => ?_) (fun hf => ?_)
  · refine g_iconst (pc := 15) (v := 1) cx dX2_areTogether_15 (by decide) ?_
    refine g_goto (pc := 16) (tgt := 20) cx dX2_areTogether_16 rfl ?_
    refine g_sub [] [] rfl ?_
    exact w_X2_areTogether_20 cx en h0 hf
  · refine g_iconst (pc := 19) (v := 0) cx dX2_areTogether_19 (by decide) ?_
    refine g_sub [] [] rfl ?_
    exact w_X2_areTogether_20 cx en h0 hf
/-! X2_groupSize -/
def b_X2_groupSize_24 (a0 : Nat) (rc4 : Mm → Int32 → Int32 → OR) (M : Mm) (x1 x2 x3 : Int32) : OR := rc4 M x2 (x3 + 1)
def l_X2_groupSize_4 (a0 : Nat) (x1 : Int32) : Nat → Mm → Int32 → Int32 → OR
  | 0, _, _, _ => none
  | k + 1, M, x2, x3 => if x3 < (M a0 0) then obn (f_X2_areTogether a0 M x3 x1) fun q3 M1 => (if q3 = 0 then b_X2_groupSize_24 a0 (l_X2_groupSize_4 a0 x1 k) M1 x1 x2 x3 else b_X2_groupSize_24 a0 (l_X2_groupSize_4 a0 x1 k) M1 x1 (x2 + 1) x3) else some (x2, M)
def f_X2_groupSize (a0 : Nat) (M : Mm) (x1 : Int32) : OR := l_X2_groupSize_4 a0 x1 FU M 0 0
set_option maxHeartbeats 4000000 in
set_option maxRecDepth 100000 in
theorem w_X2_groupSize_24 {l : Launch} {w : Wp} {L : Ly} {E : Cx} {a0 : Nat} {rc4 : Mm → Int32 → Int32 → OR} {x1 x2 x3 : Int32} {R0 : Int32 × Mm} (cx : Ok w L E RX2 cX2_groupSize 4 1) (en : En w L E (some .int) R0) (h0 : LNet w L (a0)) (hrc4 : ∀ (M : Mm) (x2 x3 : Int32), rc4 M x2 x3 = some R0 → G l w L E M [(0, .ref a0), (1, .int x1), (2, .int x2), (3, .int x3)] 4 []) {M : Mm} (hf : b_X2_groupSize_24 a0 rc4 M x1 x2 x3 = some R0) : G l w L E M [(0, .ref a0), (1, .int x1), (2, .int x2), (3, .int x3)] 24 [] := by
  unfold b_X2_groupSize_24 at hf
  refine g_iinc (pc := 24) cx [(3, .int (x3 + 1)), (0, .ref a0), (1, .int x1), (2, .int x2)] dX2_groupSize_24 3 rfl rfl (by decide) rfl ?_
  refine g_goto (pc := 27) (tgt := 4) cx dX2_groupSize_27 rfl ?_
  refine g_sub [1, 2, 3, 0] [(0, .ref a0), (1, .int x1), (2, .int x2), (3, .int (x3 + 1))] rfl ?_
  exact hrc4 _ _ _ hf
set_option maxHeartbeats 4000000 in
set_option maxRecDepth 100000 in
theorem w_X2_groupSize_4 {l : Launch} {w : Wp} {L : Ly} {E : Cx} {a0 : Nat} {x1 : Int32} {R0 : Int32 × Mm} (cx : Ok w L E RX2 cX2_groupSize 4 1) (en : En w L E (some .int) R0) (h0 : LNet w L (a0)) : ∀ (k : Nat) {M : Mm} {x2 x3 : Int32}, l_X2_groupSize_4 a0 x1 k M x2 x3 = some R0 → G l w L E M [(0, .ref a0), (1, .int x1), (2, .int x2), (3, .int x3)] 4 [] := by
  intro k
  induction k with
  | zero =>
    intro M x2 x3 hf
    exact absurd hf (by simp [l_X2_groupSize_4])
  | succ k ih =>
    intro M x2 x3 hf
    unfold l_X2_groupSize_4 at hf
    refine g_iload_n (pc := 4) cx dX2_groupSize_4 rfl 3 rfl ?_
    refine g_aload_n (pc := 5) cx dX2_groupSize_5 rfl 0 rfl ?_
    refine fg_X2_31 (pc := 6) cx dX2_groupSize_6 h0 ?_
    refine g_icmp_ge (pc := 9) (tgt := 30) cx dX2_groupSize_9 rfl hf (fun hf => ?_) (fun hf => ?_)
    · refine g_aload_n (pc := 12) cx dX2_groupSize_12 rfl 0 rfl ?_
      refine g_iload_n (pc := 13) cx dX2_groupSize_13 rfl 3 rfl ?_
      refine g_iload_n (pc := 14) cx dX2_groupSize_14 rfl 1 rfl ?_
      obtain ⟨q3, M1, hc2, hf⟩ := obn_some2 hf
      refine g_callVi (pc := 15) [.int x3, .int x1] [] cx lk_X2_50 vw_X2 (LNet_o h0) (by decide) (c_X2_areTogether h0 hc2) dX2_groupSize_15 (Nat.le_of_ble_eq_true rfl) ?_
      refine g_if_eq (pc := 18) (tgt := 24) cx dX2_groupSize_18 rfl hf (fun hf => ?_) (fun hf => ?_)
      · exact w_X2_groupSize_24 cx en h0 (fun _ _ _ hf => ih hf) hf
      · refine g_iinc (pc := 21) cx [(2, .int (x2 + 1)), (0, .ref a0), (1, .int x1), (3, .int x3)] dX2_groupSize_21 2 rfl rfl (by decide) rfl ?_
        refine g_sub [1, 2, 0, 3] [(0, .ref a0), (1, .int x1), (2, .int (x2 + 1)), (3, .int x3)] rfl ?_
        exact w_X2_groupSize_24 cx en h0 (fun _ _ _ hf => ih hf) hf
    · refine g_iload_n (pc := 30) cx dX2_groupSize_30 rfl 2 rfl ?_
      exact g_iret (pc := 31) cx en dX2_groupSize_31 rfl hf
set_option maxHeartbeats 4000000 in
set_option maxRecDepth 100000 in
theorem c_X2_groupSize {l : Launch} {w : Wp} {L : Ly} {a0 : Nat} {M : Mm} {x1 : Int32} {R0 : Int32 × Mm} (h0 : LNet w L (a0)) (hf : f_X2_groupSize a0 M x1 = some R0) : CT l w L yX2_groupSize cX2_groupSize 4 (some .int) 1 [.ref a0, .int x1] M R0 := by
  unfold f_X2_groupSize at hf
  refine CT_of pn_X2 (Nat.le_of_ble_eq_true rfl) (fun E cx en => ?_)
  have cx : Ok w L E RX2 cX2_groupSize 4 1 := cx
  show G l w L E M [(0, .ref a0), (1, .int x1)] 0 []
  refine g_iconst (pc := 0) (v := 0) cx dX2_groupSize_0 (by decide) ?_
  refine g_istore_n (pc := 1) cx [(2, .int 0), (0, .ref a0), (1, .int x1)] dX2_groupSize_1 rfl (by decide) rfl ?_
  refine g_iconst (pc := 2) (v := 0) cx dX2_groupSize_2 (by decide) ?_
  refine g_istore_n (pc := 3) cx [(3, .int 0), (2, .int 0), (0, .ref a0), (1, .int x1)] dX2_groupSize_3 rfl (by decide) rfl ?_
  refine g_sub [2, 3, 1, 0] [(0, .ref a0), (1, .int x1), (2, .int 0), (3, .int 0)] rfl ?_
  exact w_X2_groupSize_4 cx en h0 FU hf
/-! X2_groups -/
def b_X2_groups_25 (a0 : Nat) (rc4 : Mm → Int32 → Int32 → OR) (M : Mm) (x1 x2 : Int32) : OR := rc4 M x1 (x2 + 1)
def l_X2_groups_4 (a0 : Nat) : Nat → Mm → Int32 → Int32 → OR
  | 0, _, _, _ => none
  | k + 1, M, x1, x2 => if x2 < (M a0 0) then ckd x2 10 (if (M (a0 + 5) (ix x2)) = x2 then b_X2_groups_25 a0 (l_X2_groups_4 a0 k) M (x1 + 1) x2 else b_X2_groups_25 a0 (l_X2_groups_4 a0 k) M x1 x2) else some (x1, M)
def f_X2_groups (a0 : Nat) (M : Mm) : OR := l_X2_groups_4 a0 FU M 0 0
set_option maxHeartbeats 4000000 in
set_option maxRecDepth 100000 in
theorem w_X2_groups_25 {l : Launch} {w : Wp} {L : Ly} {E : Cx} {a0 : Nat} {rc4 : Mm → Int32 → Int32 → OR} {x1 x2 : Int32} {R0 : Int32 × Mm} (cx : Ok w L E RX2 cX2_groups 3 0) (en : En w L E (some .int) R0) (h0 : LNet w L (a0)) (hrc4 : ∀ (M : Mm) (x1 x2 : Int32), rc4 M x1 x2 = some R0 → G l w L E M [(0, .ref a0), (1, .int x1), (2, .int x2)] 4 []) {M : Mm} (hf : b_X2_groups_25 a0 rc4 M x1 x2 = some R0) : G l w L E M [(0, .ref a0), (1, .int x1), (2, .int x2)] 25 [] := by
  unfold b_X2_groups_25 at hf
  refine g_iinc (pc := 25) cx [(2, .int (x2 + 1)), (0, .ref a0), (1, .int x1)] dX2_groups_25 2 rfl rfl (by decide) rfl ?_
  refine g_goto (pc := 28) (tgt := 4) cx dX2_groups_28 rfl ?_
  refine g_sub [1, 2, 0] [(0, .ref a0), (1, .int x1), (2, .int (x2 + 1))] rfl ?_
  exact hrc4 _ _ _ hf
set_option maxHeartbeats 4000000 in
set_option maxRecDepth 100000 in
theorem w_X2_groups_4 {l : Launch} {w : Wp} {L : Ly} {E : Cx} {a0 : Nat} {R0 : Int32 × Mm} (cx : Ok w L E RX2 cX2_groups 3 0) (en : En w L E (some .int) R0) (h0 : LNet w L (a0)) : ∀ (k : Nat) {M : Mm} {x1 x2 : Int32}, l_X2_groups_4 a0 k M x1 x2 = some R0 → G l w L E M [(0, .ref a0), (1, .int x1), (2, .int x2)] 4 [] := by
  intro k
  induction k with
  | zero =>
    intro M x1 x2 hf
    exact absurd hf (by simp [l_X2_groups_4])
  | succ k ih =>
    intro M x1 x2 hf
    unfold l_X2_groups_4 at hf
    refine g_iload_n (pc := 4) cx dX2_groups_4 rfl 2 rfl ?_
    refine g_aload_n (pc := 5) cx dX2_groups_5 rfl 0 rfl ?_
    refine fg_X2_31 (pc := 6) cx dX2_groups_6 h0 ?_
    refine g_icmp_ge (pc := 9) (tgt := 31) cx dX2_groups_9 rfl hf (fun hf => ?_) (fun hf => ?_)
    · refine g_aload_n (pc := 12) cx dX2_groups_12 rfl 0 rfl ?_
      refine fg_X2_25 (pc := 13) cx dX2_groups_13 h0 ?_
      refine g_iload_n (pc := 16) cx dX2_groups_16 rfl 2 rfl ?_
      refine g_iald (pc := 17) cx (LNet_lowest h0) dX2_groups_17 hf (fun hf => ?_)
      refine g_iload_n (pc := 18) cx dX2_groups_18 rfl 2 rfl ?_
      refine g_icmp_ne (pc := 19) (tgt := 25) cx dX2_groups_19 rfl hf (fun hf => ?_) (fun hf => ?_)
      · refine g_iinc (pc := 22) cx [(1, .int (x1 + 1)), (0, .ref a0), (2, .int x2)] dX2_groups_22 1 rfl rfl (by decide) rfl ?_
        refine g_sub [1, 0, 2] [(0, .ref a0), (1, .int (x1 + 1)), (2, .int x2)] rfl ?_
        exact w_X2_groups_25 cx en h0 (fun _ _ _ hf => ih hf) hf
      · exact w_X2_groups_25 cx en h0 (fun _ _ _ hf => ih hf) hf
    · refine g_iload_n (pc := 31) cx dX2_groups_31 rfl 1 rfl ?_
      exact g_iret (pc := 32) cx en dX2_groups_32 rfl hf
set_option maxHeartbeats 4000000 in
set_option maxRecDepth 100000 in
theorem c_X2_groups {l : Launch} {w : Wp} {L : Ly} {a0 : Nat} {M : Mm} {R0 : Int32 × Mm} (h0 : LNet w L (a0)) (hf : f_X2_groups a0 M = some R0) : CT l w L yX2_groups cX2_groups 3 (some .int) 0 [.ref a0] M R0 := by
  unfold f_X2_groups at hf
  refine CT_of pn_X2 (Nat.le_of_ble_eq_true rfl) (fun E cx en => ?_)
  have cx : Ok w L E RX2 cX2_groups 3 0 := cx
  show G l w L E M [(0, .ref a0)] 0 []
  refine g_iconst (pc := 0) (v := 0) cx dX2_groups_0 (by decide) ?_
  refine g_istore_n (pc := 1) cx [(1, .int 0), (0, .ref a0)] dX2_groups_1 rfl (by decide) rfl ?_
  refine g_iconst (pc := 2) (v := 0) cx dX2_groups_2 (by decide) ?_
  refine g_istore_n (pc := 3) cx [(2, .int 0), (1, .int 0), (0, .ref a0)] dX2_groups_3 rfl (by decide) rfl ?_
  refine g_sub [2, 1, 0] [(0, .ref a0), (1, .int 0), (2, .int 0)] rfl ?_
  exact w_X2_groups_4 cx en h0 FU hf
/-! X2_isClosedAt -/
def b_X2_isClosedAt_34 (a0 : Nat) (M : Mm) (s0 : Int32) : OR := zrk s0 (some (s0, M))
def b_X2_isClosedAt_33 (a0 : Nat) (M : Mm) : OR := b_X2_isClosedAt_34 a0 M 0
def b_X2_isClosedAt_29 (a0 : Nat) (M : Mm) : OR := b_X2_isClosedAt_34 a0 M 1
def f_X2_isClosedAt (a0 : Nat) (M : Mm) (x1 x2 : Int32) : OR := ckd x1 16 (if (zb (M (a0 + 4) (ix x1))) = 0 then b_X2_isClosedAt_33 a0 M else ckd x1 16 (if (M (a0 + 2) (ix x1)) = x2 then b_X2_isClosedAt_29 a0 M else ckd x1 16 (if (M (a0 + 3) (ix x1)) = x2 then b_X2_isClosedAt_29 a0 M else b_X2_isClosedAt_33 a0 M)))
set_option maxHeartbeats 4000000 in
set_option maxRecDepth 100000 in
theorem w_X2_isClosedAt_34 {l : Launch} {w : Wp} {L : Ly} {E : Cx} {a0 : Nat} {s0 : Int32} {R0 : Int32 × Mm} (cx : Ok w L E RX2 cX2_isClosedAt 3 0) (en : En w L E (some .boolean) R0) (h0 : LNet w L (a0)) {M : Mm} (hf : b_X2_isClosedAt_34 a0 M s0 = some R0) : G l w L E M [] 34 [.int s0] := by
  unfold b_X2_isClosedAt_34 at hf
  exact g_zret (pc := 34) cx en dX2_isClosedAt_34 hf
set_option maxHeartbeats 4000000 in
set_option maxRecDepth 100000 in
theorem w_X2_isClosedAt_33 {l : Launch} {w : Wp} {L : Ly} {E : Cx} {a0 : Nat} {R0 : Int32 × Mm} (cx : Ok w L E RX2 cX2_isClosedAt 3 0) (en : En w L E (some .boolean) R0) (h0 : LNet w L (a0)) {M : Mm} (hf : b_X2_isClosedAt_33 a0 M = some R0) : G l w L E M [] 33 [] := by
  unfold b_X2_isClosedAt_33 at hf
  refine g_iconst (pc := 33) (v := 0) cx dX2_isClosedAt_33 (by decide) ?_
  exact w_X2_isClosedAt_34 cx en h0 hf
set_option maxHeartbeats 4000000 in
set_option maxRecDepth 100000 in
theorem w_X2_isClosedAt_29 {l : Launch} {w : Wp} {L : Ly} {E : Cx} {a0 : Nat} {R0 : Int32 × Mm} (cx : Ok w L E RX2 cX2_isClosedAt 3 0) (en : En w L E (some .boolean) R0) (h0 : LNet w L (a0)) {M : Mm} (hf : b_X2_isClosedAt_29 a0 M = some R0) : G l w L E M [] 29 [] := by
  unfold b_X2_isClosedAt_29 at hf
  refine g_iconst (pc := 29) (v := 1) cx dX2_isClosedAt_29 (by decide) ?_
  refine g_goto (pc := 30) (tgt := 34) cx dX2_isClosedAt_30 rfl ?_
  exact w_X2_isClosedAt_34 cx en h0 hf
set_option maxHeartbeats 4000000 in
set_option maxRecDepth 100000 in
theorem c_X2_isClosedAt {l : Launch} {w : Wp} {L : Ly} {a0 : Nat} {M : Mm} {x1 x2 : Int32} {R0 : Int32 × Mm} (h0 : LNet w L (a0)) (hf : f_X2_isClosedAt a0 M x1 x2 = some R0) : CT l w L yX2_isClosedAt cX2_isClosedAt 3 (some .boolean) 0 [.ref a0, .int x1, .int x2] M R0 := by
  unfold f_X2_isClosedAt at hf
  refine CT_of pn_X2 (Nat.le_of_ble_eq_true rfl) (fun E cx en => ?_)
  have cx : Ok w L E RX2 cX2_isClosedAt 3 0 := cx
  show G l w L E M [(0, .ref a0), (1, .int x1), (2, .int x2)] 0 []
  refine g_aload_n (pc := 0) cx dX2_isClosedAt_0 rfl 0 rfl ?_
  refine fg_X2_21 (pc := 1) cx dX2_isClosedAt_1 h0 ?_
  refine g_iload_n (pc := 4) cx dX2_isClosedAt_4 rfl 1 rfl ?_
  refine g_zald (pc := 5) cx (LNet_closed h0) dX2_isClosedAt_5 hf (fun hf => ?_)
  refine g_if_eq (pc := 6) (tgt := 33) cx dX2_isClosedAt_6 rfl hf (fun hf => ?_) (fun hf => ?_)
  · refine g_sub [] [] rfl ?_
    exact w_X2_isClosedAt_33 cx en h0 hf
  · refine g_aload_n (pc := 9) cx dX2_isClosedAt_9 rfl 0 rfl ?_
    refine fg_X2_15 (pc := 10) cx dX2_isClosedAt_10 h0 ?_
    refine g_iload_n (pc := 13) cx dX2_isClosedAt_13 rfl 1 rfl ?_
    refine g_iald (pc := 14) cx (LNet_one h0) dX2_isClosedAt_14 hf (fun hf => ?_)
    refine g_iload_n (pc := 15) cx dX2_isClosedAt_15 rfl 2 rfl ?_
    refine g_icmp_eq (pc := 16) (tgt := 29) cx dX2_isClosedAt_16 rfl hf (fun hf => ?_) (fun hf => ?_)
    · refine g_sub [] [] rfl ?_
      exact w_X2_isClosedAt_29 cx en h0 hf
    · refine g_aload_n (pc := 19) cx dX2_isClosedAt_19 rfl 0 rfl ?_
      refine fg_X2_18 (pc := 20) cx dX2_isClosedAt_20 h0 ?_
      refine g_iload_n (pc := 23) cx dX2_isClosedAt_23 rfl 1 rfl ?_
      refine g_iald (pc := 24) cx (LNet_other h0) dX2_isClosedAt_24 hf (fun hf => ?_)
      refine g_iload_n (pc := 25) cx dX2_isClosedAt_25 rfl 2 rfl ?_
      refine g_icmp_ne (pc := 26) (tgt := 33) cx dX2_isClosedAt_26 rfl hf (fun hf => ?_) (fun hf => ?_)
      · refine g_sub [] [] rfl ?_
        exact w_X2_isClosedAt_29 cx en h0 hf
      · refine g_sub [] [] rfl ?_
        exact w_X2_isClosedAt_33 cx en h0 hf
/-! X2_closedAt -/
def b_X2_closedAt_24 (a0 : Nat) (rc4 : Mm → Int32 → Int32 → OR) (M : Mm) (x1 x2 x3 : Int32) : OR := rc4 M x2 (x3 + 1)
def l_X2_closedAt_4 (a0 : Nat) (x1 : Int32) : Nat → Mm → Int32 → Int32 → OR
  | 0, _, _, _ => none
  | k + 1, M, x2, x3 => if x3 < (M a0 1) then obn (f_X2_isClosedAt a0 M x3 x1) fun q3 M1 => (if q3 = 0 then b_X2_closedAt_24 a0 (l_X2_closedAt_4 a0 x1 k) M1 x1 x2 x3 else b_X2_closedAt_24 a0 (l_X2_closedAt_4 a0 x1 k) M1 x1 (x2 + 1) x3) else some (x2, M)
def f_X2_closedAt (a0 : Nat) (M : Mm) (x1 : Int32) : OR := l_X2_closedAt_4 a0 x1 FU M 0 0
set_option maxHeartbeats 4000000 in
set_option maxRecDepth 100000 in
theorem w_X2_closedAt_24 {l : Launch} {w : Wp} {L : Ly} {E : Cx} {a0 : Nat} {rc4 : Mm → Int32 → Int32 → OR} {x1 x2 x3 : Int32} {R0 : Int32 × Mm} (cx : Ok w L E RX2 cX2_closedAt 4 1) (en : En w L E (some .int) R0) (h0 : LNet w L (a0)) (hrc4 : ∀ (M : Mm) (x2 x3 : Int32), rc4 M x2 x3 = some R0 → G l w L E M [(0, .ref a0), (1, .int x1), (2, .int x2), (3, .int x3)] 4 []) {M : Mm} (hf : b_X2_closedAt_24 a0 rc4 M x1 x2 x3 = some R0) : G l w L E M [(0, .ref a0), (1, .int x1), (2, .int x2), (3, .int x3)] 24 [] := by
  unfold b_X2_closedAt_24 at hf
  refine g_iinc (pc := 24) cx [(3, .int (x3 + 1)), (0, .ref a0), (1, .int x1), (2, .int x2)] dX2_closedAt_24 3 rfl rfl (by decide) rfl ?_
  refine g_goto (pc := 27) (tgt := 4) cx dX2_closedAt_27 rfl ?_
  refine g_sub [1, 2, 3, 0] [(0, .ref a0), (1, .int x1), (2, .int x2), (3, .int (x3 + 1))] rfl ?_
  exact hrc4 _ _ _ hf
set_option maxHeartbeats 4000000 in
set_option maxRecDepth 100000 in
theorem w_X2_closedAt_4 {l : Launch} {w : Wp} {L : Ly} {E : Cx} {a0 : Nat} {x1 : Int32} {R0 : Int32 × Mm} (cx : Ok w L E RX2 cX2_closedAt 4 1) (en : En w L E (some .int) R0) (h0 : LNet w L (a0)) : ∀ (k : Nat) {M : Mm} {x2 x3 : Int32}, l_X2_closedAt_4 a0 x1 k M x2 x3 = some R0 → G l w L E M [(0, .ref a0), (1, .int x1), (2, .int x2), (3, .int x3)] 4 [] := by
  intro k
  induction k with
  | zero =>
    intro M x2 x3 hf
    exact absurd hf (by simp [l_X2_closedAt_4])
  | succ k ih =>
    intro M x2 x3 hf
    unfold l_X2_closedAt_4 at hf
    refine g_iload_n (pc := 4) cx dX2_closedAt_4 rfl 3 rfl ?_
    refine g_aload_n (pc := 5) cx dX2_closedAt_5 rfl 0 rfl ?_
    refine fg_X2_35 (pc := 6) cx dX2_closedAt_6 h0 ?_
    refine g_icmp_ge (pc := 9) (tgt := 30) cx dX2_closedAt_9 rfl hf (fun hf => ?_) (fun hf => ?_)
    · refine g_aload_n (pc := 12) cx dX2_closedAt_12 rfl 0 rfl ?_
      refine g_iload_n (pc := 13) cx dX2_closedAt_13 rfl 3 rfl ?_
      refine g_iload_n (pc := 14) cx dX2_closedAt_14 rfl 1 rfl ?_
      obtain ⟨q3, M1, hc2, hf⟩ := obn_some2 hf
      refine g_callVi (pc := 15) [.int x3, .int x1] [] cx lk_X2_54 vw_X2 (LNet_o h0) (by decide) (c_X2_isClosedAt h0 hc2) dX2_closedAt_15 (Nat.le_of_ble_eq_true rfl) ?_
      refine g_if_eq (pc := 18) (tgt := 24) cx dX2_closedAt_18 rfl hf (fun hf => ?_) (fun hf => ?_)
      · exact w_X2_closedAt_24 cx en h0 (fun _ _ _ hf => ih hf) hf
      · refine g_iinc (pc := 21) cx [(2, .int (x2 + 1)), (0, .ref a0), (1, .int x1), (3, .int x3)] dX2_closedAt_21 2 rfl rfl (by decide) rfl ?_
        refine g_sub [1, 2, 0, 3] [(0, .ref a0), (1, .int x1), (2, .int (x2 + 1)), (3, .int x3)] rfl ?_
        exact w_X2_closedAt_24 cx en h0 (fun _ _ _ hf => ih hf) hf
    · refine g_iload_n (pc := 30) cx dX2_closedAt_30 rfl 2 rfl ?_
      exact g_iret (pc := 31) cx en dX2_closedAt_31 rfl hf
set_option maxHeartbeats 4000000 in
set_option maxRecDepth 100000 in
theorem c_X2_closedAt {l : Launch} {w : Wp} {L : Ly} {a0 : Nat} {M : Mm} {x1 : Int32} {R0 : Int32 × Mm} (h0 : LNet w L (a0)) (hf : f_X2_closedAt a0 M x1 = some R0) : CT l w L yX2_closedAt cX2_closedAt 4 (some .int) 1 [.ref a0, .int x1] M R0 := by
  unfold f_X2_closedAt at hf
  refine CT_of pn_X2 (Nat.le_of_ble_eq_true rfl) (fun E cx en => ?_)
  have cx : Ok w L E RX2 cX2_closedAt 4 1 := cx
  show G l w L E M [(0, .ref a0), (1, .int x1)] 0 []
  refine g_iconst (pc := 0) (v := 0) cx dX2_closedAt_0 (by decide) ?_
  refine g_istore_n (pc := 1) cx [(2, .int 0), (0, .ref a0), (1, .int x1)] dX2_closedAt_1 rfl (by decide) rfl ?_
  refine g_iconst (pc := 2) (v := 0) cx dX2_closedAt_2 (by decide) ?_
  refine g_istore_n (pc := 3) cx [(3, .int 0), (2, .int 0), (0, .ref a0), (1, .int x1)] dX2_closedAt_3 rfl (by decide) rfl ?_
  refine g_sub [2, 3, 1, 0] [(0, .ref a0), (1, .int x1), (2, .int 0), (3, .int 0)] rfl ?_
  exact w_X2_closedAt_4 cx en h0 FU hf
/-! X1_copyFrom -/
def f_X1_copyFrom (a0 a1 : Nat) (M : Mm) : OR := bnd (mst M a0 0 (M a1 0)) fun M1 => bnd (mst M1 a0 1 (M1 a1 1)) fun M2 => cpk 0 0 24 24 24 (bnd (mrow M2 (a0 + 1) (va_cpy (M2 (a1 + 1)) (M2 (a0 + 1)) (ix 0) (ix 0) (ix 24))) fun M3 => cpk 0 0 24 24 24 (bnd (mrow M3 (a0 + 2) (va_cpy (M3 (a1 + 2)) (M3 (a0 + 2)) (ix 0) (ix 0) (ix 24))) fun M4 => cpk 0 0 24 24 24 (bnd (mrow M4 (a0 + 3) (va_cpy (M4 (a1 + 3)) (M4 (a0 + 3)) (ix 0) (ix 0) (ix 24))) fun M5 => cpk 0 0 10 10 10 (bnd (mrow M5 (a0 + 4) (va_cpy (M5 (a1 + 4)) (M5 (a0 + 4)) (ix 0) (ix 0) (ix 10))) fun M6 => cpk 0 0 16 16 16 (bnd (mrow M6 (a0 + 5) (va_cpy (M6 (a1 + 5)) (M6 (a0 + 5)) (ix 0) (ix 0) (ix 16))) fun M7 => some (0, M7))))))
set_option maxHeartbeats 4000000 in
set_option maxRecDepth 100000 in
theorem c_X1_copyFrom {l : Launch} {w : Wp} {L : Ly} {a0 a1 : Nat} {M : Mm} {R0 : Int32 × Mm} (h0 : LLog w L (a0)) (h1 : LLog w L (a1)) (hf : f_X1_copyFrom a0 a1 M = some R0) : CT l w L yX1_copyFrom cX1_copyFrom 2 none 1 [.ref a0, .ref a1] M R0 := by
  unfold f_X1_copyFrom at hf
  refine CT_of pn_X1 (Nat.le_of_ble_eq_true rfl) (fun E cx en => ?_)
  have cx : Ok w L E RX1 cX1_copyFrom 2 1 := cx
  show G l w L E M [(0, .ref a0), (1, .ref a1)] 0 []
  refine g_aload_n (pc := 0) cx dX1_copyFrom_0 rfl 0 rfl ?_
  refine g_aload_n (pc := 1) cx dX1_copyFrom_1 rfl 1 rfl ?_
  refine fg_X1_34 (pc := 2) cx dX1_copyFrom_2 h1 ?_
  refine fp_X1_34 (pc := 5) cx dX1_copyFrom_5 h0 hf (fun M1 hf => ?_)
  refine g_aload_n (pc := 8) cx dX1_copyFrom_8 rfl 0 rfl ?_
  refine g_aload_n (pc := 9) cx dX1_copyFrom_9 rfl 1 rfl ?_
  refine fg_X1_38 (pc := 10) cx dX1_copyFrom_10 h1 ?_
  refine fp_X1_38 (pc := 13) cx dX1_copyFrom_13 h0 hf (fun M2 hf => ?_)
  refine g_aload_n (pc := 16) cx dX1_copyFrom_16 rfl 1 rfl ?_
  refine fg_X1_9 (pc := 17) cx dX1_copyFrom_17 h1 ?_
  refine g_iconst (pc := 20) (v := 0) cx dX1_copyFrom_20 (by decide) ?_
  refine g_aload_n (pc := 21) cx dX1_copyFrom_21 rfl 0 rfl ?_
  refine fg_X1_9 (pc := 22) cx dX1_copyFrom_22 h0 ?_
  refine g_iconst (pc := 25) (v := 0) cx dX1_copyFrom_25 (by decide) ?_
  refine g_bipush (pc := 26) (v := 24) cx dX1_copyFrom_26 (by decide) ?_
  refine g_cpyI (pc := 28) cx (by decide) tm_X1_41 (LLog_kinds h1) (LLog_kinds h0) dX1_copyFrom_28 hf (Nat.le_of_ble_eq_true rfl) (fun M3 hf => ?_)
  refine g_aload_n (pc := 31) cx dX1_copyFrom_31 rfl 1 rfl ?_
  refine fg_X1_15 (pc := 32) cx dX1_copyFrom_32 h1 ?_
  refine g_iconst (pc := 35) (v := 0) cx dX1_copyFrom_35 (by decide) ?_
  refine g_aload_n (pc := 36) cx dX1_copyFrom_36 rfl 0 rfl ?_
  refine fg_X1_15 (pc := 37) cx dX1_copyFrom_37 h0 ?_
  refine g_iconst (pc := 40) (v := 0) cx dX1_copyFrom_40 (by decide) ?_
  refine g_bipush (pc := 41) (v := 24) cx dX1_copyFrom_41 (by decide) ?_
  refine g_cpyI (pc := 43) cx (by decide) tm_X1_41 (LLog_places h1) (LLog_places h0) dX1_copyFrom_43 hf (Nat.le_of_ble_eq_true rfl) (fun M4 hf => ?_)
  refine g_aload_n (pc := 46) cx dX1_copyFrom_46 rfl 1 rfl ?_
  refine fg_X1_18 (pc := 47) cx dX1_copyFrom_47 h1 ?_
  refine g_iconst (pc := 50) (v := 0) cx dX1_copyFrom_50 (by decide) ?_
  refine g_aload_n (pc := 51) cx dX1_copyFrom_51 rfl 0 rfl ?_
  refine fg_X1_18 (pc := 52) cx dX1_copyFrom_52 h0 ?_
  refine g_iconst (pc := 55) (v := 0) cx dX1_copyFrom_55 (by decide) ?_
  refine g_bipush (pc := 56) (v := 24) cx dX1_copyFrom_56 (by decide) ?_
  refine g_cpyI (pc := 58) cx (by decide) tm_X1_41 (LLog_times h1) (LLog_times h0) dX1_copyFrom_58 hf (Nat.le_of_ble_eq_true rfl) (fun M5 hf => ?_)
  refine g_aload_n (pc := 61) cx dX1_copyFrom_61 rfl 1 rfl ?_
  refine fg_X1_21 (pc := 62) cx dX1_copyFrom_62 h1 ?_
  refine g_iconst (pc := 65) (v := 0) cx dX1_copyFrom_65 (by decide) ?_
  refine g_aload_n (pc := 66) cx dX1_copyFrom_66 rfl 0 rfl ?_
  refine fg_X1_21 (pc := 67) cx dX1_copyFrom_67 h0 ?_
  refine g_iconst (pc := 70) (v := 0) cx dX1_copyFrom_70 (by decide) ?_
  refine g_bipush (pc := 71) (v := 10) cx dX1_copyFrom_71 (by decide) ?_
  refine g_cpyI (pc := 73) cx (by decide) tm_X1_41 (LLog_feederAhead h1) (LLog_feederAhead h0) dX1_copyFrom_73 hf (Nat.le_of_ble_eq_true rfl) (fun M6 hf => ?_)
  refine g_aload_n (pc := 76) cx dX1_copyFrom_76 rfl 1 rfl ?_
  refine fg_X1_24 (pc := 77) cx dX1_copyFrom_77 h1 ?_
  refine g_iconst (pc := 80) (v := 0) cx dX1_copyFrom_80 (by decide) ?_
  refine g_aload_n (pc := 81) cx dX1_copyFrom_81 rfl 0 rfl ?_
  refine fg_X1_24 (pc := 82) cx dX1_copyFrom_82 h0 ?_
  refine g_iconst (pc := 85) (v := 0) cx dX1_copyFrom_85 (by decide) ?_
  refine g_bipush (pc := 86) (v := 16) cx dX1_copyFrom_86 (by decide) ?_
  refine g_cpyZ (pc := 88) cx (by decide) tm_X1_41 (LLog_closedAhead h1) (LLog_closedAhead h0) dX1_copyFrom_88 hf (Nat.le_of_ble_eq_true rfl) (fun M7 hf => ?_)
  exact g_vret (pc := 91) cx en dX1_copyFrom_91 hf
/-! X1_setBy -/
def b_X1_setBy_76 (a0 a1 a2 : Nat) (M : Mm) : OR := some (0, M)
def f_X1_setBy (a0 a1 a2 : Nat) (M : Mm) (x1 : Int32) : OR := ckd x1 24 (bnd (M (a0 + 2) (ix x1)) fun v1 => ckd x1 24 (bnd (M (a0 + 1) (ix x1)) fun v2 => if v2 = 2 then ckd v1 16 (bnd (mst M a2 (ix v1) 0) fun M3 => b_X1_setBy_76 a0 a1 a2 M3) else if v2 = 3 then ckd v1 16 (bnd (mst M a2 (ix v1) 1) fun M4 => b_X1_setBy_76 a0 a1 a2 M4) else if v2 = 4 then ckd v1 10 (bnd (mst M a1 (ix v1) 1) fun M5 => b_X1_setBy_76 a0 a1 a2 M5) else if v2 = 5 then ckd v1 10 (bnd (mst M a1 (ix v1) 2) fun M6 => b_X1_setBy_76 a0 a1 a2 M6) else b_X1_setBy_76 a0 a1 a2 M))
set_option maxHeartbeats 4000000 in
set_option maxRecDepth 100000 in
theorem w_X1_setBy_76 {l : Launch} {w : Wp} {L : Ly} {E : Cx} {a0 a1 a2 : Nat} {R0 : Int32 × Mm} (cx : Ok w L E RX1 cX1_setBy 5 0) (en : En w L E none R0) (h0 : LLog w L (a0)) (h1 : L (a1) = some (gI w 10)) (h2 : L (a2) = some (gZ w 16)) {M : Mm} (hf : b_X1_setBy_76 a0 a1 a2 M = some R0) : G l w L E M [] 76 [] := by
  unfold b_X1_setBy_76 at hf
  exact g_vret (pc := 76) cx en dX1_setBy_76 hf
set_option maxHeartbeats 4000000 in
set_option maxRecDepth 100000 in
theorem c_X1_setBy {l : Launch} {w : Wp} {L : Ly} {a0 a1 a2 : Nat} {M : Mm} {x1 : Int32} {R0 : Int32 × Mm} (h0 : LLog w L (a0)) (h1 : L (a1) = some (gI w 10)) (h2 : L (a2) = some (gZ w 16)) (hf : f_X1_setBy a0 a1 a2 M x1 = some R0) : CT l w L yX1_setBy cX1_setBy 5 none 0 [.ref a0, .int x1, .ref a1, .ref a2] M R0 := by
  unfold f_X1_setBy at hf
  refine CT_of pn_X1 (Nat.le_of_ble_eq_true rfl) (fun E cx en => ?_)
  have cx : Ok w L E RX1 cX1_setBy 5 0 := cx
  show G l w L E M [(0, .ref a0), (1, .int x1), (2, .ref a1), (3, .ref a2)] 0 []
  refine g_aload_n (pc := 0) cx dX1_setBy_0 rfl 0 rfl ?_
  refine fg_X1_15 (pc := 1) cx dX1_setBy_1 h0 ?_
  refine g_iload_n (pc := 4) cx dX1_setBy_4 rfl 1 rfl ?_
  refine g_iald (pc := 5) cx (LLog_places h0) dX1_setBy_5 hf (fun hf => ?_)
  refine g_nm hf (fun v1 hf => ?_)
  refine g_istore (pc := 6) cx [(4, .int v1), (0, .ref a0), (1, .int x1), (2, .ref a1), (3, .ref a2)] dX1_setBy_6 (by decide) rfl ?_
  refine g_aload_n (pc := 8) cx dX1_setBy_8 rfl 1 rfl ?_
  refine fg_X1_9 (pc := 9) cx dX1_setBy_9 h0 ?_
  refine g_iload_n (pc := 12) cx dX1_setBy_12 rfl 2 rfl ?_
  refine g_iald (pc := 13) cx (LLog_kinds h0) dX1_setBy_13 hf (fun hf => ?_)
  refine g_nm hf (fun v2 hf => ?_)
  refine g_swk (pc := 14) (kx := 2) (off := 30) (tgt := 44) cx dX1_setBy_14 (by decide) (by decide) (by decide) (by decide) hf (fun hf => ?_) (fun n0 hf => ?_)
  · refine g_aload_n (pc := 44) cx dX1_setBy_44 rfl 4 rfl ?_
    refine g_iload (pc := 45) cx dX1_setBy_45 0 rfl ?_
    refine g_iconst (pc := 47) (v := 0) cx dX1_setBy_47 (by decide) ?_
    refine g_zast (pc := 48) cx h2 dX1_setBy_48 hf (fun M3 hf => ?_)
    refine g_goto (pc := 49) (tgt := 76) cx dX1_setBy_49 rfl ?_
    refine g_sub [] [] rfl ?_
    exact w_X1_setBy_76 cx en h0 h1 h2 hf
  refine g_swk (pc := 14) (kx := 3) (off := 38) (tgt := 52) cx dX1_setBy_14 (by decide) (by decide) (by decide) (by decide) hf (fun hf => ?_) (fun n1 hf => ?_)
  · refine g_aload_n (pc := 52) cx dX1_setBy_52 rfl 4 rfl ?_
    refine g_iload (pc := 53) cx dX1_setBy_53 0 rfl ?_
    refine g_iconst (pc := 55) (v := 1) cx dX1_setBy_55 (by decide) ?_
    refine g_zast (pc := 56) cx h2 dX1_setBy_56 hf (fun M4 hf => ?_)
    refine g_goto (pc := 57) (tgt := 76) cx dX1_setBy_57 rfl ?_
    refine g_sub [] [] rfl ?_
    exact w_X1_setBy_76 cx en h0 h1 h2 hf
  refine g_swk (pc := 14) (kx := 4) (off := 46) (tgt := 60) cx dX1_setBy_14 (by decide) (by decide) (by decide) (by decide) hf (fun hf => ?_) (fun n2 hf => ?_)
  · refine g_aload_n (pc := 60) cx dX1_setBy_60 rfl 3 rfl ?_
    refine g_iload (pc := 61) cx dX1_setBy_61 0 rfl ?_
    refine g_iconst (pc := 63) (v := 1) cx dX1_setBy_63 (by decide) ?_
    refine g_iast (pc := 64) cx h1 dX1_setBy_64 hf (fun M5 hf => ?_)
    refine g_goto (pc := 65) (tgt := 76) cx dX1_setBy_65 rfl ?_
    refine g_sub [] [] rfl ?_
    exact w_X1_setBy_76 cx en h0 h1 h2 hf
  refine g_swk (pc := 14) (kx := 5) (off := 54) (tgt := 68) cx dX1_setBy_14 (by decide) (by decide) (by decide) (by decide) hf (fun hf => ?_) (fun n3 hf => ?_)
  · refine g_aload_n (pc := 68) cx dX1_setBy_68 rfl 3 rfl ?_
    refine g_iload (pc := 69) cx dX1_setBy_69 0 rfl ?_
    refine g_iconst (pc := 71) (v := 2) cx dX1_setBy_71 (by decide) ?_
    refine g_iast (pc := 72) cx h1 dX1_setBy_72 hf (fun M6 hf => ?_)
    refine g_goto (pc := 73) (tgt := 76) cx dX1_setBy_73 rfl ?_
    refine g_sub [] [] rfl ?_
    exact w_X1_setBy_76 cx en h0 h1 h2 hf
  refine g_swo (pc := 14) (tgt := 76) cx dX1_setBy_14 ?_ (by decide) ?_
  · have q0 := lv_neT n0 (a := 2) (by decide)
    have q1 := lv_neT n1 (a := 3) (by decide)
    have q2 := lv_neT n2 (a := 4) (by decide)
    have q3 := lv_neT n3 (a := 5) (by decide)
    omega
  · refine g_sub [] [] rfl ?_
    exact w_X1_setBy_76 cx en h0 h1 h2 hf
/-! X1_dropOldest -/
def f_X1_dropOldest (a0 : Nat) (M : Mm) : OR := obn (f_X1_setBy a0 (a0 + 4) (a0 + 5) M 0) fun _ M1 => (bnd (mst M1 a0 1 23) fun M4 => cpk 1 0 (M4 a0 1) 24 24 (bnd (mrow M4 (a0 + 1) (va_cpy (M4 (a0 + 1)) (M4 (a0 + 1)) (ix 1) (ix 0) (ix (M4 a0 1)))) fun M5 => cpk 1 0 (M5 a0 1) 24 24 (bnd (mrow M5 (a0 + 2) (va_cpy (M5 (a0 + 2)) (M5 (a0 + 2)) (ix 1) (ix 0) (ix (M5 a0 1)))) fun M6 => cpk 1 0 (M6 a0 1) 24 24 (bnd (mrow M6 (a0 + 3) (va_cpy (M6 (a0 + 3)) (M6 (a0 + 3)) (ix 1) (ix 0) (ix (M6 a0 1)))) fun M7 => some (0, M7)))))
set_option maxHeartbeats 4000000 in
set_option maxRecDepth 100000 in
theorem c_X1_dropOldest {l : Launch} {w : Wp} {L : Ly} {a0 : Nat} {M : Mm} {R0 : Int32 × Mm} (h0 : LLog w L (a0)) (hf : f_X1_dropOldest a0 M = some R0) : CT l w L yX1_dropOldest cX1_dropOldest 1 none 1 [.ref a0] M R0 := by
  unfold f_X1_dropOldest at hf
  refine CT_of pn_X1 (Nat.le_of_ble_eq_true rfl) (fun E cx en => ?_)
  have cx : Ok w L E RX1 cX1_dropOldest 1 1 := cx
  show G l w L E M [(0, .ref a0)] 0 []
  refine g_aload_n (pc := 0) cx dX1_dropOldest_0 rfl 0 rfl ?_
  refine g_iconst (pc := 1) (v := 0) cx dX1_dropOldest_1 (by decide) ?_
  refine g_aload_n (pc := 2) cx dX1_dropOldest_2 rfl 0 rfl ?_
  refine fg_X1_21 (pc := 3) cx dX1_dropOldest_3 h0 ?_
  refine g_aload_n (pc := 6) cx dX1_dropOldest_6 rfl 0 rfl ?_
  refine fg_X1_24 (pc := 7) cx dX1_dropOldest_7 h0 ?_
  obtain ⟨q3, M1, hc2, hf⟩ := obn_some2 hf
  refine g_callVv (pc := 10) [.int 0, .ref (a0 + 4), .ref (a0 + 5)] [] cx lk_X1_50 vw_X1 (LLog_o h0) (by decide) (c_X1_setBy h0 (LLog_feederAhead h0) (LLog_closedAhead h0) hc2) dX1_dropOldest_10 (Nat.le_of_ble_eq_true rfl) ?_
  refine g_aload_n (pc := 13) cx dX1_dropOldest_13 rfl 0 rfl ?_
  refine g_bipush (pc := 14) (v := 23) cx dX1_dropOldest_14 (by decide) ?_
  refine fp_X1_38 (pc := 16) cx dX1_dropOldest_16 h0 hf (fun M4 hf => ?_)
  refine g_aload_n (pc := 19) cx dX1_dropOldest_19 rfl 0 rfl ?_
  refine fg_X1_9 (pc := 20) cx dX1_dropOldest_20 h0 ?_
  refine g_iconst (pc := 23) (v := 1) cx dX1_dropOldest_23 (by decide) ?_
  refine g_aload_n (pc := 24) cx dX1_dropOldest_24 rfl 0 rfl ?_
  refine fg_X1_9 (pc := 25) cx dX1_dropOldest_25 h0 ?_
  refine g_iconst (pc := 28) (v := 0) cx dX1_dropOldest_28 (by decide) ?_
  refine g_aload_n (pc := 29) cx dX1_dropOldest_29 rfl 0 rfl ?_
  refine fg_X1_38 (pc := 30) cx dX1_dropOldest_30 h0 ?_
  refine g_cpyI (pc := 33) cx (by decide) tm_X1_41 (LLog_kinds h0) (LLog_kinds h0) dX1_dropOldest_33 hf (Nat.le_of_ble_eq_true rfl) (fun M5 hf => ?_)
  refine g_aload_n (pc := 36) cx dX1_dropOldest_36 rfl 0 rfl ?_
  refine fg_X1_15 (pc := 37) cx dX1_dropOldest_37 h0 ?_
  refine g_iconst (pc := 40) (v := 1) cx dX1_dropOldest_40 (by decide) ?_
  refine g_aload_n (pc := 41) cx dX1_dropOldest_41 rfl 0 rfl ?_
  refine fg_X1_15 (pc := 42) cx dX1_dropOldest_42 h0 ?_
  refine g_iconst (pc := 45) (v := 0) cx dX1_dropOldest_45 (by decide) ?_
  refine g_aload_n (pc := 46) cx dX1_dropOldest_46 rfl 0 rfl ?_
  refine fg_X1_38 (pc := 47) cx dX1_dropOldest_47 h0 ?_
  refine g_cpyI (pc := 50) cx (by decide) tm_X1_41 (LLog_places h0) (LLog_places h0) dX1_dropOldest_50 hf (Nat.le_of_ble_eq_true rfl) (fun M6 hf => ?_)
  refine g_aload_n (pc := 53) cx dX1_dropOldest_53 rfl 0 rfl ?_
  refine fg_X1_18 (pc := 54) cx dX1_dropOldest_54 h0 ?_
  refine g_iconst (pc := 57) (v := 1) cx dX1_dropOldest_57 (by decide) ?_
  refine g_aload_n (pc := 58) cx dX1_dropOldest_58 rfl 0 rfl ?_
  refine fg_X1_18 (pc := 59) cx dX1_dropOldest_59 h0 ?_
  refine g_iconst (pc := 62) (v := 0) cx dX1_dropOldest_62 (by decide) ?_
  refine g_aload_n (pc := 63) cx dX1_dropOldest_63 rfl 0 rfl ?_
  refine fg_X1_38 (pc := 64) cx dX1_dropOldest_64 h0 ?_
  refine g_cpyI (pc := 67) cx (by decide) tm_X1_41 (LLog_times h0) (LLog_times h0) dX1_dropOldest_67 hf (Nat.le_of_ble_eq_true rfl) (fun M7 hf => ?_)
  exact g_vret (pc := 70) cx en dX1_dropOldest_70 hf
/-! X1_write -/
def b_X1_write_13 (a0 : Nat) (M : Mm) (x1 x2 x3 : Int32) : OR := ckd (M a0 1) 24 (bnd (mst M (a0 + 1) (ix (M a0 1)) x1) fun M1 => ckd (M1 a0 1) 24 (bnd (mst M1 (a0 + 2) (ix (M1 a0 1)) x2) fun M2 => ckd (M2 a0 1) 24 (bnd (mst M2 (a0 + 3) (ix (M2 a0 1)) x3) fun M3 => bnd (mst M3 a0 1 ((M3 a0 1) + 1)) fun M4 => bnd (mst M4 a0 0 ((M4 a0 0) + 1)) fun M5 => some (0, M5))))
def f_X1_write (a0 : Nat) (M : Mm) (x1 x2 x3 : Int32) : OR := if (M a0 1) < 24 then b_X1_write_13 a0 M x1 x2 x3 else obn (f_X1_dropOldest a0 M) fun _ M1 => (b_X1_write_13 a0 M1 x1 x2 x3)
set_option maxHeartbeats 4000000 in
set_option maxRecDepth 100000 in
theorem w_X1_write_13 {l : Launch} {w : Wp} {L : Ly} {E : Cx} {a0 : Nat} {x1 x2 x3 : Int32} {R0 : Int32 × Mm} (cx : Ok w L E RX1 cX1_write 4 2) (en : En w L E none R0) (h0 : LLog w L (a0)) {M : Mm} (hf : b_X1_write_13 a0 M x1 x2 x3 = some R0) : G l w L E M [(0, .ref a0), (1, .int x1), (2, .int x2), (3, .int x3)] 13 [] := by
  unfold b_X1_write_13 at hf
  refine g_aload_n (pc := 13) cx dX1_write_13 rfl 0 rfl ?_
  refine fg_X1_9 (pc := 14) cx dX1_write_14 h0 ?_
  refine g_aload_n (pc := 17) cx dX1_write_17 rfl 0 rfl ?_
  refine fg_X1_38 (pc := 18) cx dX1_write_18 h0 ?_
  refine g_iload_n (pc := 21) cx dX1_write_21 rfl 1 rfl ?_
  refine g_iast (pc := 22) cx (LLog_kinds h0) dX1_write_22 hf (fun M1 hf => ?_)
  refine g_aload_n (pc := 23) cx dX1_write_23 rfl 0 rfl ?_
  refine fg_X1_15 (pc := 24) cx dX1_write_24 h0 ?_
  refine g_aload_n (pc := 27) cx dX1_write_27 rfl 0 rfl ?_
  refine fg_X1_38 (pc := 28) cx dX1_write_28 h0 ?_
  refine g_iload_n (pc := 31) cx dX1_write_31 rfl 2 rfl ?_
  refine g_iast (pc := 32) cx (LLog_places h0) dX1_write_32 hf (fun M2 hf => ?_)
  refine g_aload_n (pc := 33) cx dX1_write_33 rfl 0 rfl ?_
  refine fg_X1_18 (pc := 34) cx dX1_write_34 h0 ?_
  refine g_aload_n (pc := 37) cx dX1_write_37 rfl 0 rfl ?_
  refine fg_X1_38 (pc := 38) cx dX1_write_38 h0 ?_
  refine g_iload_n (pc := 41) cx dX1_write_41 rfl 3 rfl ?_
  refine g_iast (pc := 42) cx (LLog_times h0) dX1_write_42 hf (fun M3 hf => ?_)
  refine g_aload_n (pc := 43) cx dX1_write_43 rfl 0 rfl ?_
  refine g_dup (pc := 44) cx dX1_write_44 rfl ?_
  refine fg_X1_38 (pc := 45) cx dX1_write_45 h0 ?_
  refine g_iconst (pc := 48) (v := 1) cx dX1_write_48 (by decide) ?_
  refine g_iadd (pc := 49) cx dX1_write_49 ?_
  refine fp_X1_38 (pc := 50) cx dX1_write_50 h0 hf (fun M4 hf => ?_)
  refine g_aload_n (pc := 53) cx dX1_write_53 rfl 0 rfl ?_
  refine g_dup (pc := 54) cx dX1_write_54 rfl ?_
  refine fg_X1_34 (pc := 55) cx dX1_write_55 h0 ?_
  refine g_iconst (pc := 58) (v := 1) cx dX1_write_58 (by decide) ?_
  refine g_iadd (pc := 59) cx dX1_write_59 ?_
  refine fp_X1_34 (pc := 60) cx dX1_write_60 h0 hf (fun M5 hf => ?_)
  exact g_vret (pc := 63) cx en dX1_write_63 hf
set_option maxHeartbeats 4000000 in
set_option maxRecDepth 100000 in
theorem c_X1_write {l : Launch} {w : Wp} {L : Ly} {a0 : Nat} {M : Mm} {x1 x2 x3 : Int32} {R0 : Int32 × Mm} (h0 : LLog w L (a0)) (hf : f_X1_write a0 M x1 x2 x3 = some R0) : CT l w L yX1_write cX1_write 4 none 2 [.ref a0, .int x1, .int x2, .int x3] M R0 := by
  unfold f_X1_write at hf
  refine CT_of pn_X1 (Nat.le_of_ble_eq_true rfl) (fun E cx en => ?_)
  have cx : Ok w L E RX1 cX1_write 4 2 := cx
  show G l w L E M [(0, .ref a0), (1, .int x1), (2, .int x2), (3, .int x3)] 0 []
  refine g_aload_n (pc := 0) cx dX1_write_0 rfl 0 rfl ?_
  refine fg_X1_38 (pc := 1) cx dX1_write_1 h0 ?_
  refine g_bipush (pc := 4) (v := 24) cx dX1_write_4 (by decide) ?_
  refine g_icmp_lt (pc := 6) (tgt := 13) cx dX1_write_6 rfl hf (fun hf => ?_) (fun hf => ?_)
  · exact w_X1_write_13 cx en h0 hf
  · refine g_aload_n (pc := 9) cx dX1_write_9 rfl 0 rfl ?_
    obtain ⟨q3, M1, hc2, hf⟩ := obn_some2 hf
    refine g_callVv (pc := 10) [] [] cx lk_X1_47 vw_X1 (LLog_o h0) (by decide) (c_X1_dropOldest h0 hc2) dX1_write_10 (Nat.le_of_ble_eq_true rfl) ?_
    exact w_X1_write_13 cx en h0 hf
/-! X1_tell -/
def l_X1_tell_32 (a0 : Nat) : Nat → Mm → Int32 → OR
  | 0, _, _ => none
  | k + 1, M, x1 => if x1 < (M a0 1) then obn (f_X1_setBy a0 (a0 + 6) (a0 + 7) M x1) fun _ M1 => (l_X1_tell_32 a0 k M1 (x1 + 1)) else some (0, M)
def f_X1_tell (a0 : Nat) (M : Mm) : OR := cpk 0 0 10 10 10 (bnd (mrow M (a0 + 6) (va_cpy (M (a0 + 4)) (M (a0 + 6)) (ix 0) (ix 0) (ix 10))) fun M1 => cpk 0 0 16 16 16 (bnd (mrow M1 (a0 + 7) (va_cpy (M1 (a0 + 5)) (M1 (a0 + 7)) (ix 0) (ix 0) (ix 16))) fun M2 => l_X1_tell_32 a0 FU M2 0))
set_option maxHeartbeats 4000000 in
set_option maxRecDepth 100000 in
theorem w_X1_tell_32 {l : Launch} {w : Wp} {L : Ly} {E : Cx} {a0 : Nat} {R0 : Int32 × Mm} (cx : Ok w L E RX1 cX1_tell 2 1) (en : En w L E none R0) (h0 : LLog w L (a0)) : ∀ (k : Nat) {M : Mm} {x1 : Int32}, l_X1_tell_32 a0 k M x1 = some R0 → G l w L E M [(0, .ref a0), (1, .int x1)] 32 [] := by
  intro k
  induction k with
  | zero =>
    intro M x1 hf
    exact absurd hf (by simp [l_X1_tell_32])
  | succ k ih =>
    intro M x1 hf
    unfold l_X1_tell_32 at hf
    refine g_iload_n (pc := 32) cx dX1_tell_32 rfl 1 rfl ?_
    refine g_aload_n (pc := 33) cx dX1_tell_33 rfl 0 rfl ?_
    refine fg_X1_38 (pc := 34) cx dX1_tell_34 h0 ?_
    refine g_icmp_ge (pc := 37) (tgt := 59) cx dX1_tell_37 rfl hf (fun hf => ?_) (fun hf => ?_)
    · refine g_aload_n (pc := 40) cx dX1_tell_40 rfl 0 rfl ?_
      refine g_iload_n (pc := 41) cx dX1_tell_41 rfl 1 rfl ?_
      refine g_aload_n (pc := 42) cx dX1_tell_42 rfl 0 rfl ?_
      refine fg_X1_28 (pc := 43) cx dX1_tell_43 h0 ?_
      refine g_aload_n (pc := 46) cx dX1_tell_46 rfl 0 rfl ?_
      refine fg_X1_31 (pc := 47) cx dX1_tell_47 h0 ?_
      obtain ⟨q3, M1, hc2, hf⟩ := obn_some2 hf
      refine g_callVv (pc := 50) [.int x1, .ref (a0 + 6), .ref (a0 + 7)] [] cx lk_X1_50 vw_X1 (LLog_o h0) (by decide) (c_X1_setBy h0 (LLog_feederTold h0) (LLog_closedTold h0) hc2) dX1_tell_50 (Nat.le_of_ble_eq_true rfl) ?_
      refine g_iinc (pc := 53) cx [(1, .int (x1 + 1)), (0, .ref a0)] dX1_tell_53 1 rfl rfl (by decide) rfl ?_
      refine g_goto (pc := 56) (tgt := 32) cx dX1_tell_56 rfl ?_
      refine g_sub [1, 0] [(0, .ref a0), (1, .int (x1 + 1))] rfl ?_
      exact ih hf
    · exact g_vret (pc := 59) cx en dX1_tell_59 hf
set_option maxHeartbeats 4000000 in
set_option maxRecDepth 100000 in
theorem c_X1_tell {l : Launch} {w : Wp} {L : Ly} {a0 : Nat} {M : Mm} {R0 : Int32 × Mm} (h0 : LLog w L (a0)) (hf : f_X1_tell a0 M = some R0) : CT l w L yX1_tell cX1_tell 2 none 1 [.ref a0] M R0 := by
  unfold f_X1_tell at hf
  refine CT_of pn_X1 (Nat.le_of_ble_eq_true rfl) (fun E cx en => ?_)
  have cx : Ok w L E RX1 cX1_tell 2 1 := cx
  show G l w L E M [(0, .ref a0)] 0 []
  refine g_aload_n (pc := 0) cx dX1_tell_0 rfl 0 rfl ?_
  refine fg_X1_21 (pc := 1) cx dX1_tell_1 h0 ?_
  refine g_iconst (pc := 4) (v := 0) cx dX1_tell_4 (by decide) ?_
  refine g_aload_n (pc := 5) cx dX1_tell_5 rfl 0 rfl ?_
  refine fg_X1_28 (pc := 6) cx dX1_tell_6 h0 ?_
  refine g_iconst (pc := 9) (v := 0) cx dX1_tell_9 (by decide) ?_
  refine g_bipush (pc := 10) (v := 10) cx dX1_tell_10 (by decide) ?_
  refine g_cpyI (pc := 12) cx (by decide) tm_X1_41 (LLog_feederAhead h0) (LLog_feederTold h0) dX1_tell_12 hf (Nat.le_of_ble_eq_true rfl) (fun M1 hf => ?_)
  refine g_aload_n (pc := 15) cx dX1_tell_15 rfl 0 rfl ?_
  refine fg_X1_24 (pc := 16) cx dX1_tell_16 h0 ?_
  refine g_iconst (pc := 19) (v := 0) cx dX1_tell_19 (by decide) ?_
  refine g_aload_n (pc := 20) cx dX1_tell_20 rfl 0 rfl ?_
  refine fg_X1_31 (pc := 21) cx dX1_tell_21 h0 ?_
  refine g_iconst (pc := 24) (v := 0) cx dX1_tell_24 (by decide) ?_
  refine g_bipush (pc := 25) (v := 16) cx dX1_tell_25 (by decide) ?_
  refine g_cpyZ (pc := 27) cx (by decide) tm_X1_41 (LLog_closedAhead h0) (LLog_closedTold h0) dX1_tell_27 hf (Nat.le_of_ble_eq_true rfl) (fun M2 hf => ?_)
  refine g_iconst (pc := 30) (v := 0) cx dX1_tell_30 (by decide) ?_
  refine g_istore_n (pc := 31) cx [(1, .int 0), (0, .ref a0)] dX1_tell_31 rfl (by decide) rfl ?_
  refine g_sub [1, 0] [(0, .ref a0), (1, .int 0)] rfl ?_
  exact w_X1_tell_32 cx en h0 FU hf
end
